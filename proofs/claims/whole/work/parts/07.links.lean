/-! ===== printed by wip/tools/links.py: the methods with their rooms, and the words of the tables that their instructions ask ===== -/
def MX8_init : xM := (yX8_init, cX8_init, 1, none, [], (1, 20, 2, 400))
def MX1_init : xM := (yX1_init, cX1_init, 2, none, [], (2, 40, 19, 2460))
def MX1_begin : xM := (yX1_begin, cX1_begin, 4, none, [], (0, 0, 0, 0))
def MX8_begin : xM := (yX8_begin, cX8_begin, 2, none, [], (0, 0, 0, 0))
def MX1_addSheet : xM := (yX1_addSheet, cX1_addSheet, 2, none, [], (1, 21, 0, 0))
def MX8_wouldJoin : xM := (yX8_wouldJoin, cX8_wouldJoin, 2, (some .boolean), [], (0, 0, 0, 0))
def MX8_putLayer : xM := (yX8_putLayer, cX8_putLayer, 4, (some .boolean), [], (1, 21, 0, 0))
def MX8_load : xM := (yX8_load, cX8_load, 3, none, [], (2, 44, 0, 0))
def MX1_addLayer : xM := (yX1_addLayer, cX1_addLayer, 3, none, [], (3, 66, 0, 0))
def MX1_first : xM := (yX1_first, cX1_first, 1, (some (.object "PastryBench$Bench")), [], (4, 88, 20, 2468))
def MX8_copyFrom : xM := (yX8_copyFrom, cX8_copyFrom, 3, none, [], (0, 0, 0, 0))
def MX1_copyFrom : xM := (yX1_copyFrom, cX1_copyFrom, 3, none, [], (1, 22, 0, 0))
def MX1_hasSheet : xM := (yX1_hasSheet, cX1_hasSheet, 2, (some .boolean), [], (0, 0, 0, 0))
def MX1_findWarmest : xM := (yX1_findWarmest, cX1_findWarmest, 3, (some .int), [], (0, 0, 0, 0))
def MX1_findFinest : xM := (yX1_findFinest, cX1_findFinest, 3, (some .int), [], (0, 0, 0, 0))
def MX1_countSealed : xM := (yX1_countSealed, cX1_countSealed, 3, (some .int), [], (0, 0, 0, 0))
def MX1_countCooling : xM := (yX1_countCooling, cX1_countCooling, 3, (some .int), [], (0, 0, 0, 0))
def MX1_countUnsafe : xM := (yX1_countUnsafe, cX1_countUnsafe, 3, (some .int), [], (0, 0, 0, 0))
def MX1_stateRefusal : xM := (yX1_stateRefusal, cX1_stateRefusal, 1, (some (.object "PastryBench$Refusal")), [], (0, 0, 0, 0))
def MX11_isFactor : xM := (yX11_isFactor, cX11_isFactor, 1, (some .boolean), [], (0, 0, 0, 0))
def MX11_layersFolded : xM := (yX11_layersFolded, cX11_layersFolded, 4, (some .int), [], (0, 0, 0, 0))
def MX8_totalHeight : xM := (yX8_totalHeight, cX8_totalHeight, 3, (some .int), [], (0, 0, 0, 0))
def MX8_findFoldObstacle : xM := (yX8_findFoldObstacle, cX8_findFoldObstacle, 2, (some .int), [], (1, 23, 0, 0))
def MX1_refusalOfFold : xM := (yX1_refusalOfFold, cX1_refusalOfFold, 3, (some (.object "PastryBench$Refusal")), [], (2, 44, 0, 0))
def MX11_warmedByWork : xM := (yX11_warmedByWork, cX11_warmedByWork, 1, (some .int), [], (1, 21, 0, 0))
def MX8_foldUp : xM := (yX8_foldUp, cX8_foldUp, 10, none, [], (2, 44, 0, 0))
def MX1_applyFold : xM := (yX1_applyFold, cX1_applyFold, 3, (some .int), [], (3, 73, 0, 0))
def MX8_lossPerLayer : xM := (yX8_lossPerLayer, cX8_lossPerLayer, 2, (some .int), [], (1, 21, 0, 0))
def MX8_thicknessRolled : xM := (yX8_thicknessRolled, cX8_thicknessRolled, 4, (some .int), [], (1, 21, 0, 0))
def MX8_sumRolled : xM := (yX8_sumRolled, cX8_sumRolled, 6, (some .int), [], (2, 44, 0, 0))
def MX1_refusalOfRoll : xM := (yX1_refusalOfRoll, cX1_refusalOfRoll, 3, (some (.object "PastryBench$Refusal")), [], (3, 69, 0, 0))
def MX8_sumEscaping : xM := (yX8_sumEscaping, cX8_sumEscaping, 5, (some .int), [], (2, 42, 0, 0))
def MX8_rollOut : xM := (yX8_rollOut, cX8_rollOut, 10, (some .int), [], (2, 44, 0, 0))
def MX1_applyRoll : xM := (yX1_applyRoll, cX1_applyRoll, 3, (some .int), [], (3, 73, 0, 0))
def MX1_refusalOfDust : xM := (yX1_refusalOfDust, cX1_refusalOfDust, 2, (some (.object "PastryBench$Refusal")), [], (1, 21, 0, 0))
def MX1_applyDust : xM := (yX1_applyDust, cX1_applyDust, 2, (some .int), [], (0, 0, 0, 0))
def MX1_refusalOfSeal : xM := (yX1_refusalOfSeal, cX1_refusalOfSeal, 2, (some (.object "PastryBench$Refusal")), [], (1, 21, 0, 0))
def MX1_applySeal : xM := (yX1_applySeal, cX1_applySeal, 2, (some .int), [], (1, 22, 0, 0))
def MX1_refusalOfCool : xM := (yX1_refusalOfCool, cX1_refusalOfCool, 2, (some (.object "PastryBench$Refusal")), [], (1, 22, 0, 0))
def MX1_applyCool : xM := (yX1_applyCool, cX1_applyCool, 2, (some .int), [], (1, 22, 0, 0))
def MX1_refusalOfTakeOut : xM := (yX1_refusalOfTakeOut, cX1_refusalOfTakeOut, 2, (some (.object "PastryBench$Refusal")), [], (1, 21, 0, 0))
def MX1_applyTakeOut : xM := (yX1_applyTakeOut, cX1_applyTakeOut, 2, (some .int), [], (0, 0, 0, 0))
def MX1_refusalOfHours : xM := (yX1_refusalOfHours, cX1_refusalOfHours, 2, (some (.object "PastryBench$Refusal")), [], (1, 20, 0, 0))
def MX11_cooledByFridge : xM := (yX11_cooledByFridge, cX11_cooledByFridge, 1, (some .int), [], (1, 21, 0, 0))
def MX11_drawnToRoom : xM := (yX11_drawnToRoom, cX11_drawnToRoom, 2, (some .int), [], (0, 0, 0, 0))
def MX8_warmthAfter : xM := (yX8_warmthAfter, cX8_warmthAfter, 5, (some .int), [], (2, 41, 0, 0))
def MX1_applyHours : xM := (yX1_applyHours, cX1_applyHours, 3, (some .int), [], (3, 65, 0, 0))
def MX1_refusalOfCut : xM := (yX1_refusalOfCut, cX1_refusalOfCut, 2, (some (.object "PastryBench$Refusal")), [], (1, 21, 0, 0))
def MX1_applyCut : xM := (yX1_applyCut, cX1_applyCut, 3, (some .int), [], (1, 22, 0, 0))
def MX8_joinsWith : xM := (yX8_joinsWith, cX8_joinsWith, 2, (some .boolean), [], (1, 21, 0, 0))
def MX8_layersWith : xM := (yX8_layersWith, cX8_layersWith, 2, (some .int), [], (2, 42, 0, 0))
def MX1_refusalOfStack : xM := (yX1_refusalOfStack, cX1_refusalOfStack, 7, (some (.object "PastryBench$Refusal")), [], (3, 63, 0, 0))
def MX8_carry : xM := (yX8_carry, cX8_carry, 4, none, [], (2, 44, 0, 0))
def MX1_removeSheet : xM := (yX1_removeSheet, cX1_removeSheet, 4, none, [], (0, 0, 0, 0))
def MX1_applyStack : xM := (yX1_applyStack, cX1_applyStack, 4, (some .int), [], (3, 67, 0, 0))
def MX1_refusalOfButter : xM := (yX1_refusalOfButter, cX1_refusalOfButter, 5, (some (.object "PastryBench$Refusal")), [], (1, 22, 0, 0))
def MX8_butterTop : xM := (yX8_butterTop, cX8_butterTop, 3, none, [], (2, 44, 0, 0))
def MX1_applyButter : xM := (yX1_applyButter, cX1_applyButter, 3, (some .int), [], (3, 66, 0, 0))
def MX1_refusalOfFlour : xM := (yX1_refusalOfFlour, cX1_refusalOfFlour, 2, (some (.object "PastryBench$Refusal")), [], (1, 20, 0, 0))
def MX1_applyFlour : xM := (yX1_applyFlour, cX1_applyFlour, 2, (some .int), [], (0, 0, 0, 0))
def MX3_init : xM := (yX3_init, cX3_init, 2, none, [], (3, 61, 161, 19752))
def MX3_forget : xM := (yX3_forget, cX3_forget, 1, none, [], (0, 0, 0, 0))
def MX3_dropOldest : xM := (yX3_dropOldest, cX3_dropOldest, 3, none, [], (0, 0, 0, 0))
def MX3_remember : xM := (yX3_remember, cX3_remember, 2, none, [], (2, 44, 0, 0))
def MX3_takeBack : xM := (yX3_takeBack, cX3_takeBack, 2, none, [], (2, 44, 0, 0))
def MX4_init : xM := (yX4_init, cX4_init, 1, none, [], (1, 20, 1, 1200))
def MX4_put : xM := (yX4_put, cX4_put, 2, none, [], (0, 0, 0, 0))
def MX4_putNumber : xM := (yX4_putNumber, cX4_putNumber, 3, none, [], (1, 21, 0, 0))
def MX4_replaceBy : xM := (yX4_replaceBy, cX4_replaceBy, 3, none, [], (2, 43, 0, 0))
def MX10_init : xM := (yX10_init, cX10_init, 1, none, [], (1, 20, 1, 0))
def MX5_init : xM := (yX5_init, cX5_init, 1, none, [], (2, 40, 2, 6))
def MX10_isSeparator : xM := (yX10_isSeparator, cX10_isSeparator, 1, (some .boolean), [], (0, 0, 0, 0))
def MX10_isLetter : xM := (yX10_isLetter, cX10_isLetter, 1, (some .boolean), [], (0, 0, 0, 0))
def MX10_isDigit : xM := (yX10_isDigit, cX10_isDigit, 1, (some .boolean), [], (0, 0, 0, 0))
def MX10_advance : xM := (yX10_advance, cX10_advance, 2, none, [], (1, 21, 0, 0))
def MX10_begin : xM := (yX10_begin, cX10_begin, 3, none, [], (2, 42, 0, 0))
def MX5_begin : xM := (yX5_begin, cX5_begin, 3, none, [], (3, 64, 0, 0))
def MX5_fail : xM := (yX5_fail, cX5_fail, 2, (some .boolean), [], (0, 0, 0, 0))
def MJ0_coder_7d493 : xM := (yJ0_coder_7d493, cJ0_coder_7d493, 1, (some .byte), [], (0, 0, 0, 0))
def MJ0_length_8abf5 : xM := (yJ0_length_8abf5, cJ0_length_8abf5, 1, (some .int), [], (1, 20, 0, 0))
def MJ0_isLatin1_aae02 : xM := (yJ0_isLatin1_aae02, cJ0_isLatin1_aae02, 1, (some .boolean), [], (0, 0, 0, 0))
def MJ3_checkIndex_8e157 : xM := (yJ3_checkIndex_8e157, cJ3_checkIndex_8e157, 3, (some .int), [], (0, 0, 0, 0))
def MJ0_checkIndex_df160 : xM := (yJ0_checkIndex_df160, cJ0_checkIndex_df160, 2, none, [], (1, 22, 0, 0))
def MJ1_charAt_3b067 : xM := (yJ1_charAt_3b067, cJ1_charAt_3b067, 2, (some .char), [], (2, 43, 0, 0))
def MJ2_length_9d52b : xM := (yJ2_length_9d52b, cJ2_length_9d52b, 1, (some .int), [], (0, 0, 0, 0))
def MJ2_checkIndex_2214a : xM := (yJ2_checkIndex_2214a, cJ2_checkIndex_2214a, 2, none, [], (2, 43, 0, 0))
def MJ2_getChar_3b067 : xM := (yJ2_getChar_3b067, cJ2_getChar_3b067, 2, (some .char), [], (1, 20, 0, 0))
def MJ2_charAt_3b067 : xM := (yJ2_charAt_3b067, cJ2_charAt_3b067, 2, (some .char), [], (3, 64, 0, 0))
def MJ0_charAt_5068e : xM := (yJ0_charAt_5068e, cJ0_charAt_5068e, 2, (some .char), [], (4, 85, 0, 0))
def MX10_isWord : xM := (yX10_isWord, cX10_isWord, 3, (some .boolean), [], (5, 106, 0, 0))
def MX5_takeWord : xM := (yX5_takeWord, cX5_takeWord, 2, (some .boolean), [], (6, 128, 0, 0))
def MX5_takeSemicolon : xM := (yX5_takeSemicolon, cX5_takeSemicolon, 1, (some .boolean), [], (2, 42, 0, 0))
def MX5_takeNumber : xM := (yX5_takeNumber, cX5_takeNumber, 3, (some .boolean), [], (2, 42, 0, 0))
def MX5_readHeader : xM := (yX5_readHeader, cX5_readHeader, 4, (some .boolean), [], (7, 149, 0, 0))
def MX5_isLayerWord : xM := (yX5_isLayerWord, cX5_isLayerWord, 1, (some .boolean), [], (6, 128, 0, 0))
def MX5_readLayer : xM := (yX5_readLayer, cX5_readLayer, 3, (some .boolean), [], (7, 148, 0, 0))
def MX5_readSheet : xM := (yX5_readSheet, cX5_readSheet, 3, (some .boolean), [], (8, 170, 0, 0))
def MX5_readBench : xM := (yX5_readBench, cX5_readBench, 5, (some .boolean), [], (9, 192, 0, 0))
def MX5_findCommand : xM := (yX5_findCommand, cX5_findCommand, 2, (some .int), [], (6, 128, 0, 0))
def MX7_add : xM := (yX7_add, cX7_add, 4, none, [], (0, 0, 0, 0))
def MX5_readCommand : xM := (yX5_readCommand, cX5_readCommand, 6, (some .boolean), [], (7, 149, 0, 0))
def MX5_readScript : xM := (yX5_readScript, cX5_readScript, 5, (some .boolean), [], (8, 174, 0, 0))
def MX7_init : xM := (yX7_init, cX7_init, 1, none, [], (1, 20, 3, 60))
def MJx29ce0_ordinal_8abf5 : xM := (yJx29ce0_ordinal_8abf5, cJx29ce0_ordinal_8abf5, 1, (some .int), [], (0, 0, 0, 0))
def MX7_refusalOf : xM := (yX7_refusalOf, cX7_refusalOf, 4, (some (.object "PastryBench$Refusal")), [], (4, 91, 0, 0))
def MX7_execute : xM := (yX7_execute, cX7_execute, 4, (some .int), [], (4, 95, 0, 0))
def MX7_executeOn : xM := (yX7_executeOn, cX7_executeOn, 3, (some .int), [], (5, 118, 0, 0))
def MX8_countButterLayers : xM := (yX8_countButterLayers, cX8_countButterLayers, 3, (some .int), [], (0, 0, 0, 0))
def MX8_totalButter : xM := (yX8_totalButter, cX8_totalButter, 3, (some .int), [], (0, 0, 0, 0))
def MX8_findThinnest : xM := (yX8_findThinnest, cX8_findThinnest, 3, (some .int), [], (0, 0, 0, 0))
def MX8_findThickest : xM := (yX8_findThickest, cX8_findThickest, 3, (some .int), [], (0, 0, 0, 0))
def MX8_countSeams : xM := (yX8_countSeams, cX8_countSeams, 3, (some .int), [], (0, 0, 0, 0))
def MX8_sameFromBothSides : xM := (yX8_sameFromBothSides, cX8_sameFromBothSides, 3, (some .boolean), [], (0, 0, 0, 0))
def MX8_countPossibleFolds : xM := (yX8_countPossibleFolds, cX8_countPossibleFolds, 5, (some .int), [], (1, 23, 0, 0))
def MX8_countBreaking : xM := (yX8_countBreaking, cX8_countBreaking, 6, (some .int), [], (2, 44, 0, 0))
def MX8_countHoursToSafety : xM := (yX8_countHoursToSafety, cX8_countHoursToSafety, 4, (some .int), [], (2, 41, 0, 0))
def MX11_init : xM := (yX11_init, cX11_init, 1, none, [], (5, 108, 232, 28934))
def MX11_appendWord : xM := (yX11_appendWord, cX11_appendWord, 3, none, [], (0, 0, 0, 0))
def MX11_appendText : xM := (yX11_appendText, cX11_appendText, 6, (some .int), [], (1, 22, 0, 0))
def MX11_requireLength : xM := (yX11_requireLength, cX11_requireLength, 2, none, [], (6, 90, 1, 6))
def MX11_loadBench : xM := (yX11_loadBench, cX11_loadBench, 3, (some .int), [], (10, 216, 1, 6))
def MX11_errorCode : xM := (yX11_errorCode, cX11_errorCode, 1, (some .int), [], (0, 0, 0, 0))
def MX11_errorOffset : xM := (yX11_errorOffset, cX11_errorOffset, 1, (some .int), [], (0, 0, 0, 0))
def MX11_sheetCount : xM := (yX11_sheetCount, cX11_sheetCount, 1, (some .int), [], (0, 0, 0, 0))
def MX11_roomTemperature : xM := (yX11_roomTemperature, cX11_roomTemperature, 1, (some .int), [], (0, 0, 0, 0))
def MX11_meltingPoint : xM := (yX11_meltingPoint, cX11_meltingPoint, 1, (some .int), [], (0, 0, 0, 0))
def MX11_flour : xM := (yX11_flour, cX11_flour, 1, (some .int), [], (0, 0, 0, 0))
def MX11_hoursPassed : xM := (yX11_hoursPassed, cX11_hoursPassed, 1, (some .int), [], (0, 0, 0, 0))
def MX11_escapedButter : xM := (yX11_escapedButter, cX11_escapedButter, 1, (some .int), [], (0, 0, 0, 0))
def MX11_brokenLayers : xM := (yX11_brokenLayers, cX11_brokenLayers, 1, (some .int), [], (0, 0, 0, 0))
def MX11_warmestSheet : xM := (yX11_warmestSheet, cX11_warmestSheet, 1, (some .int), [], (1, 22, 0, 0))
def MX11_finestSheet : xM := (yX11_finestSheet, cX11_finestSheet, 1, (some .int), [], (1, 22, 0, 0))
def MX11_sheetAt : xM := (yX11_sheetAt, cX11_sheetAt, 2, (some (.object "PastryBench$Sheet")), [], (6, 90, 1, 6))
def MX11_layerCount : xM := (yX11_layerCount, cX11_layerCount, 2, (some .int), [], (7, 111, 1, 6))
def MX11_butterLayerCount : xM := (yX11_butterLayerCount, cX11_butterLayerCount, 2, (some .int), [], (7, 111, 1, 6))
def MX11_requireLayer : xM := (yX11_requireLayer, cX11_requireLayer, 2, none, [], (6, 90, 1, 6))
def MX11_isButter : xM := (yX11_isButter, cX11_isButter, 4, (some .boolean), [], (7, 111, 2, 12))
def MX11_thickness : xM := (yX11_thickness, cX11_thickness, 4, (some .int), [], (7, 111, 2, 12))
def MX11_height : xM := (yX11_height, cX11_height, 2, (some .int), [], (7, 111, 1, 6))
def MX11_butterHeight : xM := (yX11_butterHeight, cX11_butterHeight, 2, (some .int), [], (7, 111, 1, 6))
def MX11_thinnestLayer : xM := (yX11_thinnestLayer, cX11_thinnestLayer, 2, (some .int), [], (7, 111, 1, 6))
def MX11_thickestLayer : xM := (yX11_thickestLayer, cX11_thickestLayer, 2, (some .int), [], (7, 111, 1, 6))
def MX11_seamCount : xM := (yX11_seamCount, cX11_seamCount, 2, (some .int), [], (7, 111, 1, 6))
def MX11_isSymmetric : xM := (yX11_isSymmetric, cX11_isSymmetric, 2, (some .boolean), [], (7, 111, 1, 6))
def MX11_temperature : xM := (yX11_temperature, cX11_temperature, 2, (some .int), [], (7, 111, 1, 6))
def MX11_isDusted : xM := (yX11_isDusted, cX11_isDusted, 2, (some .boolean), [], (7, 111, 1, 6))
def MX11_isSealed : xM := (yX11_isSealed, cX11_isSealed, 2, (some .boolean), [], (7, 111, 1, 6))
def MX11_isCooling : xM := (yX11_isCooling, cX11_isCooling, 2, (some .boolean), [], (7, 111, 1, 6))
def MX11_foldCount : xM := (yX11_foldCount, cX11_foldCount, 2, (some .int), [], (7, 111, 1, 6))
def MX11_expectedLayers : xM := (yX11_expectedLayers, cX11_expectedLayers, 2, (some .int), [], (7, 111, 1, 6))
def MX11_butterShare : xM := (yX11_butterShare, cX11_butterShare, 4, (some .float), [], (7, 111, 1, 6))
def MX11_meanThickness : xM := (yX11_meanThickness, cX11_meanThickness, 3, (some .double), [], (7, 111, 1, 6))
def MX11_requireFactor : xM := (yX11_requireFactor, cX11_requireFactor, 1, none, [], (6, 90, 1, 6))
def MX11_foldObstacle : xM := (yX11_foldObstacle, cX11_foldObstacle, 4, (some .int), [], (7, 111, 2, 12))
def MX11_layersAfterFold : xM := (yX11_layersAfterFold, cX11_layersAfterFold, 4, (some .int), [], (7, 111, 2, 12))
def MX11_foldsPossible : xM := (yX11_foldsPossible, cX11_foldsPossible, 4, (some .int), [], (7, 111, 2, 12))
def MX11_butterAtRisk : xM := (yX11_butterAtRisk, cX11_butterAtRisk, 2, (some .int), [], (7, 111, 1, 6))
def MX11_layersAtRisk : xM := (yX11_layersAtRisk, cX11_layersAtRisk, 4, (some .int), [], (7, 111, 2, 12))
def MX11_heightAfterRoll : xM := (yX11_heightAfterRoll, cX11_heightAfterRoll, 4, (some .int), [], (7, 111, 2, 12))
def MX11_temperatureAfter : xM := (yX11_temperatureAfter, cX11_temperatureAfter, 4, (some .int), [], (7, 111, 2, 12))
def MX11_hoursToSafety : xM := (yX11_hoursToSafety, cX11_hoursToSafety, 2, (some .int), [], (7, 111, 1, 6))
def MX11_throwIfRefused : xM := (yX11_throwIfRefused, cX11_throwIfRefused, 1, none, [], (6, 90, 3, 18))
def MX11_fold : xM := (yX11_fold, cX11_fold, 3, (some .int), [], (7, 110, 3, 18))
def MX11_roll : xM := (yX11_roll, cX11_roll, 3, (some .int), [], (7, 110, 3, 18))
def MX11_dust : xM := (yX11_dust, cX11_dust, 2, (some .int), [], (7, 110, 3, 18))
def MX11_seal : xM := (yX11_seal, cX11_seal, 2, (some .int), [], (7, 110, 3, 18))
def MX11_cool : xM := (yX11_cool, cX11_cool, 2, (some .int), [], (7, 110, 3, 18))
def MX11_takeOut : xM := (yX11_takeOut, cX11_takeOut, 2, (some .int), [], (7, 110, 3, 18))
def MX11_passHours : xM := (yX11_passHours, cX11_passHours, 2, (some .int), [], (7, 110, 3, 18))
def MX11_cut : xM := (yX11_cut, cX11_cut, 2, (some .int), [], (7, 110, 3, 18))
def MX11_stack : xM := (yX11_stack, cX11_stack, 3, (some .int), [], (7, 110, 3, 18))
def MX11_addButter : xM := (yX11_addButter, cX11_addButter, 3, (some .int), [], (7, 110, 3, 18))
def MX11_buyFlour : xM := (yX11_buyFlour, cX11_buyFlour, 2, (some .int), [], (7, 110, 3, 18))
def MX11_runScript : xM := (yX11_runScript, cX11_runScript, 3, (some .int), [], (9, 198, 1, 6))
def MX11_writeSheet : xM := (yX11_writeSheet, cX11_writeSheet, 2, (some .int), [], (7, 111, 1, 6))
def MX11_outputByte : xM := (yX11_outputByte, cX11_outputByte, 2, (some .int), [], (6, 90, 1, 6))
def MX11_undoableCount : xM := (yX11_undoableCount, cX11_undoableCount, 1, (some .int), [], (0, 0, 0, 0))
def MX11_undo : xM := (yX11_undo, cX11_undo, 1, (some .int), [], (6, 90, 1, 6))
def MX11_saveSnapshot : xM := (yX11_saveSnapshot, cX11_saveSnapshot, 1, none, [], (2, 44, 0, 0))
def MX11_restoreSnapshot : xM := (yX11_restoreSnapshot, cX11_restoreSnapshot, 1, (some .int), [], (6, 90, 1, 6))
def MX12_begin : xM := (yX12_begin, cX12_begin, 5, none, [], (0, 0, 0, 0))
def MX12_at : xM := (yX12_at, cX12_at, 1, (some .int), [], (0, 0, 0, 0))
def MX12_lay : xM := (yX12_lay, cX12_lay, 4, none, [], (1, 20, 0, 0))
def MX12_startSheet : xM := (yX12_startSheet, cX12_startSheet, 4, none, [], (2, 43, 0, 0))
def MX12_of : xM := (yX12_of, cX12_of, 3, (some .int), [], (1, 20, 0, 0))
def MX12_addLayer : xM := (yX12_addLayer, cX12_addLayer, 3, none, [], (2, 43, 0, 0))
def MX12_expectLayers : xM := (yX12_expectLayers, cX12_expectLayers, 2, none, [], (2, 43, 0, 0))
def MX12_init : xM := (yX12_init, cX12_init, 1, none, [], (3, 66, 9, 19341))
def MX12_thrown : xM := (yX12_thrown, cX12_thrown, 1, (some .int), [], (0, 0, 0, 0))
def MX12_inRange : xM := (yX12_inRange, cX12_inRange, 3, (some .boolean), [], (0, 0, 0, 0))
def MX12_lacks : xM := (yX12_lacks, cX12_lacks, 2, (some .boolean), [], (0, 0, 0, 0))
def MX12_lacksBoth : xM := (yX12_lacksBoth, cX12_lacksBoth, 3, (some .boolean), [], (1, 21, 0, 0))
def MX12_sizeOf : xM := (yX12_sizeOf, cX12_sizeOf, 1, (some .int), [], (0, 0, 0, 0))
def MX12_least : xM := (yX12_least, cX12_least, 2, (some .int), [], (0, 0, 0, 0))
def MX12_most : xM := (yX12_most, cX12_most, 2, (some .int), [], (0, 0, 0, 0))
def MX12_layer : xM := (yX12_layer, cX12_layer, 3, (some .int), [], (1, 20, 0, 0))
def MX12_areAlike : xM := (yX12_areAlike, cX12_areAlike, 2, (some .boolean), [], (0, 0, 0, 0))
def MX12_putLayer : xM := (yX12_putLayer, cX12_putLayer, 5, none, [], (3, 65, 0, 0))
def MX12_isSheet : xM := (yX12_isSheet, cX12_isSheet, 2, (some .boolean), [], (1, 22, 0, 0))
def MX12_isLayer : xM := (yX12_isLayer, cX12_isLayer, 3, (some .boolean), [], (2, 43, 0, 0))
def MX12_is : xM := (yX12_is, cX12_is, 3, (some .boolean), [], (2, 42, 0, 0))
def MX12_copySheet : xM := (yX12_copySheet, cX12_copySheet, 3, none, [], (1, 40, 0, 0))
def MX12_heightOf : xM := (yX12_heightOf, cX12_heightOf, 4, (some .int), [], (2, 42, 0, 0))
def MX12_butterOf : xM := (yX12_butterOf, cX12_butterOf, 4, (some .int), [], (2, 42, 0, 0))
def MX12_countWith : xM := (yX12_countWith, cX12_countWith, 4, (some .int), [], (3, 64, 0, 0))
def MX12_greatest : xM := (yX12_greatest, cX12_greatest, 4, (some .int), [], (2, 42, 0, 0))
def MX12_sheetCount : xM := (yX12_sheetCount, cX12_sheetCount, 1, (some .int), [], (0, 0, 0, 0))
def MX12_roomTemperature : xM := (yX12_roomTemperature, cX12_roomTemperature, 1, (some .int), [], (0, 0, 0, 0))
def MX12_meltingPoint : xM := (yX12_meltingPoint, cX12_meltingPoint, 1, (some .int), [], (0, 0, 0, 0))
def MX12_flour : xM := (yX12_flour, cX12_flour, 1, (some .int), [], (0, 0, 0, 0))
def MX12_hoursPassed : xM := (yX12_hoursPassed, cX12_hoursPassed, 1, (some .int), [], (0, 0, 0, 0))
def MX12_escapedButter : xM := (yX12_escapedButter, cX12_escapedButter, 1, (some .int), [], (0, 0, 0, 0))
def MX12_brokenLayers : xM := (yX12_brokenLayers, cX12_brokenLayers, 1, (some .int), [], (0, 0, 0, 0))
def MX12_warmestSheet : xM := (yX12_warmestSheet, cX12_warmestSheet, 1, (some .int), [], (3, 65, 0, 0))
def MX12_finestSheet : xM := (yX12_finestSheet, cX12_finestSheet, 1, (some .int), [], (3, 65, 0, 0))
def MX12_told : xM := (yX12_told, cX12_told, 3, (some .int), [], (2, 43, 0, 0))
def MX12_toldIs : xM := (yX12_toldIs, cX12_toldIs, 3, (some .boolean), [], (3, 64, 0, 0))
def MX12_layerCount : xM := (yX12_layerCount, cX12_layerCount, 2, (some .int), [], (3, 65, 0, 0))
def MX12_butterLayerCount : xM := (yX12_butterLayerCount, cX12_butterLayerCount, 4, (some .int), [], (2, 43, 0, 0))
def MX12_isButter : xM := (yX12_isButter, cX12_isButter, 3, (some .boolean), [], (3, 65, 0, 0))
def MX12_thickness : xM := (yX12_thickness, cX12_thickness, 3, (some .int), [], (3, 65, 0, 0))
def MX12_height : xM := (yX12_height, cX12_height, 2, (some .int), [], (3, 65, 0, 0))
def MX12_butterHeight : xM := (yX12_butterHeight, cX12_butterHeight, 2, (some .int), [], (3, 65, 0, 0))
def MX12_extreme : xM := (yX12_extreme, cX12_extreme, 5, (some .int), [], (2, 42, 0, 0))
def MX12_thinnestLayer : xM := (yX12_thinnestLayer, cX12_thinnestLayer, 2, (some .int), [], (3, 66, 0, 0))
def MX12_thickestLayer : xM := (yX12_thickestLayer, cX12_thickestLayer, 2, (some .int), [], (3, 66, 0, 0))
def MX12_seamCount : xM := (yX12_seamCount, cX12_seamCount, 4, (some .int), [], (2, 43, 0, 0))
def MX12_isSymmetric : xM := (yX12_isSymmetric, cX12_isSymmetric, 3, (some .boolean), [], (2, 43, 0, 0))
def MX12_temperature : xM := (yX12_temperature, cX12_temperature, 2, (some .int), [], (3, 65, 0, 0))
def MX12_isDusted : xM := (yX12_isDusted, cX12_isDusted, 2, (some .boolean), [], (4, 86, 0, 0))
def MX12_isSealed : xM := (yX12_isSealed, cX12_isSealed, 2, (some .boolean), [], (4, 86, 0, 0))
def MX12_isCooling : xM := (yX12_isCooling, cX12_isCooling, 2, (some .boolean), [], (4, 86, 0, 0))
def MX12_foldCount : xM := (yX12_foldCount, cX12_foldCount, 2, (some .int), [], (3, 65, 0, 0))
def MX12_expectedLayers : xM := (yX12_expectedLayers, cX12_expectedLayers, 2, (some .int), [], (3, 65, 0, 0))
def MX12_butterShare : xM := (yX12_butterShare, cX12_butterShare, 2, (some .float), [], (3, 65, 0, 0))
def MX12_meanThickness : xM := (yX12_meanThickness, cX12_meanThickness, 2, (some .double), [], (3, 65, 0, 0))
def MX12_foldedLayers : xM := (yX12_foldedLayers, cX12_foldedLayers, 3, (some .int), [], (0, 0, 0, 0))
def MX12_whyNotFold : xM := (yX12_whyNotFold, cX12_whyNotFold, 3, (some .int), [], (3, 65, 0, 0))
def MX12_areParts : xM := (yX12_areParts, cX12_areParts, 1, (some .boolean), [], (1, 22, 0, 0))
def MX12_lacksParts : xM := (yX12_lacksParts, cX12_lacksParts, 3, (some .boolean), [], (2, 43, 0, 0))
def MX12_foldObstacle : xM := (yX12_foldObstacle, cX12_foldObstacle, 3, (some .int), [], (4, 87, 0, 0))
def MX12_layersAfterFold : xM := (yX12_layersAfterFold, cX12_layersAfterFold, 3, (some .int), [], (4, 87, 0, 0))
def MX12_foldsPossible : xM := (yX12_foldsPossible, cX12_foldsPossible, 6, (some .int), [], (3, 65, 0, 0))
def MX12_warm : xM := (yX12_warm, cX12_warm, 2, none, [], (2, 43, 0, 0))
def MX12_foldUp : xM := (yX12_foldUp, cX12_foldUp, 7, none, [], (4, 89, 0, 0))
def MX12_escapes : xM := (yX12_escapes, cX12_escapes, 2, (some .int), [], (3, 64, 0, 0))
def MX12_rollOut : xM := (yX12_rollOut, cX12_rollOut, 9, none, [], (4, 89, 0, 0))
def MX12_butterAtRisk : xM := (yX12_butterAtRisk, cX12_butterAtRisk, 2, (some .int), [], (5, 117, 0, 0))
def MX12_layersAtRisk : xM := (yX12_layersAtRisk, cX12_layersAtRisk, 3, (some .int), [], (5, 117, 0, 0))
def MX12_heightAfterRoll : xM := (yX12_heightAfterRoll, cX12_heightAfterRoll, 3, (some .int), [], (5, 117, 0, 0))
def MX12_cooled : xM := (yX12_cooled, cX12_cooled, 1, (some .int), [], (1, 21, 0, 0))
def MX12_later : xM := (yX12_later, cX12_later, 3, (some .int), [], (2, 41, 0, 0))
def MX12_temperatureAfter : xM := (yX12_temperatureAfter, cX12_temperatureAfter, 5, (some .int), [], (3, 64, 0, 0))
def MX12_hoursToSafety : xM := (yX12_hoursToSafety, cX12_hoursToSafety, 4, (some .int), [], (2, 43, 0, 0))
def MX12_countWarm : xM := (yX12_countWarm, cX12_countWarm, 3, (some .int), [], (2, 42, 0, 0))
def MX12_doFold : xM := (yX12_doFold, cX12_doFold, 3, (some .int), [], (5, 115, 0, 0))
def MX12_doRoll : xM := (yX12_doRoll, cX12_doRoll, 3, (some .int), [], (5, 117, 0, 0))
def MX12_doDust : xM := (yX12_doDust, cX12_doDust, 2, (some .int), [], (3, 64, 0, 0))
def MX12_doSeal : xM := (yX12_doSeal, cX12_doSeal, 2, (some .int), [], (4, 87, 0, 0))
def MX12_doCool : xM := (yX12_doCool, cX12_doCool, 2, (some .int), [], (4, 87, 0, 0))
def MX12_doTakeOut : xM := (yX12_doTakeOut, cX12_doTakeOut, 2, (some .int), [], (3, 64, 0, 0))
def MX12_doHours : xM := (yX12_doHours, cX12_doHours, 4, (some .int), [], (3, 64, 0, 0))
def MX12_doCut : xM := (yX12_doCut, cX12_doCut, 2, (some .int), [], (3, 64, 0, 0))
def MX12_wouldJoin : xM := (yX12_wouldJoin, cX12_wouldJoin, 3, (some .boolean), [], (3, 64, 0, 0))
def MX12_areTooMuch : xM := (yX12_areTooMuch, cX12_areTooMuch, 4, (some .boolean), [], (4, 86, 0, 0))
def MX12_doStack : xM := (yX12_doStack, cX12_doStack, 5, (some .int), [], (5, 109, 0, 0))
def MX12_doButter : xM := (yX12_doButter, cX12_doButter, 3, (some .int), [], (4, 89, 0, 0))
def MX12_copy : xM := (yX12_copy, cX12_copy, 4, none, [], (1, 40, 0, 0))
def MX12_keep : xM := (yX12_keep, cX12_keep, 1, none, [], (2, 63, 0, 0))
def MX12_record : xM := (yX12_record, cX12_record, 2, none, [], (2, 63, 0, 0))
def MX12_ends : xM := (yX12_ends, cX12_ends, 2, (some .int), [], (3, 84, 0, 0))
def MX12_fold : xM := (yX12_fold, cX12_fold, 3, (some .int), [], (6, 137, 0, 0))
def MX12_roll : xM := (yX12_roll, cX12_roll, 3, (some .int), [], (6, 139, 0, 0))
def MX12_dust : xM := (yX12_dust, cX12_dust, 2, (some .int), [], (4, 105, 0, 0))
def MX12_seal : xM := (yX12_seal, cX12_seal, 2, (some .int), [], (5, 108, 0, 0))
def MX12_cool : xM := (yX12_cool, cX12_cool, 2, (some .int), [], (5, 108, 0, 0))
def MX12_takeOut : xM := (yX12_takeOut, cX12_takeOut, 2, (some .int), [], (4, 105, 0, 0))
def MX12_passHours : xM := (yX12_passHours, cX12_passHours, 2, (some .int), [], (4, 105, 0, 0))
def MX12_cut : xM := (yX12_cut, cX12_cut, 2, (some .int), [], (4, 105, 0, 0))
def MX12_stack : xM := (yX12_stack, cX12_stack, 3, (some .int), [], (6, 133, 0, 0))
def MX12_addButter : xM := (yX12_addButter, cX12_addButter, 3, (some .int), [], (5, 111, 0, 0))
def MX12_buyFlour : xM := (yX12_buyFlour, cX12_buyFlour, 2, (some .int), [], (4, 105, 0, 0))
def MX12_write : xM := (yX12_write, cX12_write, 2, none, [], (0, 0, 0, 0))
def MX12_writeNumber : xM := (yX12_writeNumber, cX12_writeNumber, 4, none, [], (1, 21, 0, 0))
def MX12_writeSheet : xM := (yX12_writeSheet, cX12_writeSheet, 3, (some .int), [], (2, 44, 0, 0))
def MX12_outputByte : xM := (yX12_outputByte, cX12_outputByte, 2, (some .int), [], (1, 22, 0, 0))
def MX12_undoableCount : xM := (yX12_undoableCount, cX12_undoableCount, 1, (some .int), [], (0, 0, 0, 0))
def MX12_undo : xM := (yX12_undo, cX12_undo, 1, (some .int), [], (2, 63, 0, 0))
def MX12_saveSnapshot : xM := (yX12_saveSnapshot, cX12_saveSnapshot, 1, none, [], (2, 63, 0, 0))
def MX12_restoreSnapshot : xM := (yX12_restoreSnapshot, cX12_restoreSnapshot, 1, (some .int), [], (2, 63, 0, 0))
def MX12_appendText : xM := (yX12_appendText, cX12_appendText, 8, (some .int), [], (0, 0, 0, 0))
def MX12_errorOffset : xM := (yX12_errorOffset, cX12_errorOffset, 1, (some .int), [], (0, 0, 0, 0))
def MX12_byteAt : xM := (yX12_byteAt, cX12_byteAt, 2, (some .int), [], (0, 0, 0, 0))
def MX12_isLetter : xM := (yX12_isLetter, cX12_isLetter, 2, (some .boolean), [], (1, 21, 0, 0))
def MX12_isDigit : xM := (yX12_isDigit, cX12_isDigit, 2, (some .boolean), [], (1, 21, 0, 0))
def MX12_scan : xM := (yX12_scan, cX12_scan, 1, none, [], (2, 42, 0, 0))
def MX12_startText : xM := (yX12_startText, cX12_startText, 2, none, [], (3, 62, 0, 0))
def MX12_finish : xM := (yX12_finish, cX12_finish, 1, (some .int), [], (0, 0, 0, 0))
def MX12_check : xM := (yX12_check, cX12_check, 3, none, [], (0, 0, 0, 0))
def MX12_advance : xM := (yX12_advance, cX12_advance, 1, none, [], (3, 62, 0, 0))
def MX12_isSymbol : xM := (yX12_isSymbol, cX12_isSymbol, 2, (some .boolean), [], (0, 0, 0, 0))
def MX12_isWord : xM := (yX12_isWord, cX12_isWord, 4, (some .boolean), [], (5, 106, 0, 0))
def MX12_expect : xM := (yX12_expect, cX12_expect, 2, none, [], (4, 82, 0, 0))
def MX12_value : xM := (yX12_value, cX12_value, 3, (some .int), [], (0, 0, 0, 0))
def MX12_look : xM := (yX12_look, cX12_look, 4, (some .int), [], (1, 22, 0, 0))
def MX12_readNumber : xM := (yX12_readNumber, cX12_readNumber, 4, (some .int), [], (4, 82, 0, 0))
def MX12_errorCode : xM := (yX12_errorCode, cX12_errorCode, 1, (some .int), [], (0, 0, 0, 0))
def MX12_isFaulty : xM := (yX12_isFaulty, cX12_isFaulty, 1, (some .boolean), [], (1, 20, 0, 0))
def MX12_isLength : xM := (yX12_isLength, cX12_isLength, 2, (some .boolean), [], (1, 22, 0, 0))
def MX12_isLayerHere : xM := (yX12_isLayerHere, cX12_isLayerHere, 1, (some .boolean), [], (6, 129, 0, 0))
def MX12_readLayer : xM := (yX12_readLayer, cX12_readLayer, 4, none, [], (7, 149, 0, 0))
def MX12_readSheet : xM := (yX12_readSheet, cX12_readSheet, 2, none, [], (8, 172, 0, 0))
def MX12_readBench : xM := (yX12_readBench, cX12_readBench, 4, none, [], (9, 193, 0, 0))
def MX12_loadBench : xM := (yX12_loadBench, cX12_loadBench, 2, (some .int), [], (10, 216, 0, 0))
def MX12_orderHere : xM := (yX12_orderHere, cX12_orderHere, 2, (some .int), [], (6, 129, 0, 0))
def MX12_readSecond : xM := (yX12_readSecond, cX12_readSecond, 2, (some .int), [], (5, 105, 0, 0))
def MX12_readOrder : xM := (yX12_readOrder, cX12_readOrder, 3, none, [], (7, 150, 0, 0))
def MX12_does : xM := (yX12_does, cX12_does, 4, (some .int), [], (6, 139, 0, 0))
def MX12_runScript : xM := (yX12_runScript, cX12_runScript, 3, (some .int), [], (8, 172, 0, 0))
def MJ9_max_7cf53 : xM := (yJ9_max_7cf53, cJ9_max_7cf53, 2, (some .int), [], (0, 0, 0, 0))
def MJ9_min_7cf53 : xM := (yJ9_min_7cf53, cJ9_min_7cf53, 2, (some .int), [], (0, 0, 0, 0))
def ML_loadBench : xM := (yL_loadBench, cL_loadBench, 4, (some .int), [(0, 9, 12, 13)], (11, 238, 1, 6))
def ML_layerCount : xM := (yL_layerCount, cL_layerCount, 4, (some .int), [(0, 9, 12, 18)], (8, 132, 1, 6))
def ML_butterLayerCount : xM := (yL_butterLayerCount, cL_butterLayerCount, 4, (some .int), [(0, 9, 12, 18)], (8, 132, 1, 6))
def ML_isButter : xM := (yL_isButter, cL_isButter, 5, (some .int), [(0, 17, 20, 18)], (8, 134, 2, 12))
def ML_thickness : xM := (yL_thickness, cL_thickness, 5, (some .int), [(0, 10, 13, 18)], (8, 134, 2, 12))
def ML_height : xM := (yL_height, cL_height, 4, (some .int), [(0, 9, 12, 18)], (8, 132, 1, 6))
def ML_butterHeight : xM := (yL_butterHeight, cL_butterHeight, 4, (some .int), [(0, 9, 12, 18)], (8, 132, 1, 6))
def ML_thinnestLayer : xM := (yL_thinnestLayer, cL_thinnestLayer, 4, (some .int), [(0, 9, 12, 18)], (8, 132, 1, 6))
def ML_thickestLayer : xM := (yL_thickestLayer, cL_thickestLayer, 4, (some .int), [(0, 9, 12, 18)], (8, 132, 1, 6))
def ML_seamCount : xM := (yL_seamCount, cL_seamCount, 4, (some .int), [(0, 9, 12, 18)], (8, 132, 1, 6))
def ML_isSymmetric : xM := (yL_isSymmetric, cL_isSymmetric, 4, (some .int), [(0, 16, 19, 18)], (8, 132, 1, 6))
def ML_temperature : xM := (yL_temperature, cL_temperature, 4, (some .int), [(0, 9, 12, 18)], (8, 132, 1, 6))
def ML_isDusted : xM := (yL_isDusted, cL_isDusted, 4, (some .int), [(0, 16, 19, 18)], (8, 132, 1, 6))
def ML_isSealed : xM := (yL_isSealed, cL_isSealed, 4, (some .int), [(0, 16, 19, 18)], (8, 132, 1, 6))
def ML_isCooling : xM := (yL_isCooling, cL_isCooling, 4, (some .int), [(0, 16, 19, 18)], (8, 132, 1, 6))
def ML_foldCount : xM := (yL_foldCount, cL_foldCount, 4, (some .int), [(0, 9, 12, 18)], (8, 132, 1, 6))
def ML_expectedLayers : xM := (yL_expectedLayers, cL_expectedLayers, 4, (some .int), [(0, 9, 12, 18)], (8, 132, 1, 6))
def ML_butterShare : xM := (yL_butterShare, cL_butterShare, 4, (some .int), [(0, 9, 12, 18)], (8, 134, 1, 6))
def ML_meanThickness : xM := (yL_meanThickness, cL_meanThickness, 4, (some .int), [(0, 8, 11, 18)], (8, 133, 1, 6))
def ML_foldObstacle : xM := (yL_foldObstacle, cL_foldObstacle, 5, (some .int), [(0, 10, 13, 18), (0, 10, 17, 13)], (8, 134, 2, 12))
def ML_layersAfterFold : xM := (yL_layersAfterFold, cL_layersAfterFold, 5, (some .int), [(0, 10, 13, 18), (0, 10, 17, 13)], (8, 134, 2, 12))
def ML_foldsPossible : xM := (yL_foldsPossible, cL_foldsPossible, 5, (some .int), [(0, 10, 13, 18), (0, 10, 17, 13)], (8, 134, 2, 12))
def ML_butterAtRisk : xM := (yL_butterAtRisk, cL_butterAtRisk, 4, (some .int), [(0, 9, 12, 18)], (8, 132, 1, 6))
def ML_layersAtRisk : xM := (yL_layersAtRisk, cL_layersAtRisk, 5, (some .int), [(0, 10, 13, 18), (0, 10, 17, 13)], (8, 134, 2, 12))
def ML_heightAfterRoll : xM := (yL_heightAfterRoll, cL_heightAfterRoll, 5, (some .int), [(0, 10, 13, 18), (0, 10, 17, 13)], (8, 134, 2, 12))
def ML_temperatureAfter : xM := (yL_temperatureAfter, cL_temperatureAfter, 5, (some .int), [(0, 10, 13, 18), (0, 10, 17, 13)], (8, 134, 2, 12))
def ML_hoursToSafety : xM := (yL_hoursToSafety, cL_hoursToSafety, 4, (some .int), [(0, 9, 12, 18)], (8, 132, 1, 6))
def ML_fold : xM := (yL_fold, cL_fold, 5, (some .int), [(0, 10, 13, 18), (0, 10, 17, 13), (0, 10, 21, 103)], (8, 132, 3, 18))
def ML_roll : xM := (yL_roll, cL_roll, 5, (some .int), [(0, 10, 13, 18), (0, 10, 17, 13), (0, 10, 21, 103)], (8, 132, 3, 18))
def ML_dust : xM := (yL_dust, cL_dust, 4, (some .int), [(0, 9, 12, 18), (0, 9, 15, 103)], (8, 131, 3, 18))
def ML_seal : xM := (yL_seal, cL_seal, 4, (some .int), [(0, 9, 12, 18), (0, 9, 15, 103)], (8, 131, 3, 18))
def ML_cool : xM := (yL_cool, cL_cool, 4, (some .int), [(0, 9, 12, 18), (0, 9, 15, 103)], (8, 131, 3, 18))
def ML_takeOut : xM := (yL_takeOut, cL_takeOut, 4, (some .int), [(0, 9, 12, 18), (0, 9, 15, 103)], (8, 131, 3, 18))
def ML_passHours : xM := (yL_passHours, cL_passHours, 4, (some .int), [(0, 9, 12, 13), (0, 9, 15, 103)], (8, 131, 3, 18))
def ML_cut : xM := (yL_cut, cL_cut, 4, (some .int), [(0, 9, 12, 18), (0, 9, 15, 103)], (8, 131, 3, 18))
def ML_stack : xM := (yL_stack, cL_stack, 5, (some .int), [(0, 10, 13, 18), (0, 10, 17, 13), (0, 10, 21, 103)], (8, 132, 3, 18))
def ML_addButter : xM := (yL_addButter, cL_addButter, 5, (some .int), [(0, 10, 13, 18), (0, 10, 17, 13), (0, 10, 21, 103)], (8, 132, 3, 18))
def ML_buyFlour : xM := (yL_buyFlour, cL_buyFlour, 4, (some .int), [(0, 9, 12, 13), (0, 9, 15, 103)], (8, 131, 3, 18))
def ML_runScript : xM := (yL_runScript, cL_runScript, 4, (some .int), [(0, 9, 12, 13)], (10, 220, 1, 6))
def ML_writeSheet : xM := (yL_writeSheet, cL_writeSheet, 4, (some .int), [(0, 9, 12, 18)], (8, 132, 1, 6))
def ML_outputByte : xM := (yL_outputByte, cL_outputByte, 4, (some .int), [(0, 9, 12, 18)], (7, 111, 1, 6))
def ML_undo : xM := (yL_undo, cL_undo, 3, (some .int), [(0, 8, 11, 103)], (7, 110, 1, 6))
def ML_restoreSnapshot : xM := (yL_restoreSnapshot, cL_restoreSnapshot, 3, (some .int), [(0, 8, 11, 103)], (7, 110, 1, 6))
def ML_law : xM := (yL_law, cL_law, 9, (some .boolean), [], (14, 524, 601024, 7293034))
theorem cl_X1 : x_CL 0 RX1 TX1 8 tyX1 := ⟨rfl, fun w hw => by
  rcases List.mem_map.mp hw with ⟨k, hk, rfl⟩
  have hk := List.mem_range.mp hk
  rcases (show k = 0 ∨ k = 1 ∨ k = 2 ∨ k = 3 ∨ k = 4 ∨ k = 5 ∨ k = 6 ∨ k = 7 by omega) with rfl | rfl | rfl | rfl | rfl | rfl | rfl | rfl
  · exact bg_in 260 (by decide +kernel) rfl
  · exact bg_in 262 (by decide +kernel) rfl
  · exact bg_in 264 (by decide +kernel) rfl
  · exact bg_in 266 (by decide +kernel) rfl
  · exact bg_in 268 (by decide +kernel) rfl
  · exact bg_in 270 (by decide +kernel) rfl
  · exact bg_in 272 (by decide +kernel) rfl
  · exact bg_in 274 (by decide +kernel) rfl
  , tyX1_ok, nmX1⟩
theorem cl_X3 : x_CL 1 RX3 TX3 2 tyX3 := ⟨rfl, fun w hw => by
  rcases List.mem_map.mp hw with ⟨k, hk, rfl⟩
  have hk := List.mem_range.mp hk
  rcases (show k = 0 ∨ k = 1 by omega) with rfl | rfl
  · exact bg_in 319 (by decide +kernel) rfl
  · exact bg_in 321 (by decide +kernel) rfl
  , tyX3_ok, nmX3⟩
theorem cl_X4 : x_CL 2 RX4 TX4 2 tyX4 := ⟨rfl, fun w hw => by
  rcases List.mem_map.mp hw with ⟨k, hk, rfl⟩
  have hk := List.mem_range.mp hk
  rcases (show k = 0 ∨ k = 1 by omega) with rfl | rfl
  · exact bg_in 334 (by decide +kernel) rfl
  · exact bg_in 336 (by decide +kernel) rfl
  , tyX4_ok, nmX4⟩
theorem cl_X5 : x_CL 3 RX5 TX5 4 tyX5 := ⟨rfl, fun w hw => by
  rcases List.mem_map.mp hw with ⟨k, hk, rfl⟩
  have hk := List.mem_range.mp hk
  rcases (show k = 0 ∨ k = 1 ∨ k = 2 ∨ k = 3 by omega) with rfl | rfl | rfl | rfl
  · exact bg_in 151 (by decide +kernel) rfl
  · exact bg_in 153 (by decide +kernel) rfl
  · exact bg_in 155 (by decide +kernel) rfl
  · exact bg_in 157 (by decide +kernel) rfl
  , tyX5_ok, nmX5⟩
theorem cl_X7 : x_CL 4 RX7 TX7 4 tyX7 := ⟨rfl, fun w hw => by
  rcases List.mem_map.mp hw with ⟨k, hk, rfl⟩
  have hk := List.mem_range.mp hk
  rcases (show k = 0 ∨ k = 1 ∨ k = 2 ∨ k = 3 by omega) with rfl | rfl | rfl | rfl
  · exact bg_in 173 (by decide +kernel) rfl
  · exact bg_in 175 (by decide +kernel) rfl
  · exact bg_in 177 (by decide +kernel) rfl
  · exact bg_in 179 (by decide +kernel) rfl
  , tyX7_ok, nmX7⟩
theorem cl_X8 : x_CL 5 RX8 TX8 9 tyX8 := ⟨rfl, fun w hw => by
  rcases List.mem_map.mp hw with ⟨k, hk, rfl⟩
  have hk := List.mem_range.mp hk
  rcases (show k = 0 ∨ k = 1 ∨ k = 2 ∨ k = 3 ∨ k = 4 ∨ k = 5 ∨ k = 6 ∨ k = 7 ∨ k = 8 by omega) with rfl | rfl | rfl | rfl | rfl | rfl | rfl | rfl | rfl
  · exact bg_in 224 (by decide +kernel) rfl
  · exact bg_in 226 (by decide +kernel) rfl
  · exact bg_in 228 (by decide +kernel) rfl
  · exact bg_in 230 (by decide +kernel) rfl
  · exact bg_in 232 (by decide +kernel) rfl
  · exact bg_in 234 (by decide +kernel) rfl
  · exact bg_in 236 (by decide +kernel) rfl
  · exact bg_in 238 (by decide +kernel) rfl
  · exact bg_in 240 (by decide +kernel) rfl
  , tyX8_ok, nmX8⟩
theorem cl_X10 : x_CL 6 RX10 TX10 6 tyX10 := ⟨rfl, fun w hw => by
  rcases List.mem_map.mp hw with ⟨k, hk, rfl⟩
  have hk := List.mem_range.mp hk
  rcases (show k = 0 ∨ k = 1 ∨ k = 2 ∨ k = 3 ∨ k = 4 ∨ k = 5 by omega) with rfl | rfl | rfl | rfl | rfl | rfl
  · exact bg_in 131 (by decide +kernel) rfl
  · exact bg_in 133 (by decide +kernel) rfl
  · exact bg_in 135 (by decide +kernel) rfl
  · exact bg_in 137 (by decide +kernel) rfl
  · exact bg_in 139 (by decide +kernel) rfl
  · exact bg_in 141 (by decide +kernel) rfl
  , tyX10_ok, nmX10⟩
theorem cl_X11 : x_CL 7 RX11 TX11 10 tyX11 := ⟨rfl, fun w hw => by
  rcases List.mem_map.mp hw with ⟨k, hk, rfl⟩
  have hk := List.mem_range.mp hk
  rcases (show k = 0 ∨ k = 1 ∨ k = 2 ∨ k = 3 ∨ k = 4 ∨ k = 5 ∨ k = 6 ∨ k = 7 ∨ k = 8 ∨ k = 9 by omega) with rfl | rfl | rfl | rfl | rfl | rfl | rfl | rfl | rfl | rfl
  · exact bg_in 349 (by decide +kernel) rfl
  · exact bg_in 351 (by decide +kernel) rfl
  · exact bg_in 353 (by decide +kernel) rfl
  · exact bg_in 355 (by decide +kernel) rfl
  · exact bg_in 357 (by decide +kernel) rfl
  · exact bg_in 359 (by decide +kernel) rfl
  · exact bg_in 361 (by decide +kernel) rfl
  · exact bg_in 363 (by decide +kernel) rfl
  · exact bg_in 365 (by decide +kernel) rfl
  · exact bg_in 367 (by decide +kernel) rfl
  , tyX11_ok, nmX11⟩
theorem cl_X12 : x_CL 8 RX12 TX12 29 tyX12 := ⟨rfl, fun w hw => by
  rcases List.mem_map.mp hw with ⟨k, hk, rfl⟩
  have hk := List.mem_range.mp hk
  rcases (show k = 0 ∨ k = 1 ∨ k = 2 ∨ k = 3 ∨ k = 4 ∨ k = 5 ∨ k = 6 ∨ k = 7 ∨ k = 8 ∨ k = 9 ∨ k = 10 ∨ k = 11 ∨ k = 12 ∨ k = 13 ∨ k = 14 ∨ k = 15 ∨ k = 16 ∨ k = 17 ∨ k = 18 ∨ k = 19 ∨ k = 20 ∨ k = 21 ∨ k = 22 ∨ k = 23 ∨ k = 24 ∨ k = 25 ∨ k = 26 ∨ k = 27 ∨ k = 28 by omega) with rfl | rfl | rfl | rfl | rfl | rfl | rfl | rfl | rfl | rfl | rfl | rfl | rfl | rfl | rfl | rfl | rfl | rfl | rfl | rfl | rfl | rfl | rfl | rfl | rfl | rfl | rfl | rfl | rfl
  · exact bg_in 1404 (by decide +kernel) rfl
  · exact bg_in 1406 (by decide +kernel) rfl
  · exact bg_in 1408 (by decide +kernel) rfl
  · exact bg_in 1410 (by decide +kernel) rfl
  · exact bg_in 1412 (by decide +kernel) rfl
  · exact bg_in 1414 (by decide +kernel) rfl
  · exact bg_in 1416 (by decide +kernel) rfl
  · exact bg_in 1418 (by decide +kernel) rfl
  · exact bg_in 1420 (by decide +kernel) rfl
  · exact bg_in 1422 (by decide +kernel) rfl
  · exact bg_in 1424 (by decide +kernel) rfl
  · exact bg_in 1426 (by decide +kernel) rfl
  · exact bg_in 1428 (by decide +kernel) rfl
  · exact bg_in 1430 (by decide +kernel) rfl
  · exact bg_in 1432 (by decide +kernel) rfl
  · exact bg_in 1434 (by decide +kernel) rfl
  · exact bg_in 1436 (by decide +kernel) rfl
  · exact bg_in 1438 (by decide +kernel) rfl
  · exact bg_in 1440 (by decide +kernel) rfl
  · exact bg_in 1442 (by decide +kernel) rfl
  · exact bg_in 1444 (by decide +kernel) rfl
  · exact bg_in 1446 (by decide +kernel) rfl
  · exact bg_in 1448 (by decide +kernel) rfl
  · exact bg_in 1450 (by decide +kernel) rfl
  · exact bg_in 1452 (by decide +kernel) rfl
  · exact bg_in 1454 (by decide +kernel) rfl
  · exact bg_in 1456 (by decide +kernel) rfl
  · exact bg_in 1458 (by decide +kernel) rfl
  · exact bg_in 1460 (by decide +kernel) rfl
  , tyX12_ok, nmX12⟩
theorem kf_X11_9 : Cond.fieldLink RX11 9 (TX11 0).1 (TX11 0).2.1 (TX11 0).2.2.1 ∈ bg_L := bg_in 339 (by decide +kernel) rfl
theorem kl_X11_13 : Cond.classLink RX11 13 "PastryBench$Parser" ∈ bg_L := bg_in 108 (by decide +kernel) rfl
theorem kf_X11_16 : Cond.fieldLink RX11 16 (TX11 2).1 (TX11 2).2.1 (TX11 2).2.2.1 ∈ bg_L := bg_in 341 (by decide +kernel) rfl
theorem kl_X11_20 : Cond.classLink RX11 20 "PastryBench$Script" ∈ bg_L := bg_in 160 (by decide +kernel) rfl
theorem kf_X11_23 : Cond.fieldLink RX11 23 (TX11 3).1 (TX11 3).2.1 (TX11 3).2.2.1 ∈ bg_L := bg_in 342 (by decide +kernel) rfl
theorem kl_X11_28 : Cond.classLink RX11 28 "PastryBench$Bench" ∈ bg_L := bg_in 305 (by decide +kernel) rfl
theorem kf_X11_33 : Cond.fieldLink RX11 33 (TX11 4).1 (TX11 4).2.1 (TX11 4).2.2.1 ∈ bg_L := bg_in 343 (by decide +kernel) rfl
theorem kf_X11_38 : Cond.fieldLink RX11 38 (TX11 5).1 (TX11 5).2.1 (TX11 5).2.2.1 ∈ bg_L := bg_in 344 (by decide +kernel) rfl
theorem kf_X11_41 : Cond.fieldLink RX11 41 (TX11 6).1 (TX11 6).2.1 (TX11 6).2.2.1 ∈ bg_L := bg_in 345 (by decide +kernel) rfl
theorem kl_X11_44 : Cond.classLink RX11 44 "PastryBench$History" ∈ bg_L := bg_in 307 (by decide +kernel) rfl
theorem kf_X11_47 : Cond.fieldLink RX11 47 (TX11 8).1 (TX11 8).2.1 (TX11 8).2.2.1 ∈ bg_L := bg_in 347 (by decide +kernel) rfl
theorem kl_X11_51 : Cond.classLink RX11 51 "PastryBench$Output" ∈ bg_L := bg_in 324 (by decide +kernel) rfl
theorem kf_X11_54 : Cond.fieldLink RX11 54 (TX11 9).1 (TX11 9).2.1 (TX11 9).2.2.1 ∈ bg_L := bg_in 348 (by decide +kernel) rfl
theorem kf_X11_58 : Cond.fieldLink RX11 58 (TX11 1).1 (TX11 1).2.1 (TX11 1).2.2.1 ∈ bg_L := bg_in 340 (by decide +kernel) rfl
theorem kf_X11_80 : Cond.fieldLink RX11 80 (TX11 7).1 (TX11 7).2.1 (TX11 7).2.2.1 ∈ bg_L := bg_in 346 (by decide +kernel) rfl
theorem kf_X11_84 : Cond.fieldLink RX11 84 (TX1 1).1 (TX1 1).2.1 (TX1 1).2.2.1 ∈ bg_L := bg_in 247 (by decide +kernel) rfl
theorem kf_X11_87 : Cond.fieldLink RX11 87 (TX5 1).1 (TX5 1).2.1 (TX5 1).2.2.1 ∈ bg_L := bg_in 147 (by decide +kernel) rfl
theorem kf_X11_90 : Cond.fieldLink RX11 90 (TX5 2).1 (TX5 2).2.1 (TX5 2).2.2.1 ∈ bg_L := bg_in 149 (by decide +kernel) rfl
theorem kf_X11_93 : Cond.fieldLink RX11 93 (TX1 2).1 (TX1 2).2.1 (TX1 2).2.2.1 ∈ bg_L := bg_in 249 (by decide +kernel) rfl
theorem kf_X11_96 : Cond.fieldLink RX11 96 (TX1 3).1 (TX1 3).2.1 (TX1 3).2.2.1 ∈ bg_L := bg_in 251 (by decide +kernel) rfl
theorem kf_X11_99 : Cond.fieldLink RX11 99 (TX1 4).1 (TX1 4).2.1 (TX1 4).2.2.1 ∈ bg_L := bg_in 253 (by decide +kernel) rfl
theorem kf_X11_102 : Cond.fieldLink RX11 102 (TX1 5).1 (TX1 5).2.1 (TX1 5).2.2.1 ∈ bg_L := bg_in 255 (by decide +kernel) rfl
theorem kf_X11_105 : Cond.fieldLink RX11 105 (TX1 6).1 (TX1 6).2.1 (TX1 6).2.2.1 ∈ bg_L := bg_in 257 (by decide +kernel) rfl
theorem kf_X11_108 : Cond.fieldLink RX11 108 (TX1 7).1 (TX1 7).2.1 (TX1 7).2.2.1 ∈ bg_L := bg_in 259 (by decide +kernel) rfl
theorem kf_X11_122 : Cond.fieldLink RX11 122 (TX8 2).1 (TX8 2).2.1 (TX8 2).2.2.1 ∈ bg_L := bg_in 207 (by decide +kernel) rfl
theorem kf_X11_134 : Cond.fieldLink RX11 134 (TX8 1).1 (TX8 1).2.1 (TX8 1).2.2.1 ∈ bg_L := bg_in 203 (by decide +kernel) rfl
theorem kf_X11_138 : Cond.fieldLink RX11 138 (TX8 0).1 (TX8 0).2.1 (TX8 0).2.2.1 ∈ bg_L := bg_in 200 (by decide +kernel) rfl
theorem kf_X11_160 : Cond.fieldLink RX11 160 (TX8 5).1 (TX8 5).2.1 (TX8 5).2.2.1 ∈ bg_L := bg_in 214 (by decide +kernel) rfl
theorem kf_X11_163 : Cond.fieldLink RX11 163 (TX8 6).1 (TX8 6).2.1 (TX8 6).2.2.1 ∈ bg_L := bg_in 217 (by decide +kernel) rfl
theorem kf_X11_166 : Cond.fieldLink RX11 166 (TX8 7).1 (TX8 7).2.1 (TX8 7).2.2.1 ∈ bg_L := bg_in 220 (by decide +kernel) rfl
theorem kf_X11_169 : Cond.fieldLink RX11 169 (TX8 8).1 (TX8 8).2.1 (TX8 8).2.2.1 ∈ bg_L := bg_in 223 (by decide +kernel) rfl
theorem kf_X11_172 : Cond.fieldLink RX11 172 (TX8 4).1 (TX8 4).2.1 (TX8 4).2.2.1 ∈ bg_L := bg_in 211 (by decide +kernel) rfl
theorem kf_X11_175 : Cond.fieldLink RX11 175 (TX8 3).1 (TX8 3).2.1 (TX8 3).2.2.1 ∈ bg_L := bg_in 209 (by decide +kernel) rfl
theorem kl_X11_202 : Cond.classLink RX11 202 "java/lang/IllegalArgumentException" ∈ bg_L := bg_in 458 (by decide +kernel) rfl
theorem kf_X11_302 : Cond.fieldLink RX11 302 (TX4 1).1 (TX4 1).2.1 (TX4 1).2.2.1 ∈ bg_L := bg_in 333 (by decide +kernel) rfl
theorem kl_X11_305 : Cond.classLink RX11 305 "java/lang/IndexOutOfBoundsException" ∈ bg_L := bg_in 678 (by decide +kernel) rfl
theorem kf_X11_310 : Cond.fieldLink RX11 310 (TX4 0).1 (TX4 0).2.1 (TX4 0).2.2.1 ∈ bg_L := bg_in 331 (by decide +kernel) rfl
theorem kf_X11_313 : Cond.fieldLink RX11 313 (TX3 1).1 (TX3 1).2.1 (TX3 1).2.2.1 ∈ bg_L := bg_in 318 (by decide +kernel) rfl
theorem kl_X11_314 : Cond.classLink RX11 314 "java/lang/IllegalStateException" ∈ bg_L := bg_in 994 (by decide +kernel) rfl
theorem kf_X11_332 : Cond.fieldLink RX11 332 (TX1 0).1 (TX1 0).2.1 (TX1 0).2.2.1 ∈ bg_L := bg_in 245 (by decide +kernel) rfl
theorem kg_X11_343 : Cond.fieldLink RX11 343 "PastryBench$Refusal" "NO_SHEET" "LPastryBench$Refusal;" ∈ bg_L := bg_in 990 (by decide +kernel) rfl
theorem kg_X11_349 : Cond.fieldLink RX11 349 "PastryBench$Refusal" "BAD_ARGUMENT" "LPastryBench$Refusal;" ∈ bg_L := bg_in 991 (by decide +kernel) rfl
theorem kg_X11_354 : Cond.fieldLink RX11 354 "PastryBench$Refusal" "BAD_STATE" "LPastryBench$Refusal;" ∈ bg_L := bg_in 993 (by decide +kernel) rfl
theorem kl_X1_9 : Cond.classLink RX1 9 "PastryBench$Sheet" ∈ bg_L := bg_in 191 (by decide +kernel) rfl
theorem kf_X1_11 : Cond.fieldLink RX1 11 (TX1 0).1 (TX1 0).2.1 (TX1 0).2.2.1 ∈ bg_L := bg_in 244 (by decide +kernel) rfl
theorem kl_X1_12 : Cond.classLink RX1 12 "PastryBench$Bench" ∈ bg_L := bg_in 185 (by decide +kernel) rfl
theorem kf_X1_31 : Cond.fieldLink RX1 31 (TX1 1).1 (TX1 1).2.1 (TX1 1).2.2.1 ∈ bg_L := bg_in 246 (by decide +kernel) rfl
theorem kf_X1_35 : Cond.fieldLink RX1 35 (TX1 2).1 (TX1 2).2.1 (TX1 2).2.2.1 ∈ bg_L := bg_in 248 (by decide +kernel) rfl
theorem kf_X1_38 : Cond.fieldLink RX1 38 (TX1 3).1 (TX1 3).2.1 (TX1 3).2.2.1 ∈ bg_L := bg_in 250 (by decide +kernel) rfl
theorem kf_X1_41 : Cond.fieldLink RX1 41 (TX1 4).1 (TX1 4).2.1 (TX1 4).2.2.1 ∈ bg_L := bg_in 252 (by decide +kernel) rfl
theorem kf_X1_44 : Cond.fieldLink RX1 44 (TX1 5).1 (TX1 5).2.1 (TX1 5).2.2.1 ∈ bg_L := bg_in 254 (by decide +kernel) rfl
theorem kf_X1_47 : Cond.fieldLink RX1 47 (TX1 6).1 (TX1 6).2.1 (TX1 6).2.2.1 ∈ bg_L := bg_in 256 (by decide +kernel) rfl
theorem kf_X1_50 : Cond.fieldLink RX1 50 (TX1 7).1 (TX1 7).2.1 (TX1 7).2.2.1 ∈ bg_L := bg_in 258 (by decide +kernel) rfl
theorem kf_X1_62 : Cond.fieldLink RX1 62 (TX8 5).1 (TX8 5).2.1 (TX8 5).2.2.1 ∈ bg_L := bg_in 213 (by decide +kernel) rfl
theorem kf_X1_65 : Cond.fieldLink RX1 65 (TX8 2).1 (TX8 2).2.1 (TX8 2).2.2.1 ∈ bg_L := bg_in 206 (by decide +kernel) rfl
theorem kf_X1_68 : Cond.fieldLink RX1 68 (TX8 7).1 (TX8 7).2.1 (TX8 7).2.2.1 ∈ bg_L := bg_in 219 (by decide +kernel) rfl
theorem kf_X1_72 : Cond.fieldLink RX1 72 (TX8 8).1 (TX8 8).2.1 (TX8 8).2.2.1 ∈ bg_L := bg_in 222 (by decide +kernel) rfl
theorem kg_X1_75 : Cond.fieldLink RX1 75 "PastryBench$Refusal" "BAD_STATE" "LPastryBench$Refusal;" ∈ bg_L := bg_in 983 (by decide +kernel) rfl
theorem kg_X1_81 : Cond.fieldLink RX1 81 "PastryBench$Refusal" "NONE" "LPastryBench$Refusal;" ∈ bg_L := bg_in 985 (by decide +kernel) rfl
theorem kg_X1_88 : Cond.fieldLink RX1 88 "PastryBench$Refusal" "NO_SHEET" "LPastryBench$Refusal;" ∈ bg_L := bg_in 974 (by decide +kernel) rfl
theorem kg_X1_94 : Cond.fieldLink RX1 94 "PastryBench$Refusal" "BAD_ARGUMENT" "LPastryBench$Refusal;" ∈ bg_L := bg_in 977 (by decide +kernel) rfl
theorem kf_X1_118 : Cond.fieldLink RX1 118 (TX8 6).1 (TX8 6).2.1 (TX8 6).2.2.1 ∈ bg_L := bg_in 216 (by decide +kernel) rfl
theorem kl_X3_9 : Cond.classLink RX3 9 "PastryBench$Bench" ∈ bg_L := bg_in 313 (by decide +kernel) rfl
theorem kf_X3_11 : Cond.fieldLink RX3 11 (TX3 0).1 (TX3 0).2.1 (TX3 0).2.2.1 ∈ bg_L := bg_in 316 (by decide +kernel) rfl
theorem kf_X3_18 : Cond.fieldLink RX3 18 (TX3 1).1 (TX3 1).2.1 (TX3 1).2.2.1 ∈ bg_L := bg_in 317 (by decide +kernel) rfl
theorem kf_X4_9 : Cond.fieldLink RX4 9 (TX4 0).1 (TX4 0).2.1 (TX4 0).2.2.1 ∈ bg_L := bg_in 330 (by decide +kernel) rfl
theorem kf_X4_15 : Cond.fieldLink RX4 15 (TX4 1).1 (TX4 1).2.1 (TX4 1).2.2.1 ∈ bg_L := bg_in 332 (by decide +kernel) rfl
theorem kf_X4_23 : Cond.fieldLink RX4 23 (TX8 2).1 (TX8 2).2.1 (TX8 2).2.2.1 ∈ bg_L := bg_in 205 (by decide +kernel) rfl
theorem kf_X4_28 : Cond.fieldLink RX4 28 (TX8 1).1 (TX8 1).2.1 (TX8 1).2.2.1 ∈ bg_L := bg_in 202 (by decide +kernel) rfl
theorem kf_X4_32 : Cond.fieldLink RX4 32 (TX8 0).1 (TX8 0).2.1 (TX8 0).2.2.1 ∈ bg_L := bg_in 199 (by decide +kernel) rfl
theorem kl_X5_9 : Cond.classLink RX5 9 "PastryBench$Tokens" ∈ bg_L := bg_in 114 (by decide +kernel) rfl
theorem kf_X5_12 : Cond.fieldLink RX5 12 (TX5 0).1 (TX5 0).2.1 (TX5 0).2.2.1 ∈ bg_L := bg_in 145 (by decide +kernel) rfl
theorem kf_X5_18 : Cond.fieldLink RX5 18 (TX5 2).1 (TX5 2).2.1 (TX5 2).2.2.1 ∈ bg_L := bg_in 148 (by decide +kernel) rfl
theorem kf_X5_22 : Cond.fieldLink RX5 22 (TX5 1).1 (TX5 1).2.1 (TX5 1).2.2.1 ∈ bg_L := bg_in 146 (by decide +kernel) rfl
theorem kf_X5_29 : Cond.fieldLink RX5 29 (TX10 4).1 (TX10 4).2.1 (TX10 4).2.2.1 ∈ bg_L := bg_in 127 (by decide +kernel) rfl
theorem kf_X5_43 : Cond.fieldLink RX5 43 (TX10 3).1 (TX10 3).2.1 (TX10 3).2.2.1 ∈ bg_L := bg_in 126 (by decide +kernel) rfl
theorem kg_X5_47 : Cond.fieldLink RX5 47 "PastryBench$TokenKind" "SEMICOLON" "LPastryBench$TokenKind;" ∈ bg_L := bg_in 639 (by decide +kernel) rfl
theorem kg_X5_52 : Cond.fieldLink RX5 52 "PastryBench$TokenKind" "NUMBER" "LPastryBench$TokenKind;" ∈ bg_L := bg_in 633 (by decide +kernel) rfl
theorem kf_X5_55 : Cond.fieldLink RX5 55 (TX10 5).1 (TX10 5).2.1 (TX10 5).2.2.1 ∈ bg_L := bg_in 130 (by decide +kernel) rfl
theorem kf_X5_58 : Cond.fieldLink RX5 58 (TX5 3).1 (TX5 3).2.1 (TX5 3).2.2.1 ∈ bg_L := bg_in 150 (by decide +kernel) rfl
theorem kg_X5_66 : Cond.fieldLink RX5 66 "PastryBench$TokenKind" "END" "LPastryBench$TokenKind;" ∈ bg_L := bg_in 640 (by decide +kernel) rfl
theorem kf_X5_110 : Cond.fieldLink RX5 110 (TX7 3).1 (TX7 3).2.1 (TX7 3).2.2.1 ∈ bg_L := bg_in 172 (by decide +kernel) rfl
theorem kg_X5_127 : Cond.fieldLink RX5 127 "PastryBench$Command" "word" "Ljava/lang/String;" ∈ bg_L := bg_in 1993 (by decide +kernel) rfl
theorem kg_X5_133 : Cond.fieldLink RX5 133 "PastryBench$Command" "firstLow" "I" ∈ bg_L := bg_in 1994 (by decide +kernel) rfl
theorem kg_X5_136 : Cond.fieldLink RX5 136 "PastryBench$Command" "firstHigh" "I" ∈ bg_L := bg_in 1995 (by decide +kernel) rfl
theorem kg_X5_139 : Cond.fieldLink RX5 139 "PastryBench$Command" "hasSecond" "Z" ∈ bg_L := bg_in 1996 (by decide +kernel) rfl
theorem kg_X5_143 : Cond.fieldLink RX5 143 "PastryBench$Command" "secondLow" "I" ∈ bg_L := bg_in 1997 (by decide +kernel) rfl
theorem kg_X5_146 : Cond.fieldLink RX5 146 "PastryBench$Command" "secondHigh" "I" ∈ bg_L := bg_in 1998 (by decide +kernel) rfl
theorem kl_X7_9 : Cond.classLink RX7 9 "PastryBench$Command" ∈ bg_L := bg_in 166 (by decide +kernel) rfl
theorem kf_X7_11 : Cond.fieldLink RX7 11 (TX7 0).1 (TX7 0).2.1 (TX7 0).2.2.1 ∈ bg_L := bg_in 168 (by decide +kernel) rfl
theorem kf_X7_17 : Cond.fieldLink RX7 17 (TX7 1).1 (TX7 1).2.1 (TX7 1).2.2.1 ∈ bg_L := bg_in 169 (by decide +kernel) rfl
theorem kf_X7_21 : Cond.fieldLink RX7 21 (TX7 2).1 (TX7 2).2.1 (TX7 2).2.2.1 ∈ bg_L := bg_in 170 (by decide +kernel) rfl
theorem kf_X7_24 : Cond.fieldLink RX7 24 (TX7 3).1 (TX7 3).2.1 (TX7 3).2.2.1 ∈ bg_L := bg_in 171 (by decide +kernel) rfl
theorem kg_X7_32 : Cond.fieldLink RX7 32 "PastryBench$Refusal" "NONE" "LPastryBench$Refusal;" ∈ bg_L := bg_in 1271 (by decide +kernel) rfl
theorem kg_X7_42 : Cond.fieldLink RX7 42 "PastryBench$Refusal" "BAD_ARGUMENT" "LPastryBench$Refusal;" ∈ bg_L := bg_in 1253 (by decide +kernel) rfl
theorem kg_X7_45 : Cond.fieldLink RX7 45 "PastryBench$1" "$SwitchMap$PastryBench$Command" "[I" ∈ bg_L := bg_in 1254 (by decide +kernel) rfl
theorem kf_X8_9 : Cond.fieldLink RX8 9 (TX8 0).1 (TX8 0).2.1 (TX8 0).2.2.1 ∈ bg_L := bg_in 198 (by decide +kernel) rfl
theorem kf_X8_15 : Cond.fieldLink RX8 15 (TX8 1).1 (TX8 1).2.1 (TX8 1).2.2.1 ∈ bg_L := bg_in 201 (by decide +kernel) rfl
theorem kf_X8_19 : Cond.fieldLink RX8 19 (TX8 2).1 (TX8 2).2.1 (TX8 2).2.2.1 ∈ bg_L := bg_in 204 (by decide +kernel) rfl
theorem kf_X8_23 : Cond.fieldLink RX8 23 (TX8 3).1 (TX8 3).2.1 (TX8 3).2.2.1 ∈ bg_L := bg_in 208 (by decide +kernel) rfl
theorem kf_X8_26 : Cond.fieldLink RX8 26 (TX8 4).1 (TX8 4).2.1 (TX8 4).2.2.1 ∈ bg_L := bg_in 210 (by decide +kernel) rfl
theorem kf_X8_29 : Cond.fieldLink RX8 29 (TX8 5).1 (TX8 5).2.1 (TX8 5).2.2.1 ∈ bg_L := bg_in 212 (by decide +kernel) rfl
theorem kf_X8_32 : Cond.fieldLink RX8 32 (TX8 6).1 (TX8 6).2.1 (TX8 6).2.2.1 ∈ bg_L := bg_in 215 (by decide +kernel) rfl
theorem kf_X8_36 : Cond.fieldLink RX8 36 (TX8 7).1 (TX8 7).2.1 (TX8 7).2.2.1 ∈ bg_L := bg_in 218 (by decide +kernel) rfl
theorem kf_X8_39 : Cond.fieldLink RX8 39 (TX8 8).1 (TX8 8).2.1 (TX8 8).2.2.1 ∈ bg_L := bg_in 221 (by decide +kernel) rfl
theorem kf_X10_9 : Cond.fieldLink RX10 9 (TX10 0).1 (TX10 0).2.1 (TX10 0).2.2.1 ∈ bg_L := bg_in 122 (by decide +kernel) rfl
theorem kg_X10_15 : Cond.fieldLink RX10 15 "PastryBench$TokenKind" "END" "LPastryBench$TokenKind;" ∈ bg_L := bg_in 120 (by decide +kernel) rfl
theorem kf_X10_21 : Cond.fieldLink RX10 21 (TX10 3).1 (TX10 3).2.1 (TX10 3).2.2.1 ∈ bg_L := bg_in 125 (by decide +kernel) rfl
theorem kf_X10_30 : Cond.fieldLink RX10 30 (TX10 1).1 (TX10 1).2.1 (TX10 1).2.2.1 ∈ bg_L := bg_in 123 (by decide +kernel) rfl
theorem kf_X10_34 : Cond.fieldLink RX10 34 (TX10 2).1 (TX10 2).2.1 (TX10 2).2.2.1 ∈ bg_L := bg_in 124 (by decide +kernel) rfl
theorem kf_X10_44 : Cond.fieldLink RX10 44 (TX10 4).1 (TX10 4).2.1 (TX10 4).2.2.1 ∈ bg_L := bg_in 128 (by decide +kernel) rfl
theorem kg_X10_50 : Cond.fieldLink RX10 50 "PastryBench$TokenKind" "WORD" "LPastryBench$TokenKind;" ∈ bg_L := bg_in 551 (by decide +kernel) rfl
theorem kg_X10_56 : Cond.fieldLink RX10 56 "PastryBench$TokenKind" "NUMBER" "LPastryBench$TokenKind;" ∈ bg_L := bg_in 556 (by decide +kernel) rfl
theorem kf_X10_59 : Cond.fieldLink RX10 59 (TX10 5).1 (TX10 5).2.1 (TX10 5).2.2.1 ∈ bg_L := bg_in 129 (by decide +kernel) rfl
theorem kk_X10_62 : Cond.constant RX10 62 1000000 ∈ bg_L := bg_in 558 (by decide +kernel) rfl
theorem kg_X10_63 : Cond.fieldLink RX10 63 "PastryBench$TokenKind" "SEMICOLON" "LPastryBench$TokenKind;" ∈ bg_L := bg_in 559 (by decide +kernel) rfl
theorem kg_X10_66 : Cond.fieldLink RX10 66 "PastryBench$TokenKind" "INVALID" "LPastryBench$TokenKind;" ∈ bg_L := bg_in 561 (by decide +kernel) rfl
theorem kl_L_8 : Cond.classLink RL 8 "PastryBench" ∈ bg_L := bg_in 100 (by decide +kernel) rfl
theorem kl_L_13 : Cond.classLink RL 13 "java/lang/IllegalArgumentException" ∈ bg_L := bg_in 449 (by decide +kernel) rfl
theorem kl_L_18 : Cond.classLink RL 18 "java/lang/IndexOutOfBoundsException" ∈ bg_L := bg_in 665 (by decide +kernel) rfl
theorem kl_L_103 : Cond.classLink RL 103 "java/lang/IllegalStateException" ∈ bg_L := bg_in 964 (by decide +kernel) rfl
theorem kl_L_152 : Cond.classLink RL 152 "PastryBenchModel" ∈ bg_L := bg_in 1331 (by decide +kernel) rfl
theorem kf_X12_9 : Cond.fieldLink RX12 9 (TX12 0).1 (TX12 0).2.1 (TX12 0).2.2.1 ∈ bg_L := bg_in 1375 (by decide +kernel) rfl
theorem kf_X12_13 : Cond.fieldLink RX12 13 (TX12 1).1 (TX12 1).2.1 (TX12 1).2.2.1 ∈ bg_L := bg_in 1376 (by decide +kernel) rfl
theorem kf_X12_16 : Cond.fieldLink RX12 16 (TX12 2).1 (TX12 2).2.1 (TX12 2).2.2.1 ∈ bg_L := bg_in 1377 (by decide +kernel) rfl
theorem kf_X12_19 : Cond.fieldLink RX12 19 (TX12 3).1 (TX12 3).2.1 (TX12 3).2.2.1 ∈ bg_L := bg_in 1378 (by decide +kernel) rfl
theorem kf_X12_22 : Cond.fieldLink RX12 22 (TX12 4).1 (TX12 4).2.1 (TX12 4).2.2.1 ∈ bg_L := bg_in 1379 (by decide +kernel) rfl
theorem kf_X12_25 : Cond.fieldLink RX12 25 (TX12 5).1 (TX12 5).2.1 (TX12 5).2.2.1 ∈ bg_L := bg_in 1380 (by decide +kernel) rfl
theorem kf_X12_28 : Cond.fieldLink RX12 28 (TX12 14).1 (TX12 14).2.1 (TX12 14).2.2.1 ∈ bg_L := bg_in 1389 (by decide +kernel) rfl
theorem kf_X12_31 : Cond.fieldLink RX12 31 (TX12 16).1 (TX12 16).2.1 (TX12 16).2.2.1 ∈ bg_L := bg_in 1391 (by decide +kernel) rfl
theorem kf_X12_34 : Cond.fieldLink RX12 34 (TX12 24).1 (TX12 24).2.1 (TX12 24).2.2.1 ∈ bg_L := bg_in 1399 (by decide +kernel) rfl
theorem kf_X12_38 : Cond.fieldLink RX12 38 (TX12 26).1 (TX12 26).2.1 (TX12 26).2.2.1 ∈ bg_L := bg_in 1401 (by decide +kernel) rfl
theorem kl_X12_41 : Cond.classLink RX12 41 "java/lang/String" ∈ bg_L := bg_in 1337 (by decide +kernel) rfl
theorem kf_X12_61 : Cond.fieldLink RX12 61 (TX12 27).1 (TX12 27).2.1 (TX12 27).2.2.1 ∈ bg_L := bg_in 1402 (by decide +kernel) rfl
theorem kf_X12_79 : Cond.fieldLink RX12 79 (TX12 7).1 (TX12 7).2.1 (TX12 7).2.2.1 ∈ bg_L := bg_in 1382 (by decide +kernel) rfl
theorem kf_X12_104 : Cond.fieldLink RX12 104 (TX12 12).1 (TX12 12).2.1 (TX12 12).2.2.1 ∈ bg_L := bg_in 1387 (by decide +kernel) rfl
theorem kf_X12_185 : Cond.fieldLink RX12 185 (TX12 10).1 (TX12 10).2.1 (TX12 10).2.2.1 ∈ bg_L := bg_in 1385 (by decide +kernel) rfl
theorem kf_X12_188 : Cond.fieldLink RX12 188 (TX12 11).1 (TX12 11).2.1 (TX12 11).2.2.1 ∈ bg_L := bg_in 1386 (by decide +kernel) rfl
theorem kf_X12_204 : Cond.fieldLink RX12 204 (TX12 9).1 (TX12 9).2.1 (TX12 9).2.2.1 ∈ bg_L := bg_in 1384 (by decide +kernel) rfl
theorem kf_X12_224 : Cond.fieldLink RX12 224 (TX12 6).1 (TX12 6).2.1 (TX12 6).2.2.1 ∈ bg_L := bg_in 1381 (by decide +kernel) rfl
theorem kf_X12_266 : Cond.fieldLink RX12 266 (TX12 15).1 (TX12 15).2.1 (TX12 15).2.2.1 ∈ bg_L := bg_in 1390 (by decide +kernel) rfl
theorem kf_X12_275 : Cond.fieldLink RX12 275 (TX12 13).1 (TX12 13).2.1 (TX12 13).2.2.1 ∈ bg_L := bg_in 1388 (by decide +kernel) rfl
theorem kf_X12_279 : Cond.fieldLink RX12 279 (TX12 17).1 (TX12 17).2.1 (TX12 17).2.2.1 ∈ bg_L := bg_in 1392 (by decide +kernel) rfl
theorem kf_X12_282 : Cond.fieldLink RX12 282 (TX12 18).1 (TX12 18).2.1 (TX12 18).2.2.1 ∈ bg_L := bg_in 1393 (by decide +kernel) rfl
theorem kf_X12_288 : Cond.fieldLink RX12 288 (TX12 19).1 (TX12 19).2.1 (TX12 19).2.2.1 ∈ bg_L := bg_in 1394 (by decide +kernel) rfl
theorem kf_X12_291 : Cond.fieldLink RX12 291 (TX12 20).1 (TX12 20).2.1 (TX12 20).2.2.1 ∈ bg_L := bg_in 1395 (by decide +kernel) rfl
theorem kf_X12_294 : Cond.fieldLink RX12 294 (TX12 21).1 (TX12 21).2.1 (TX12 21).2.2.1 ∈ bg_L := bg_in 1396 (by decide +kernel) rfl
theorem kf_X12_303 : Cond.fieldLink RX12 303 (TX12 22).1 (TX12 22).2.1 (TX12 22).2.2.1 ∈ bg_L := bg_in 1397 (by decide +kernel) rfl
theorem kf_X12_306 : Cond.fieldLink RX12 306 (TX12 25).1 (TX12 25).2.1 (TX12 25).2.2.1 ∈ bg_L := bg_in 1400 (by decide +kernel) rfl
theorem kf_X12_312 : Cond.fieldLink RX12 312 (TX12 23).1 (TX12 23).2.1 (TX12 23).2.2.1 ∈ bg_L := bg_in 1398 (by decide +kernel) rfl
theorem kk_X12_336 : Cond.constant RX12 336 9999999 ∈ bg_L := bg_in 1936 (by decide +kernel) rfl
theorem kf_X12_343 : Cond.fieldLink RX12 343 (TX12 8).1 (TX12 8).2.1 (TX12 8).2.2.1 ∈ bg_L := bg_in 1383 (by decide +kernel) rfl
theorem kf_X12_388 : Cond.fieldLink RX12 388 (TX12 28).1 (TX12 28).2.1 (TX12 28).2.2.1 ∈ bg_L := bg_in 1403 (by decide +kernel) rfl
theorem kg_Jx29ce0_7 : Cond.fieldLink RJx29ce0 7 "java/lang/Enum" "ordinal" "I" ∈ bg_L := bg_in 1999 (by decide +kernel) rfl
theorem kg_J0_9 : Cond.fieldLink RJ0 9 "java/lang/String" "value" "[B" ∈ bg_L := bg_in 1991 (by decide +kernel) rfl
theorem kg_J0_15 : Cond.fieldLink RJ0 15 "java/lang/String" "coder" "B" ∈ bg_L := bg_in 1992 (by decide +kernel) rfl
theorem kg_J0_38 : Cond.fieldLink RJ0 38 "java/lang/String" "COMPACT_STRINGS" "Z" ∈ bg_L := bg_in 584 (by decide +kernel) rfl
theorem kg_J0_1053 : Cond.fieldLink RJ0 1053 "jdk/internal/util/Preconditions" "SIOOBE_FORMATTER" "Ljava/util/function/BiFunction;" ∈ bg_L := bg_in 600 (by decide +kernel) rfl
theorem kg_J2_44 : Cond.fieldLink RJ2 44 "java/lang/StringUTF16" "$assertionsDisabled" "Z" ∈ bg_L := bg_in 618 (by decide +kernel) rfl
theorem kg_J2_59 : Cond.fieldLink RJ2 59 "java/lang/StringUTF16" "HI_BYTE_SHIFT" "I" ∈ bg_L := bg_in 620 (by decide +kernel) rfl
theorem kg_J2_63 : Cond.fieldLink RJ2 63 "java/lang/StringUTF16" "LO_BYTE_SHIFT" "I" ∈ bg_L := bg_in 622 (by decide +kernel) rfl
theorem ki_L : Cond.initialized RL ∈ bg_L := bg_in 74 (by decide +kernel) rfl
theorem ki_X11 : Cond.initialized RX11 ∈ bg_L := bg_in 75 (by decide +kernel) rfl
theorem ki_X5 : Cond.initialized RX5 ∈ bg_L := bg_in 76 (by decide +kernel) rfl
theorem ki_X10 : Cond.initialized RX10 ∈ bg_L := bg_in 77 (by decide +kernel) rfl
theorem ki_Jx29ce0 : Cond.initialized RJx29ce0 ∈ bg_L := bg_in 78 (by decide +kernel) rfl
theorem ki_X9 : Cond.initialized RX9 ∈ bg_L := bg_in 79 (by decide +kernel) rfl
theorem ki_X7 : Cond.initialized RX7 ∈ bg_L := bg_in 80 (by decide +kernel) rfl
theorem ki_X1 : Cond.initialized RX1 ∈ bg_L := bg_in 81 (by decide +kernel) rfl
theorem ki_X8 : Cond.initialized RX8 ∈ bg_L := bg_in 82 (by decide +kernel) rfl
theorem ki_X3 : Cond.initialized RX3 ∈ bg_L := bg_in 83 (by decide +kernel) rfl
theorem ki_X4 : Cond.initialized RX4 ∈ bg_L := bg_in 84 (by decide +kernel) rfl
theorem ki_X12 : Cond.initialized RX12 ∈ bg_L := bg_in 85 (by decide +kernel) rfl
theorem ki_J9 : Cond.initialized RJ9 ∈ bg_L := bg_in 90 (by decide +kernel) rfl
theorem ki_J0 : Cond.initialized RJ0 ∈ bg_L := bg_in 91 (by decide +kernel) rfl
theorem ki_J1 : Cond.initialized RJ1 ∈ bg_L := bg_in 92 (by decide +kernel) rfl
theorem ki_J3 : Cond.initialized RJ3 ∈ bg_L := bg_in 93 (by decide +kernel) rfl
theorem ki_J2 : Cond.initialized RJ2 ∈ bg_L := bg_in 94 (by decide +kernel) rfl
theorem ki_J10 : Cond.initialized RJ10 ∈ bg_L := bg_in 95 (by decide +kernel) rfl
theorem ki_X6 : Cond.initialized RX6 ∈ bg_L := bg_in 97 (by decide +kernel) rfl
theorem ki_X0 : Cond.initialized RX0 ∈ bg_L := bg_in 99 (by decide +kernel) rfl
theorem kn_X11 : Cond.instantiable RX11 10 ∈ bg_L := bg_in 101 (by decide +kernel) rfl
theorem kn_X5 : Cond.instantiable RX5 4 ∈ bg_L := bg_in 109 (by decide +kernel) rfl
theorem kn_X10 : Cond.instantiable RX10 6 ∈ bg_L := bg_in 115 (by decide +kernel) rfl
theorem kn_X7 : Cond.instantiable RX7 4 ∈ bg_L := bg_in 161 (by decide +kernel) rfl
theorem kn_X1 : Cond.instantiable RX1 8 ∈ bg_L := bg_in 186 (by decide +kernel) rfl
theorem kn_X8 : Cond.instantiable RX8 9 ∈ bg_L := bg_in 193 (by decide +kernel) rfl
theorem kn_X3 : Cond.instantiable RX3 2 ∈ bg_L := bg_in 308 (by decide +kernel) rfl
theorem kn_X4 : Cond.instantiable RX4 2 ∈ bg_L := bg_in 325 (by decide +kernel) rfl
theorem kn_X12 : Cond.instantiable RX12 29 ∈ bg_L := bg_in 1332 (by decide +kernel) rfl
theorem ks_max : Cond.static Lib.Math.max.name ∈ bg_L ∧ Cond.initialized "java/lang/Math" ∈ bg_L ∧ Cond.code Lib.Math.max.name Lib.Math.max.code 2 (some .int) ∈ bg_L := ⟨bg_in 902 (by decide +kernel) rfl, bg_in 90 (by decide +kernel) rfl, bg_in 903 (by decide +kernel) rfl⟩
theorem ks_min : Cond.static Lib.Math.min.name ∈ bg_L ∧ Cond.initialized "java/lang/Math" ∈ bg_L ∧ Cond.code Lib.Math.min.name Lib.Math.min.code 2 (some .int) ∈ bg_L := ⟨bg_in 539 (by decide +kernel) rfl, bg_in 90 (by decide +kernel) rfl, bg_in 540 (by decide +kernel) rfl⟩
theorem ks_copy : Cond.native arraycopyName ∈ bg_L ∧ Cond.static arraycopyName ∈ bg_L ∧ Cond.initialized "java/lang/System" ∈ bg_L := ⟨bg_in 1716 (by decide +kernel) rfl, bg_in 1715 (by decide +kernel) rfl, bg_in 95 (by decide +kernel) rfl⟩
theorem ks_obj : Cond.instanceMethod Lib.objectInit ∈ bg_L ∧ Cond.code Lib.objectInit ⟨#[0xb1]⟩ 1 none ∈ bg_L := ⟨bg_in 106 (by decide +kernel) rfl, bg_in 107 (by decide +kernel) rfl⟩
theorem kc_X8_init : (yX8_init.cls ≠ "java/lang/invoke/MethodHandle" ∧ yX8_init.cls ≠ "java/lang/invoke/VarHandle" ∧ (parseMethodDescriptor yX8_init.desc).map (fun d => d.parameters.length) = some 0) ∧ Cond.code yX8_init cX8_init 1 none ∈ bg_L ∧ Cond.initialized yX8_init.cls ∈ bg_L ∧ plainName yX8_init.cls = true := ⟨⟨by decide +kernel, by decide +kernel, by decide +kernel⟩, bg_in 196 (by decide +kernel) rfl, bg_in 82 (by decide +kernel) rfl, by decide +kernel⟩
theorem kt_X8_init : Cond.instanceMethod yX8_init ∈ bg_L := bg_in 195 (by decide +kernel) rfl
theorem kc_X8_begin : (yX8_begin.cls ≠ "java/lang/invoke/MethodHandle" ∧ yX8_begin.cls ≠ "java/lang/invoke/VarHandle" ∧ (parseMethodDescriptor yX8_begin.desc).map (fun d => d.parameters.length) = some 1) ∧ Cond.code yX8_begin cX8_begin 2 none ∈ bg_L ∧ Cond.initialized yX8_begin.cls ∈ bg_L ∧ plainName yX8_begin.cls = true := ⟨⟨by decide +kernel, by decide +kernel, by decide +kernel⟩, bg_in 288 (by decide +kernel) rfl, bg_in 82 (by decide +kernel) rfl, by decide +kernel⟩
theorem kt_X8_begin : Cond.instanceMethod yX8_begin ∈ bg_L := bg_in 286 (by decide +kernel) rfl
theorem ke_X8_begin : Cond.selects RX8 yX8_begin yX8_begin ∈ bg_L := bg_in 287 (by decide +kernel) rfl
theorem kc_X8_wouldJoin : (yX8_wouldJoin.cls ≠ "java/lang/invoke/MethodHandle" ∧ yX8_wouldJoin.cls ≠ "java/lang/invoke/VarHandle" ∧ (parseMethodDescriptor yX8_wouldJoin.desc).map (fun d => d.parameters.length) = some 1) ∧ Cond.code yX8_wouldJoin cX8_wouldJoin 2 (some .boolean) ∈ bg_L ∧ Cond.initialized yX8_wouldJoin.cls ∈ bg_L ∧ plainName yX8_wouldJoin.cls = true := ⟨⟨by decide +kernel, by decide +kernel, by decide +kernel⟩, bg_in 304 (by decide +kernel) rfl, bg_in 82 (by decide +kernel) rfl, by decide +kernel⟩
theorem kt_X8_wouldJoin : Cond.instanceMethod yX8_wouldJoin ∈ bg_L := bg_in 302 (by decide +kernel) rfl
theorem ke_X8_wouldJoin : Cond.selects RX8 yX8_wouldJoin yX8_wouldJoin ∈ bg_L := bg_in 303 (by decide +kernel) rfl
theorem kc_X8_putLayer : (yX8_putLayer.cls ≠ "java/lang/invoke/MethodHandle" ∧ yX8_putLayer.cls ≠ "java/lang/invoke/VarHandle" ∧ (parseMethodDescriptor yX8_putLayer.desc).map (fun d => d.parameters.length) = some 3) ∧ Cond.code yX8_putLayer cX8_putLayer 4 (some .boolean) ∈ bg_L ∧ Cond.initialized yX8_putLayer.cls ∈ bg_L ∧ plainName yX8_putLayer.cls = true := ⟨⟨by decide +kernel, by decide +kernel, by decide +kernel⟩, bg_in 300 (by decide +kernel) rfl, bg_in 82 (by decide +kernel) rfl, by decide +kernel⟩
theorem kt_X8_putLayer : Cond.instanceMethod yX8_putLayer ∈ bg_L := bg_in 298 (by decide +kernel) rfl
theorem ke_X8_putLayer : Cond.selects RX8 yX8_putLayer yX8_putLayer ∈ bg_L := bg_in 299 (by decide +kernel) rfl
theorem kc_X8_load : (yX8_load.cls ≠ "java/lang/invoke/MethodHandle" ∧ yX8_load.cls ≠ "java/lang/invoke/VarHandle" ∧ (parseMethodDescriptor yX8_load.desc).map (fun d => d.parameters.length) = some 2) ∧ Cond.code yX8_load cX8_load 3 none ∈ bg_L ∧ Cond.initialized yX8_load.cls ∈ bg_L ∧ plainName yX8_load.cls = true := ⟨⟨by decide +kernel, by decide +kernel, by decide +kernel⟩, bg_in 296 (by decide +kernel) rfl, bg_in 82 (by decide +kernel) rfl, by decide +kernel⟩
theorem kt_X8_load : Cond.instanceMethod yX8_load ∈ bg_L := bg_in 294 (by decide +kernel) rfl
theorem ke_X8_load : Cond.selects RX8 yX8_load yX8_load ∈ bg_L := bg_in 295 (by decide +kernel) rfl
theorem kc_X1_init : (yX1_init.cls ≠ "java/lang/invoke/MethodHandle" ∧ yX1_init.cls ≠ "java/lang/invoke/VarHandle" ∧ (parseMethodDescriptor yX1_init.desc).map (fun d => d.parameters.length) = some 0) ∧ Cond.code yX1_init cX1_init 2 none ∈ bg_L ∧ Cond.initialized yX1_init.cls ∈ bg_L ∧ plainName yX1_init.cls = true := ⟨⟨by decide +kernel, by decide +kernel, by decide +kernel⟩, bg_in 189 (by decide +kernel) rfl, bg_in 81 (by decide +kernel) rfl, by decide +kernel⟩
theorem kt_X1_init : Cond.instanceMethod yX1_init ∈ bg_L := bg_in 188 (by decide +kernel) rfl
theorem kc_X1_begin : (yX1_begin.cls ≠ "java/lang/invoke/MethodHandle" ∧ yX1_begin.cls ≠ "java/lang/invoke/VarHandle" ∧ (parseMethodDescriptor yX1_begin.desc).map (fun d => d.parameters.length) = some 3) ∧ Cond.code yX1_begin cX1_begin 4 none ∈ bg_L ∧ Cond.initialized yX1_begin.cls ∈ bg_L ∧ plainName yX1_begin.cls = true := ⟨⟨by decide +kernel, by decide +kernel, by decide +kernel⟩, bg_in 280 (by decide +kernel) rfl, bg_in 81 (by decide +kernel) rfl, by decide +kernel⟩
theorem kt_X1_begin : Cond.instanceMethod yX1_begin ∈ bg_L := bg_in 278 (by decide +kernel) rfl
theorem ke_X1_begin : Cond.selects RX1 yX1_begin yX1_begin ∈ bg_L := bg_in 279 (by decide +kernel) rfl
theorem kc_X1_addSheet : (yX1_addSheet.cls ≠ "java/lang/invoke/MethodHandle" ∧ yX1_addSheet.cls ≠ "java/lang/invoke/VarHandle" ∧ (parseMethodDescriptor yX1_addSheet.desc).map (fun d => d.parameters.length) = some 1) ∧ Cond.code yX1_addSheet cX1_addSheet 2 none ∈ bg_L ∧ Cond.initialized yX1_addSheet.cls ∈ bg_L ∧ plainName yX1_addSheet.cls = true := ⟨⟨by decide +kernel, by decide +kernel, by decide +kernel⟩, bg_in 284 (by decide +kernel) rfl, bg_in 81 (by decide +kernel) rfl, by decide +kernel⟩
theorem kt_X1_addSheet : Cond.instanceMethod yX1_addSheet ∈ bg_L := bg_in 282 (by decide +kernel) rfl
theorem ke_X1_addSheet : Cond.selects RX1 yX1_addSheet yX1_addSheet ∈ bg_L := bg_in 283 (by decide +kernel) rfl
theorem kc_X1_addLayer : (yX1_addLayer.cls ≠ "java/lang/invoke/MethodHandle" ∧ yX1_addLayer.cls ≠ "java/lang/invoke/VarHandle" ∧ (parseMethodDescriptor yX1_addLayer.desc).map (fun d => d.parameters.length) = some 2) ∧ Cond.code yX1_addLayer cX1_addLayer 3 none ∈ bg_L ∧ Cond.initialized yX1_addLayer.cls ∈ bg_L ∧ plainName yX1_addLayer.cls = true := ⟨⟨by decide +kernel, by decide +kernel, by decide +kernel⟩, bg_in 292 (by decide +kernel) rfl, bg_in 81 (by decide +kernel) rfl, by decide +kernel⟩
theorem kt_X1_addLayer : Cond.instanceMethod yX1_addLayer ∈ bg_L := bg_in 290 (by decide +kernel) rfl
theorem ke_X1_addLayer : Cond.selects RX1 yX1_addLayer yX1_addLayer ∈ bg_L := bg_in 291 (by decide +kernel) rfl
theorem kc_X8_copyFrom : (yX8_copyFrom.cls ≠ "java/lang/invoke/MethodHandle" ∧ yX8_copyFrom.cls ≠ "java/lang/invoke/VarHandle" ∧ (parseMethodDescriptor yX8_copyFrom.desc).map (fun d => d.parameters.length) = some 1) ∧ Cond.code yX8_copyFrom cX8_copyFrom 3 none ∈ bg_L ∧ Cond.initialized yX8_copyFrom.cls ∈ bg_L ∧ plainName yX8_copyFrom.cls = true := ⟨⟨by decide +kernel, by decide +kernel, by decide +kernel⟩, bg_in 445 (by decide +kernel) rfl, bg_in 82 (by decide +kernel) rfl, by decide +kernel⟩
theorem kt_X8_copyFrom : Cond.instanceMethod yX8_copyFrom ∈ bg_L := bg_in 443 (by decide +kernel) rfl
theorem ke_X8_copyFrom : Cond.selects RX8 yX8_copyFrom yX8_copyFrom ∈ bg_L := bg_in 444 (by decide +kernel) rfl
theorem kc_X11_layersFolded : (yX11_layersFolded.cls ≠ "java/lang/invoke/MethodHandle" ∧ yX11_layersFolded.cls ≠ "java/lang/invoke/VarHandle" ∧ (parseMethodDescriptor yX11_layersFolded.desc).map (fun d => d.parameters.length) = some 3) ∧ Cond.code yX11_layersFolded cX11_layersFolded 4 (some .int) ∈ bg_L ∧ Cond.initialized yX11_layersFolded.cls ∈ bg_L ∧ plainName yX11_layersFolded.cls = true := ⟨⟨by decide +kernel, by decide +kernel, by decide +kernel⟩, bg_in 865 (by decide +kernel) rfl, bg_in 75 (by decide +kernel) rfl, by decide +kernel⟩
theorem kt_X11_layersFolded : Cond.static yX11_layersFolded ∈ bg_L := bg_in 864 (by decide +kernel) rfl
theorem kc_X8_totalHeight : (yX8_totalHeight.cls ≠ "java/lang/invoke/MethodHandle" ∧ yX8_totalHeight.cls ≠ "java/lang/invoke/VarHandle" ∧ (parseMethodDescriptor yX8_totalHeight.desc).map (fun d => d.parameters.length) = some 0) ∧ Cond.code yX8_totalHeight cX8_totalHeight 3 (some .int) ∈ bg_L ∧ Cond.initialized yX8_totalHeight.cls ∈ bg_L ∧ plainName yX8_totalHeight.cls = true := ⟨⟨by decide +kernel, by decide +kernel, by decide +kernel⟩, bg_in 733 (by decide +kernel) rfl, bg_in 82 (by decide +kernel) rfl, by decide +kernel⟩
theorem kt_X8_totalHeight : Cond.instanceMethod yX8_totalHeight ∈ bg_L := bg_in 731 (by decide +kernel) rfl
theorem ke_X8_totalHeight : Cond.selects RX8 yX8_totalHeight yX8_totalHeight ∈ bg_L := bg_in 732 (by decide +kernel) rfl
theorem kc_X1_hasSheet : (yX1_hasSheet.cls ≠ "java/lang/invoke/MethodHandle" ∧ yX1_hasSheet.cls ≠ "java/lang/invoke/VarHandle" ∧ (parseMethodDescriptor yX1_hasSheet.desc).map (fun d => d.parameters.length) = some 1) ∧ Cond.code yX1_hasSheet cX1_hasSheet 2 (some .boolean) ∈ bg_L ∧ Cond.initialized yX1_hasSheet.cls ∈ bg_L ∧ plainName yX1_hasSheet.cls = true := ⟨⟨by decide +kernel, by decide +kernel, by decide +kernel⟩, bg_in 677 (by decide +kernel) rfl, bg_in 81 (by decide +kernel) rfl, by decide +kernel⟩
theorem kt_X1_hasSheet : Cond.instanceMethod yX1_hasSheet ∈ bg_L := bg_in 675 (by decide +kernel) rfl
theorem ke_X1_hasSheet : Cond.selects RX1 yX1_hasSheet yX1_hasSheet ∈ bg_L := bg_in 676 (by decide +kernel) rfl
theorem kc_X11_isFactor : (yX11_isFactor.cls ≠ "java/lang/invoke/MethodHandle" ∧ yX11_isFactor.cls ≠ "java/lang/invoke/VarHandle" ∧ (parseMethodDescriptor yX11_isFactor.desc).map (fun d => d.parameters.length) = some 1) ∧ Cond.code yX11_isFactor cX11_isFactor 1 (some .boolean) ∈ bg_L ∧ Cond.initialized yX11_isFactor.cls ∈ bg_L ∧ plainName yX11_isFactor.cls = true := ⟨⟨by decide +kernel, by decide +kernel, by decide +kernel⟩, bg_in 857 (by decide +kernel) rfl, bg_in 75 (by decide +kernel) rfl, by decide +kernel⟩
theorem kt_X11_isFactor : Cond.static yX11_isFactor ∈ bg_L := bg_in 856 (by decide +kernel) rfl
theorem kc_X8_findFoldObstacle : (yX8_findFoldObstacle.cls ≠ "java/lang/invoke/MethodHandle" ∧ yX8_findFoldObstacle.cls ≠ "java/lang/invoke/VarHandle" ∧ (parseMethodDescriptor yX8_findFoldObstacle.desc).map (fun d => d.parameters.length) = some 1) ∧ Cond.code yX8_findFoldObstacle cX8_findFoldObstacle 2 (some .int) ∈ bg_L ∧ Cond.initialized yX8_findFoldObstacle.cls ∈ bg_L ∧ plainName yX8_findFoldObstacle.cls = true := ⟨⟨by decide +kernel, by decide +kernel, by decide +kernel⟩, bg_in 862 (by decide +kernel) rfl, bg_in 82 (by decide +kernel) rfl, by decide +kernel⟩
theorem kt_X8_findFoldObstacle : Cond.instanceMethod yX8_findFoldObstacle ∈ bg_L := bg_in 860 (by decide +kernel) rfl
theorem ke_X8_findFoldObstacle : Cond.selects RX8 yX8_findFoldObstacle yX8_findFoldObstacle ∈ bg_L := bg_in 861 (by decide +kernel) rfl
theorem kc_X1_stateRefusal : (yX1_stateRefusal.cls ≠ "java/lang/invoke/MethodHandle" ∧ yX1_stateRefusal.cls ≠ "java/lang/invoke/VarHandle" ∧ (parseMethodDescriptor yX1_stateRefusal.desc).map (fun d => d.parameters.length) = some 1) ∧ Cond.code yX1_stateRefusal cX1_stateRefusal 1 (some (.object "PastryBench$Refusal")) ∈ bg_L ∧ Cond.initialized yX1_stateRefusal.cls ∈ bg_L ∧ plainName yX1_stateRefusal.cls = true := ⟨⟨by decide +kernel, by decide +kernel, by decide +kernel⟩, bg_in 982 (by decide +kernel) rfl, bg_in 81 (by decide +kernel) rfl, by decide +kernel⟩
theorem kt_X1_stateRefusal : Cond.static yX1_stateRefusal ∈ bg_L := bg_in 981 (by decide +kernel) rfl
theorem kc_X11_warmedByWork : (yX11_warmedByWork.cls ≠ "java/lang/invoke/MethodHandle" ∧ yX11_warmedByWork.cls ≠ "java/lang/invoke/VarHandle" ∧ (parseMethodDescriptor yX11_warmedByWork.desc).map (fun d => d.parameters.length) = some 1) ∧ Cond.code yX11_warmedByWork cX11_warmedByWork 1 (some .int) ∈ bg_L ∧ Cond.initialized yX11_warmedByWork.cls ∈ bg_L ∧ plainName yX11_warmedByWork.cls = true := ⟨⟨by decide +kernel, by decide +kernel, by decide +kernel⟩, bg_in 1029 (by decide +kernel) rfl, bg_in 75 (by decide +kernel) rfl, by decide +kernel⟩
theorem kt_X11_warmedByWork : Cond.static yX11_warmedByWork ∈ bg_L := bg_in 1028 (by decide +kernel) rfl
theorem kc_X8_foldUp : (yX8_foldUp.cls ≠ "java/lang/invoke/MethodHandle" ∧ yX8_foldUp.cls ≠ "java/lang/invoke/VarHandle" ∧ (parseMethodDescriptor yX8_foldUp.desc).map (fun d => d.parameters.length) = some 1) ∧ Cond.code yX8_foldUp cX8_foldUp 10 none ∈ bg_L ∧ Cond.initialized yX8_foldUp.cls ∈ bg_L ∧ plainName yX8_foldUp.cls = true := ⟨⟨by decide +kernel, by decide +kernel, by decide +kernel⟩, bg_in 1026 (by decide +kernel) rfl, bg_in 82 (by decide +kernel) rfl, by decide +kernel⟩
theorem kt_X8_foldUp : Cond.instanceMethod yX8_foldUp ∈ bg_L := bg_in 1024 (by decide +kernel) rfl
theorem ke_X8_foldUp : Cond.selects RX8 yX8_foldUp yX8_foldUp ∈ bg_L := bg_in 1025 (by decide +kernel) rfl
theorem kc_X8_lossPerLayer : (yX8_lossPerLayer.cls ≠ "java/lang/invoke/MethodHandle" ∧ yX8_lossPerLayer.cls ≠ "java/lang/invoke/VarHandle" ∧ (parseMethodDescriptor yX8_lossPerLayer.desc).map (fun d => d.parameters.length) = some 1) ∧ Cond.code yX8_lossPerLayer cX8_lossPerLayer 2 (some .int) ∈ bg_L ∧ Cond.initialized yX8_lossPerLayer.cls ∈ bg_L ∧ plainName yX8_lossPerLayer.cls = true := ⟨⟨by decide +kernel, by decide +kernel, by decide +kernel⟩, bg_in 900 (by decide +kernel) rfl, bg_in 82 (by decide +kernel) rfl, by decide +kernel⟩
theorem kt_X8_lossPerLayer : Cond.instanceMethod yX8_lossPerLayer ∈ bg_L := bg_in 898 (by decide +kernel) rfl
theorem ke_X8_lossPerLayer : Cond.selects RX8 yX8_lossPerLayer yX8_lossPerLayer ∈ bg_L := bg_in 899 (by decide +kernel) rfl
theorem kc_X8_thicknessRolled : (yX8_thicknessRolled.cls ≠ "java/lang/invoke/MethodHandle" ∧ yX8_thicknessRolled.cls ≠ "java/lang/invoke/VarHandle" ∧ (parseMethodDescriptor yX8_thicknessRolled.desc).map (fun d => d.parameters.length) = some 3) ∧ Cond.code yX8_thicknessRolled cX8_thicknessRolled 4 (some .int) ∈ bg_L ∧ Cond.initialized yX8_thicknessRolled.cls ∈ bg_L ∧ plainName yX8_thicknessRolled.cls = true := ⟨⟨by decide +kernel, by decide +kernel, by decide +kernel⟩, bg_in 919 (by decide +kernel) rfl, bg_in 82 (by decide +kernel) rfl, by decide +kernel⟩
theorem kt_X8_thicknessRolled : Cond.instanceMethod yX8_thicknessRolled ∈ bg_L := bg_in 917 (by decide +kernel) rfl
theorem ke_X8_thicknessRolled : Cond.selects RX8 yX8_thicknessRolled yX8_thicknessRolled ∈ bg_L := bg_in 918 (by decide +kernel) rfl
theorem kc_X8_sumRolled : (yX8_sumRolled.cls ≠ "java/lang/invoke/MethodHandle" ∧ yX8_sumRolled.cls ≠ "java/lang/invoke/VarHandle" ∧ (parseMethodDescriptor yX8_sumRolled.desc).map (fun d => d.parameters.length) = some 2) ∧ Cond.code yX8_sumRolled cX8_sumRolled 6 (some .int) ∈ bg_L ∧ Cond.initialized yX8_sumRolled.cls ∈ bg_L ∧ plainName yX8_sumRolled.cls = true := ⟨⟨by decide +kernel, by decide +kernel, by decide +kernel⟩, bg_in 930 (by decide +kernel) rfl, bg_in 82 (by decide +kernel) rfl, by decide +kernel⟩
theorem kt_X8_sumRolled : Cond.instanceMethod yX8_sumRolled ∈ bg_L := bg_in 928 (by decide +kernel) rfl
theorem ke_X8_sumRolled : Cond.selects RX8 yX8_sumRolled yX8_sumRolled ∈ bg_L := bg_in 929 (by decide +kernel) rfl
theorem kc_X8_sumEscaping : (yX8_sumEscaping.cls ≠ "java/lang/invoke/MethodHandle" ∧ yX8_sumEscaping.cls ≠ "java/lang/invoke/VarHandle" ∧ (parseMethodDescriptor yX8_sumEscaping.desc).map (fun d => d.parameters.length) = some 1) ∧ Cond.code yX8_sumEscaping cX8_sumEscaping 5 (some .int) ∈ bg_L ∧ Cond.initialized yX8_sumEscaping.cls ∈ bg_L ∧ plainName yX8_sumEscaping.cls = true := ⟨⟨by decide +kernel, by decide +kernel, by decide +kernel⟩, bg_in 896 (by decide +kernel) rfl, bg_in 82 (by decide +kernel) rfl, by decide +kernel⟩
theorem kt_X8_sumEscaping : Cond.instanceMethod yX8_sumEscaping ∈ bg_L := bg_in 894 (by decide +kernel) rfl
theorem ke_X8_sumEscaping : Cond.selects RX8 yX8_sumEscaping yX8_sumEscaping ∈ bg_L := bg_in 895 (by decide +kernel) rfl
theorem kc_X8_rollOut : (yX8_rollOut.cls ≠ "java/lang/invoke/MethodHandle" ∧ yX8_rollOut.cls ≠ "java/lang/invoke/VarHandle" ∧ (parseMethodDescriptor yX8_rollOut.desc).map (fun d => d.parameters.length) = some 2) ∧ Cond.code yX8_rollOut cX8_rollOut 10 (some .int) ∈ bg_L ∧ Cond.initialized yX8_rollOut.cls ∈ bg_L ∧ plainName yX8_rollOut.cls = true := ⟨⟨by decide +kernel, by decide +kernel, by decide +kernel⟩, bg_in 1051 (by decide +kernel) rfl, bg_in 82 (by decide +kernel) rfl, by decide +kernel⟩
theorem kt_X8_rollOut : Cond.instanceMethod yX8_rollOut ∈ bg_L := bg_in 1049 (by decide +kernel) rfl
theorem ke_X8_rollOut : Cond.selects RX8 yX8_rollOut yX8_rollOut ∈ bg_L := bg_in 1050 (by decide +kernel) rfl
theorem kc_X1_countSealed : (yX1_countSealed.cls ≠ "java/lang/invoke/MethodHandle" ∧ yX1_countSealed.cls ≠ "java/lang/invoke/VarHandle" ∧ (parseMethodDescriptor yX1_countSealed.desc).map (fun d => d.parameters.length) = some 0) ∧ Cond.code yX1_countSealed cX1_countSealed 3 (some .int) ∈ bg_L ∧ Cond.initialized yX1_countSealed.cls ∈ bg_L ∧ plainName yX1_countSealed.cls = true := ⟨⟨by decide +kernel, by decide +kernel, by decide +kernel⟩, bg_in 1085 (by decide +kernel) rfl, bg_in 81 (by decide +kernel) rfl, by decide +kernel⟩
theorem kt_X1_countSealed : Cond.instanceMethod yX1_countSealed ∈ bg_L := bg_in 1083 (by decide +kernel) rfl
theorem ke_X1_countSealed : Cond.selects RX1 yX1_countSealed yX1_countSealed ∈ bg_L := bg_in 1084 (by decide +kernel) rfl
theorem kc_X1_countCooling : (yX1_countCooling.cls ≠ "java/lang/invoke/MethodHandle" ∧ yX1_countCooling.cls ≠ "java/lang/invoke/VarHandle" ∧ (parseMethodDescriptor yX1_countCooling.desc).map (fun d => d.parameters.length) = some 0) ∧ Cond.code yX1_countCooling cX1_countCooling 3 (some .int) ∈ bg_L ∧ Cond.initialized yX1_countCooling.cls ∈ bg_L ∧ plainName yX1_countCooling.cls = true := ⟨⟨by decide +kernel, by decide +kernel, by decide +kernel⟩, bg_in 1100 (by decide +kernel) rfl, bg_in 81 (by decide +kernel) rfl, by decide +kernel⟩
theorem kt_X1_countCooling : Cond.instanceMethod yX1_countCooling ∈ bg_L := bg_in 1098 (by decide +kernel) rfl
theorem ke_X1_countCooling : Cond.selects RX1 yX1_countCooling yX1_countCooling ∈ bg_L := bg_in 1099 (by decide +kernel) rfl
theorem kc_X11_cooledByFridge : (yX11_cooledByFridge.cls ≠ "java/lang/invoke/MethodHandle" ∧ yX11_cooledByFridge.cls ≠ "java/lang/invoke/VarHandle" ∧ (parseMethodDescriptor yX11_cooledByFridge.desc).map (fun d => d.parameters.length) = some 1) ∧ Cond.code yX11_cooledByFridge cX11_cooledByFridge 1 (some .int) ∈ bg_L ∧ Cond.initialized yX11_cooledByFridge.cls ∈ bg_L ∧ plainName yX11_cooledByFridge.cls = true := ⟨⟨by decide +kernel, by decide +kernel, by decide +kernel⟩, bg_in 945 (by decide +kernel) rfl, bg_in 75 (by decide +kernel) rfl, by decide +kernel⟩
theorem kt_X11_cooledByFridge : Cond.static yX11_cooledByFridge ∈ bg_L := bg_in 944 (by decide +kernel) rfl
theorem kc_X11_drawnToRoom : (yX11_drawnToRoom.cls ≠ "java/lang/invoke/MethodHandle" ∧ yX11_drawnToRoom.cls ≠ "java/lang/invoke/VarHandle" ∧ (parseMethodDescriptor yX11_drawnToRoom.desc).map (fun d => d.parameters.length) = some 2) ∧ Cond.code yX11_drawnToRoom cX11_drawnToRoom 2 (some .int) ∈ bg_L ∧ Cond.initialized yX11_drawnToRoom.cls ∈ bg_L ∧ plainName yX11_drawnToRoom.cls = true := ⟨⟨by decide +kernel, by decide +kernel, by decide +kernel⟩, bg_in 949 (by decide +kernel) rfl, bg_in 75 (by decide +kernel) rfl, by decide +kernel⟩
theorem kt_X11_drawnToRoom : Cond.static yX11_drawnToRoom ∈ bg_L := bg_in 948 (by decide +kernel) rfl
theorem kc_X8_warmthAfter : (yX8_warmthAfter.cls ≠ "java/lang/invoke/MethodHandle" ∧ yX8_warmthAfter.cls ≠ "java/lang/invoke/VarHandle" ∧ (parseMethodDescriptor yX8_warmthAfter.desc).map (fun d => d.parameters.length) = some 2) ∧ Cond.code yX8_warmthAfter cX8_warmthAfter 5 (some .int) ∈ bg_L ∧ Cond.initialized yX8_warmthAfter.cls ∈ bg_L ∧ plainName yX8_warmthAfter.cls = true := ⟨⟨by decide +kernel, by decide +kernel, by decide +kernel⟩, bg_in 942 (by decide +kernel) rfl, bg_in 82 (by decide +kernel) rfl, by decide +kernel⟩
theorem kt_X8_warmthAfter : Cond.instanceMethod yX8_warmthAfter ∈ bg_L := bg_in 940 (by decide +kernel) rfl
theorem ke_X8_warmthAfter : Cond.selects RX8 yX8_warmthAfter yX8_warmthAfter ∈ bg_L := bg_in 941 (by decide +kernel) rfl
theorem kc_X1_countUnsafe : (yX1_countUnsafe.cls ≠ "java/lang/invoke/MethodHandle" ∧ yX1_countUnsafe.cls ≠ "java/lang/invoke/VarHandle" ∧ (parseMethodDescriptor yX1_countUnsafe.desc).map (fun d => d.parameters.length) = some 0) ∧ Cond.code yX1_countUnsafe cX1_countUnsafe 3 (some .int) ∈ bg_L ∧ Cond.initialized yX1_countUnsafe.cls ∈ bg_L ∧ plainName yX1_countUnsafe.cls = true := ⟨⟨by decide +kernel, by decide +kernel, by decide +kernel⟩, bg_in 1139 (by decide +kernel) rfl, bg_in 81 (by decide +kernel) rfl, by decide +kernel⟩
theorem kt_X1_countUnsafe : Cond.instanceMethod yX1_countUnsafe ∈ bg_L := bg_in 1137 (by decide +kernel) rfl
theorem ke_X1_countUnsafe : Cond.selects RX1 yX1_countUnsafe yX1_countUnsafe ∈ bg_L := bg_in 1138 (by decide +kernel) rfl
theorem kc_X8_joinsWith : (yX8_joinsWith.cls ≠ "java/lang/invoke/MethodHandle" ∧ yX8_joinsWith.cls ≠ "java/lang/invoke/VarHandle" ∧ (parseMethodDescriptor yX8_joinsWith.desc).map (fun d => d.parameters.length) = some 1) ∧ Cond.code yX8_joinsWith cX8_joinsWith 2 (some .boolean) ∈ bg_L ∧ Cond.initialized yX8_joinsWith.cls ∈ bg_L ∧ plainName yX8_joinsWith.cls = true := ⟨⟨by decide +kernel, by decide +kernel, by decide +kernel⟩, bg_in 1173 (by decide +kernel) rfl, bg_in 82 (by decide +kernel) rfl, by decide +kernel⟩
theorem kt_X8_joinsWith : Cond.instanceMethod yX8_joinsWith ∈ bg_L := bg_in 1171 (by decide +kernel) rfl
theorem ke_X8_joinsWith : Cond.selects RX8 yX8_joinsWith yX8_joinsWith ∈ bg_L := bg_in 1172 (by decide +kernel) rfl
theorem kc_X8_layersWith : (yX8_layersWith.cls ≠ "java/lang/invoke/MethodHandle" ∧ yX8_layersWith.cls ≠ "java/lang/invoke/VarHandle" ∧ (parseMethodDescriptor yX8_layersWith.desc).map (fun d => d.parameters.length) = some 1) ∧ Cond.code yX8_layersWith cX8_layersWith 2 (some .int) ∈ bg_L ∧ Cond.initialized yX8_layersWith.cls ∈ bg_L ∧ plainName yX8_layersWith.cls = true := ⟨⟨by decide +kernel, by decide +kernel, by decide +kernel⟩, bg_in 1169 (by decide +kernel) rfl, bg_in 82 (by decide +kernel) rfl, by decide +kernel⟩
theorem kt_X8_layersWith : Cond.instanceMethod yX8_layersWith ∈ bg_L := bg_in 1167 (by decide +kernel) rfl
theorem ke_X8_layersWith : Cond.selects RX8 yX8_layersWith yX8_layersWith ∈ bg_L := bg_in 1168 (by decide +kernel) rfl
theorem kc_X8_carry : (yX8_carry.cls ≠ "java/lang/invoke/MethodHandle" ∧ yX8_carry.cls ≠ "java/lang/invoke/VarHandle" ∧ (parseMethodDescriptor yX8_carry.desc).map (fun d => d.parameters.length) = some 1) ∧ Cond.code yX8_carry cX8_carry 4 none ∈ bg_L ∧ Cond.initialized yX8_carry.cls ∈ bg_L ∧ plainName yX8_carry.cls = true := ⟨⟨by decide +kernel, by decide +kernel, by decide +kernel⟩, bg_in 1182 (by decide +kernel) rfl, bg_in 82 (by decide +kernel) rfl, by decide +kernel⟩
theorem kt_X8_carry : Cond.instanceMethod yX8_carry ∈ bg_L := bg_in 1180 (by decide +kernel) rfl
theorem ke_X8_carry : Cond.selects RX8 yX8_carry yX8_carry ∈ bg_L := bg_in 1181 (by decide +kernel) rfl
theorem kc_X1_removeSheet : (yX1_removeSheet.cls ≠ "java/lang/invoke/MethodHandle" ∧ yX1_removeSheet.cls ≠ "java/lang/invoke/VarHandle" ∧ (parseMethodDescriptor yX1_removeSheet.desc).map (fun d => d.parameters.length) = some 1) ∧ Cond.code yX1_removeSheet cX1_removeSheet 4 none ∈ bg_L ∧ Cond.initialized yX1_removeSheet.cls ∈ bg_L ∧ plainName yX1_removeSheet.cls = true := ⟨⟨by decide +kernel, by decide +kernel, by decide +kernel⟩, bg_in 1186 (by decide +kernel) rfl, bg_in 81 (by decide +kernel) rfl, by decide +kernel⟩
theorem kt_X1_removeSheet : Cond.instanceMethod yX1_removeSheet ∈ bg_L := bg_in 1184 (by decide +kernel) rfl
theorem ke_X1_removeSheet : Cond.selects RX1 yX1_removeSheet yX1_removeSheet ∈ bg_L := bg_in 1185 (by decide +kernel) rfl
theorem kc_X8_butterTop : (yX8_butterTop.cls ≠ "java/lang/invoke/MethodHandle" ∧ yX8_butterTop.cls ≠ "java/lang/invoke/VarHandle" ∧ (parseMethodDescriptor yX8_butterTop.desc).map (fun d => d.parameters.length) = some 1) ∧ Cond.code yX8_butterTop cX8_butterTop 3 none ∈ bg_L ∧ Cond.initialized yX8_butterTop.cls ∈ bg_L ∧ plainName yX8_butterTop.cls = true := ⟨⟨by decide +kernel, by decide +kernel, by decide +kernel⟩, bg_in 1205 (by decide +kernel) rfl, bg_in 82 (by decide +kernel) rfl, by decide +kernel⟩
theorem kt_X8_butterTop : Cond.instanceMethod yX8_butterTop ∈ bg_L := bg_in 1203 (by decide +kernel) rfl
theorem ke_X8_butterTop : Cond.selects RX8 yX8_butterTop yX8_butterTop ∈ bg_L := bg_in 1204 (by decide +kernel) rfl
theorem kc_X3_dropOldest : (yX3_dropOldest.cls ≠ "java/lang/invoke/MethodHandle" ∧ yX3_dropOldest.cls ≠ "java/lang/invoke/VarHandle" ∧ (parseMethodDescriptor yX3_dropOldest.desc).map (fun d => d.parameters.length) = some 0) ∧ Cond.code yX3_dropOldest cX3_dropOldest 3 none ∈ bg_L ∧ Cond.initialized yX3_dropOldest.cls ∈ bg_L ∧ plainName yX3_dropOldest.cls = true := ⟨⟨by decide +kernel, by decide +kernel, by decide +kernel⟩, bg_in 1017 (by decide +kernel) rfl, bg_in 83 (by decide +kernel) rfl, by decide +kernel⟩
theorem kt_X3_dropOldest : Cond.instanceMethod yX3_dropOldest ∈ bg_L := bg_in 1015 (by decide +kernel) rfl
theorem ke_X3_dropOldest : Cond.selects RX3 yX3_dropOldest yX3_dropOldest ∈ bg_L := bg_in 1016 (by decide +kernel) rfl
theorem kc_X1_copyFrom : (yX1_copyFrom.cls ≠ "java/lang/invoke/MethodHandle" ∧ yX1_copyFrom.cls ≠ "java/lang/invoke/VarHandle" ∧ (parseMethodDescriptor yX1_copyFrom.desc).map (fun d => d.parameters.length) = some 1) ∧ Cond.code yX1_copyFrom cX1_copyFrom 3 none ∈ bg_L ∧ Cond.initialized yX1_copyFrom.cls ∈ bg_L ∧ plainName yX1_copyFrom.cls = true := ⟨⟨by decide +kernel, by decide +kernel, by decide +kernel⟩, bg_in 441 (by decide +kernel) rfl, bg_in 81 (by decide +kernel) rfl, by decide +kernel⟩
theorem kt_X1_copyFrom : Cond.instanceMethod yX1_copyFrom ∈ bg_L := bg_in 439 (by decide +kernel) rfl
theorem ke_X1_copyFrom : Cond.selects RX1 yX1_copyFrom yX1_copyFrom ∈ bg_L := bg_in 440 (by decide +kernel) rfl
theorem kc_X4_put : (yX4_put.cls ≠ "java/lang/invoke/MethodHandle" ∧ yX4_put.cls ≠ "java/lang/invoke/VarHandle" ∧ (parseMethodDescriptor yX4_put.desc).map (fun d => d.parameters.length) = some 1) ∧ Cond.code yX4_put cX4_put 2 none ∈ bg_L ∧ Cond.initialized yX4_put.cls ∈ bg_L ∧ plainName yX4_put.cls = true := ⟨⟨by decide +kernel, by decide +kernel, by decide +kernel⟩, bg_in 1298 (by decide +kernel) rfl, bg_in 84 (by decide +kernel) rfl, by decide +kernel⟩
theorem kt_X4_put : Cond.instanceMethod yX4_put ∈ bg_L := bg_in 1296 (by decide +kernel) rfl
theorem ke_X4_put : Cond.selects RX4 yX4_put yX4_put ∈ bg_L := bg_in 1297 (by decide +kernel) rfl
theorem kc_X4_putNumber : (yX4_putNumber.cls ≠ "java/lang/invoke/MethodHandle" ∧ yX4_putNumber.cls ≠ "java/lang/invoke/VarHandle" ∧ (parseMethodDescriptor yX4_putNumber.desc).map (fun d => d.parameters.length) = some 1) ∧ Cond.code yX4_putNumber cX4_putNumber 3 none ∈ bg_L ∧ Cond.initialized yX4_putNumber.cls ∈ bg_L ∧ plainName yX4_putNumber.cls = true := ⟨⟨by decide +kernel, by decide +kernel, by decide +kernel⟩, bg_in 1302 (by decide +kernel) rfl, bg_in 84 (by decide +kernel) rfl, by decide +kernel⟩
theorem kt_X4_putNumber : Cond.instanceMethod yX4_putNumber ∈ bg_L := bg_in 1300 (by decide +kernel) rfl
theorem ke_X4_putNumber : Cond.selects RX4 yX4_putNumber yX4_putNumber ∈ bg_L := bg_in 1301 (by decide +kernel) rfl
theorem kc_X10_init : (yX10_init.cls ≠ "java/lang/invoke/MethodHandle" ∧ yX10_init.cls ≠ "java/lang/invoke/VarHandle" ∧ (parseMethodDescriptor yX10_init.desc).map (fun d => d.parameters.length) = some 0) ∧ Cond.code yX10_init cX10_init 1 none ∈ bg_L ∧ Cond.initialized yX10_init.cls ∈ bg_L ∧ plainName yX10_init.cls = true := ⟨⟨by decide +kernel, by decide +kernel, by decide +kernel⟩, bg_in 118 (by decide +kernel) rfl, bg_in 77 (by decide +kernel) rfl, by decide +kernel⟩
theorem kt_X10_init : Cond.instanceMethod yX10_init ∈ bg_L := bg_in 117 (by decide +kernel) rfl
theorem kc_X10_isSeparator : (yX10_isSeparator.cls ≠ "java/lang/invoke/MethodHandle" ∧ yX10_isSeparator.cls ≠ "java/lang/invoke/VarHandle" ∧ (parseMethodDescriptor yX10_isSeparator.desc).map (fun d => d.parameters.length) = some 1) ∧ Cond.code yX10_isSeparator cX10_isSeparator 1 (some .boolean) ∈ bg_L ∧ Cond.initialized yX10_isSeparator.cls ∈ bg_L ∧ plainName yX10_isSeparator.cls = true := ⟨⟨by decide +kernel, by decide +kernel, by decide +kernel⟩, bg_in 547 (by decide +kernel) rfl, bg_in 77 (by decide +kernel) rfl, by decide +kernel⟩
theorem kt_X10_isSeparator : Cond.static yX10_isSeparator ∈ bg_L := bg_in 546 (by decide +kernel) rfl
theorem kc_X10_isLetter : (yX10_isLetter.cls ≠ "java/lang/invoke/MethodHandle" ∧ yX10_isLetter.cls ≠ "java/lang/invoke/VarHandle" ∧ (parseMethodDescriptor yX10_isLetter.desc).map (fun d => d.parameters.length) = some 1) ∧ Cond.code yX10_isLetter cX10_isLetter 1 (some .boolean) ∈ bg_L ∧ Cond.initialized yX10_isLetter.cls ∈ bg_L ∧ plainName yX10_isLetter.cls = true := ⟨⟨by decide +kernel, by decide +kernel, by decide +kernel⟩, bg_in 550 (by decide +kernel) rfl, bg_in 77 (by decide +kernel) rfl, by decide +kernel⟩
theorem kt_X10_isLetter : Cond.static yX10_isLetter ∈ bg_L := bg_in 549 (by decide +kernel) rfl
theorem kc_X10_isDigit : (yX10_isDigit.cls ≠ "java/lang/invoke/MethodHandle" ∧ yX10_isDigit.cls ≠ "java/lang/invoke/VarHandle" ∧ (parseMethodDescriptor yX10_isDigit.desc).map (fun d => d.parameters.length) = some 1) ∧ Cond.code yX10_isDigit cX10_isDigit 1 (some .boolean) ∈ bg_L ∧ Cond.initialized yX10_isDigit.cls ∈ bg_L ∧ plainName yX10_isDigit.cls = true := ⟨⟨by decide +kernel, by decide +kernel, by decide +kernel⟩, bg_in 555 (by decide +kernel) rfl, bg_in 77 (by decide +kernel) rfl, by decide +kernel⟩
theorem kt_X10_isDigit : Cond.static yX10_isDigit ∈ bg_L := bg_in 554 (by decide +kernel) rfl
theorem kc_X10_advance : (yX10_advance.cls ≠ "java/lang/invoke/MethodHandle" ∧ yX10_advance.cls ≠ "java/lang/invoke/VarHandle" ∧ (parseMethodDescriptor yX10_advance.desc).map (fun d => d.parameters.length) = some 0) ∧ Cond.code yX10_advance cX10_advance 2 none ∈ bg_L ∧ Cond.initialized yX10_advance.cls ∈ bg_L ∧ plainName yX10_advance.cls = true := ⟨⟨by decide +kernel, by decide +kernel, by decide +kernel⟩, bg_in 544 (by decide +kernel) rfl, bg_in 77 (by decide +kernel) rfl, by decide +kernel⟩
theorem kt_X10_advance : Cond.instanceMethod yX10_advance ∈ bg_L := bg_in 542 (by decide +kernel) rfl
theorem ke_X10_advance : Cond.selects RX10 yX10_advance yX10_advance ∈ bg_L := bg_in 543 (by decide +kernel) rfl
theorem kc_X10_begin : (yX10_begin.cls ≠ "java/lang/invoke/MethodHandle" ∧ yX10_begin.cls ≠ "java/lang/invoke/VarHandle" ∧ (parseMethodDescriptor yX10_begin.desc).map (fun d => d.parameters.length) = some 2) ∧ Cond.code yX10_begin cX10_begin 3 none ∈ bg_L ∧ Cond.initialized yX10_begin.cls ∈ bg_L ∧ plainName yX10_begin.cls = true := ⟨⟨by decide +kernel, by decide +kernel, by decide +kernel⟩, bg_in 537 (by decide +kernel) rfl, bg_in 77 (by decide +kernel) rfl, by decide +kernel⟩
theorem kt_X10_begin : Cond.instanceMethod yX10_begin ∈ bg_L := bg_in 535 (by decide +kernel) rfl
theorem ke_X10_begin : Cond.selects RX10 yX10_begin yX10_begin ∈ bg_L := bg_in 536 (by decide +kernel) rfl
theorem kc_J0_coder_7d493 : (yJ0_coder_7d493.cls ≠ "java/lang/invoke/MethodHandle" ∧ yJ0_coder_7d493.cls ≠ "java/lang/invoke/VarHandle" ∧ (parseMethodDescriptor yJ0_coder_7d493.desc).map (fun d => d.parameters.length) = some 0) ∧ Cond.code yJ0_coder_7d493 cJ0_coder_7d493 1 (some .byte) ∈ bg_L ∧ Cond.initialized yJ0_coder_7d493.cls ∈ bg_L ∧ plainName yJ0_coder_7d493.cls = true := ⟨⟨by decide +kernel, by decide +kernel, by decide +kernel⟩, bg_in 583 (by decide +kernel) rfl, bg_in 91 (by decide +kernel) rfl, by decide +kernel⟩
theorem kt_J0_coder_7d493 : Cond.instanceMethod yJ0_coder_7d493 ∈ bg_L := bg_in 581 (by decide +kernel) rfl
theorem ke_J0_coder_7d493 : Cond.selects RJ0 yJ0_coder_7d493 yJ0_coder_7d493 ∈ bg_L := bg_in 582 (by decide +kernel) rfl
theorem kc_J3_checkIndex_8e157 : (yJ3_checkIndex_8e157.cls ≠ "java/lang/invoke/MethodHandle" ∧ yJ3_checkIndex_8e157.cls ≠ "java/lang/invoke/VarHandle" ∧ (parseMethodDescriptor yJ3_checkIndex_8e157.desc).map (fun d => d.parameters.length) = some 3) ∧ Cond.code yJ3_checkIndex_8e157 cJ3_checkIndex_8e157 3 (some .int) ∈ bg_L ∧ Cond.initialized yJ3_checkIndex_8e157.cls ∈ bg_L ∧ plainName yJ3_checkIndex_8e157.cls = true := ⟨⟨by decide +kernel, by decide +kernel, by decide +kernel⟩, bg_in 604 (by decide +kernel) rfl, bg_in 93 (by decide +kernel) rfl, by decide +kernel⟩
theorem kt_J3_checkIndex_8e157 : Cond.static yJ3_checkIndex_8e157 ∈ bg_L := bg_in 603 (by decide +kernel) rfl
theorem kc_J0_checkIndex_df160 : (yJ0_checkIndex_df160.cls ≠ "java/lang/invoke/MethodHandle" ∧ yJ0_checkIndex_df160.cls ≠ "java/lang/invoke/VarHandle" ∧ (parseMethodDescriptor yJ0_checkIndex_df160.desc).map (fun d => d.parameters.length) = some 2) ∧ Cond.code yJ0_checkIndex_df160 cJ0_checkIndex_df160 2 none ∈ bg_L ∧ Cond.initialized yJ0_checkIndex_df160.cls ∈ bg_L ∧ plainName yJ0_checkIndex_df160.cls = true := ⟨⟨by decide +kernel, by decide +kernel, by decide +kernel⟩, bg_in 599 (by decide +kernel) rfl, bg_in 91 (by decide +kernel) rfl, by decide +kernel⟩
theorem kt_J0_checkIndex_df160 : Cond.static yJ0_checkIndex_df160 ∈ bg_L := bg_in 598 (by decide +kernel) rfl
theorem kc_J2_length_9d52b : (yJ2_length_9d52b.cls ≠ "java/lang/invoke/MethodHandle" ∧ yJ2_length_9d52b.cls ≠ "java/lang/invoke/VarHandle" ∧ (parseMethodDescriptor yJ2_length_9d52b.desc).map (fun d => d.parameters.length) = some 1) ∧ Cond.code yJ2_length_9d52b cJ2_length_9d52b 1 (some .int) ∈ bg_L ∧ Cond.initialized yJ2_length_9d52b.cls ∈ bg_L ∧ plainName yJ2_length_9d52b.cls = true := ⟨⟨by decide +kernel, by decide +kernel, by decide +kernel⟩, bg_in 613 (by decide +kernel) rfl, bg_in 94 (by decide +kernel) rfl, by decide +kernel⟩
theorem kt_J2_length_9d52b : Cond.static yJ2_length_9d52b ∈ bg_L := bg_in 612 (by decide +kernel) rfl
theorem kc_J2_checkIndex_2214a : (yJ2_checkIndex_2214a.cls ≠ "java/lang/invoke/MethodHandle" ∧ yJ2_checkIndex_2214a.cls ≠ "java/lang/invoke/VarHandle" ∧ (parseMethodDescriptor yJ2_checkIndex_2214a.desc).map (fun d => d.parameters.length) = some 2) ∧ Cond.code yJ2_checkIndex_2214a cJ2_checkIndex_2214a 2 none ∈ bg_L ∧ Cond.initialized yJ2_checkIndex_2214a.cls ∈ bg_L ∧ plainName yJ2_checkIndex_2214a.cls = true := ⟨⟨by decide +kernel, by decide +kernel, by decide +kernel⟩, bg_in 610 (by decide +kernel) rfl, bg_in 94 (by decide +kernel) rfl, by decide +kernel⟩
theorem kt_J2_checkIndex_2214a : Cond.static yJ2_checkIndex_2214a ∈ bg_L := bg_in 609 (by decide +kernel) rfl
theorem kc_J2_getChar_3b067 : (yJ2_getChar_3b067.cls ≠ "java/lang/invoke/MethodHandle" ∧ yJ2_getChar_3b067.cls ≠ "java/lang/invoke/VarHandle" ∧ (parseMethodDescriptor yJ2_getChar_3b067.desc).map (fun d => d.parameters.length) = some 2) ∧ Cond.code yJ2_getChar_3b067 cJ2_getChar_3b067 2 (some .char) ∈ bg_L ∧ Cond.initialized yJ2_getChar_3b067.cls ∈ bg_L ∧ plainName yJ2_getChar_3b067.cls = true := ⟨⟨by decide +kernel, by decide +kernel, by decide +kernel⟩, bg_in 617 (by decide +kernel) rfl, bg_in 94 (by decide +kernel) rfl, by decide +kernel⟩
theorem kt_J2_getChar_3b067 : Cond.static yJ2_getChar_3b067 ∈ bg_L := bg_in 616 (by decide +kernel) rfl
theorem kc_J0_isLatin1_aae02 : (yJ0_isLatin1_aae02.cls ≠ "java/lang/invoke/MethodHandle" ∧ yJ0_isLatin1_aae02.cls ≠ "java/lang/invoke/VarHandle" ∧ (parseMethodDescriptor yJ0_isLatin1_aae02.desc).map (fun d => d.parameters.length) = some 0) ∧ Cond.code yJ0_isLatin1_aae02 cJ0_isLatin1_aae02 1 (some .boolean) ∈ bg_L ∧ Cond.initialized yJ0_isLatin1_aae02.cls ∈ bg_L ∧ plainName yJ0_isLatin1_aae02.cls = true := ⟨⟨by decide +kernel, by decide +kernel, by decide +kernel⟩, bg_in 593 (by decide +kernel) rfl, bg_in 91 (by decide +kernel) rfl, by decide +kernel⟩
theorem kt_J0_isLatin1_aae02 : Cond.instanceMethod yJ0_isLatin1_aae02 ∈ bg_L := bg_in 591 (by decide +kernel) rfl
theorem ke_J0_isLatin1_aae02 : Cond.selects RJ0 yJ0_isLatin1_aae02 yJ0_isLatin1_aae02 ∈ bg_L := bg_in 592 (by decide +kernel) rfl
theorem kc_J1_charAt_3b067 : (yJ1_charAt_3b067.cls ≠ "java/lang/invoke/MethodHandle" ∧ yJ1_charAt_3b067.cls ≠ "java/lang/invoke/VarHandle" ∧ (parseMethodDescriptor yJ1_charAt_3b067.desc).map (fun d => d.parameters.length) = some 2) ∧ Cond.code yJ1_charAt_3b067 cJ1_charAt_3b067 2 (some .char) ∈ bg_L ∧ Cond.initialized yJ1_charAt_3b067.cls ∈ bg_L ∧ plainName yJ1_charAt_3b067.cls = true := ⟨⟨by decide +kernel, by decide +kernel, by decide +kernel⟩, bg_in 596 (by decide +kernel) rfl, bg_in 92 (by decide +kernel) rfl, by decide +kernel⟩
theorem kt_J1_charAt_3b067 : Cond.static yJ1_charAt_3b067 ∈ bg_L := bg_in 595 (by decide +kernel) rfl
theorem kc_J2_charAt_3b067 : (yJ2_charAt_3b067.cls ≠ "java/lang/invoke/MethodHandle" ∧ yJ2_charAt_3b067.cls ≠ "java/lang/invoke/VarHandle" ∧ (parseMethodDescriptor yJ2_charAt_3b067.desc).map (fun d => d.parameters.length) = some 2) ∧ Cond.code yJ2_charAt_3b067 cJ2_charAt_3b067 2 (some .char) ∈ bg_L ∧ Cond.initialized yJ2_charAt_3b067.cls ∈ bg_L ∧ plainName yJ2_charAt_3b067.cls = true := ⟨⟨by decide +kernel, by decide +kernel, by decide +kernel⟩, bg_in 607 (by decide +kernel) rfl, bg_in 94 (by decide +kernel) rfl, by decide +kernel⟩
theorem kt_J2_charAt_3b067 : Cond.static yJ2_charAt_3b067 ∈ bg_L := bg_in 606 (by decide +kernel) rfl
theorem kc_J0_length_8abf5 : (yJ0_length_8abf5.cls ≠ "java/lang/invoke/MethodHandle" ∧ yJ0_length_8abf5.cls ≠ "java/lang/invoke/VarHandle" ∧ (parseMethodDescriptor yJ0_length_8abf5.desc).map (fun d => d.parameters.length) = some 0) ∧ Cond.code yJ0_length_8abf5 cJ0_length_8abf5 1 (some .int) ∈ bg_L ∧ Cond.initialized yJ0_length_8abf5.cls ∈ bg_L ∧ plainName yJ0_length_8abf5.cls = true := ⟨⟨by decide +kernel, by decide +kernel, by decide +kernel⟩, bg_in 579 (by decide +kernel) rfl, bg_in 91 (by decide +kernel) rfl, by decide +kernel⟩
theorem kt_J0_length_8abf5 : Cond.instanceMethod yJ0_length_8abf5 ∈ bg_L := bg_in 577 (by decide +kernel) rfl
theorem ke_J0_length_8abf5 : Cond.selects RJ0 yJ0_length_8abf5 yJ0_length_8abf5 ∈ bg_L := bg_in 578 (by decide +kernel) rfl
theorem kc_J0_charAt_5068e : (yJ0_charAt_5068e.cls ≠ "java/lang/invoke/MethodHandle" ∧ yJ0_charAt_5068e.cls ≠ "java/lang/invoke/VarHandle" ∧ (parseMethodDescriptor yJ0_charAt_5068e.desc).map (fun d => d.parameters.length) = some 1) ∧ Cond.code yJ0_charAt_5068e cJ0_charAt_5068e 2 (some .char) ∈ bg_L ∧ Cond.initialized yJ0_charAt_5068e.cls ∈ bg_L ∧ plainName yJ0_charAt_5068e.cls = true := ⟨⟨by decide +kernel, by decide +kernel, by decide +kernel⟩, bg_in 589 (by decide +kernel) rfl, bg_in 91 (by decide +kernel) rfl, by decide +kernel⟩
theorem kt_J0_charAt_5068e : Cond.instanceMethod yJ0_charAt_5068e ∈ bg_L := bg_in 587 (by decide +kernel) rfl
theorem ke_J0_charAt_5068e : Cond.selects RJ0 yJ0_charAt_5068e yJ0_charAt_5068e ∈ bg_L := bg_in 588 (by decide +kernel) rfl
theorem kc_X10_isWord : (yX10_isWord.cls ≠ "java/lang/invoke/MethodHandle" ∧ yX10_isWord.cls ≠ "java/lang/invoke/VarHandle" ∧ (parseMethodDescriptor yX10_isWord.desc).map (fun d => d.parameters.length) = some 1) ∧ Cond.code yX10_isWord cX10_isWord 3 (some .boolean) ∈ bg_L ∧ Cond.initialized yX10_isWord.cls ∈ bg_L ∧ plainName yX10_isWord.cls = true := ⟨⟨by decide +kernel, by decide +kernel, by decide +kernel⟩, bg_in 575 (by decide +kernel) rfl, bg_in 77 (by decide +kernel) rfl, by decide +kernel⟩
theorem kt_X10_isWord : Cond.instanceMethod yX10_isWord ∈ bg_L := bg_in 573 (by decide +kernel) rfl
theorem ke_X10_isWord : Cond.selects RX10 yX10_isWord yX10_isWord ∈ bg_L := bg_in 574 (by decide +kernel) rfl
theorem kc_X5_fail : (yX5_fail.cls ≠ "java/lang/invoke/MethodHandle" ∧ yX5_fail.cls ≠ "java/lang/invoke/VarHandle" ∧ (parseMethodDescriptor yX5_fail.desc).map (fun d => d.parameters.length) = some 1) ∧ Cond.code yX5_fail cX5_fail 2 (some .boolean) ∈ bg_L ∧ Cond.initialized yX5_fail.cls ∈ bg_L ∧ plainName yX5_fail.cls = true := ⟨⟨by decide +kernel, by decide +kernel, by decide +kernel⟩, bg_in 627 (by decide +kernel) rfl, bg_in 76 (by decide +kernel) rfl, by decide +kernel⟩
theorem kt_X5_fail : Cond.instanceMethod yX5_fail ∈ bg_L := bg_in 625 (by decide +kernel) rfl
theorem ke_X5_fail : Cond.selects RX5 yX5_fail yX5_fail ∈ bg_L := bg_in 626 (by decide +kernel) rfl
theorem kc_X5_takeWord : (yX5_takeWord.cls ≠ "java/lang/invoke/MethodHandle" ∧ yX5_takeWord.cls ≠ "java/lang/invoke/VarHandle" ∧ (parseMethodDescriptor yX5_takeWord.desc).map (fun d => d.parameters.length) = some 1) ∧ Cond.code yX5_takeWord cX5_takeWord 2 (some .boolean) ∈ bg_L ∧ Cond.initialized yX5_takeWord.cls ∈ bg_L ∧ plainName yX5_takeWord.cls = true := ⟨⟨by decide +kernel, by decide +kernel, by decide +kernel⟩, bg_in 571 (by decide +kernel) rfl, bg_in 76 (by decide +kernel) rfl, by decide +kernel⟩
theorem kt_X5_takeWord : Cond.instanceMethod yX5_takeWord ∈ bg_L := bg_in 569 (by decide +kernel) rfl
theorem ke_X5_takeWord : Cond.selects RX5 yX5_takeWord yX5_takeWord ∈ bg_L := bg_in 570 (by decide +kernel) rfl
theorem kc_X5_takeNumber : (yX5_takeNumber.cls ≠ "java/lang/invoke/MethodHandle" ∧ yX5_takeNumber.cls ≠ "java/lang/invoke/VarHandle" ∧ (parseMethodDescriptor yX5_takeNumber.desc).map (fun d => d.parameters.length) = some 2) ∧ Cond.code yX5_takeNumber cX5_takeNumber 3 (some .boolean) ∈ bg_L ∧ Cond.initialized yX5_takeNumber.cls ∈ bg_L ∧ plainName yX5_takeNumber.cls = true := ⟨⟨by decide +kernel, by decide +kernel, by decide +kernel⟩, bg_in 632 (by decide +kernel) rfl, bg_in 76 (by decide +kernel) rfl, by decide +kernel⟩
theorem kt_X5_takeNumber : Cond.instanceMethod yX5_takeNumber ∈ bg_L := bg_in 630 (by decide +kernel) rfl
theorem ke_X5_takeNumber : Cond.selects RX5 yX5_takeNumber yX5_takeNumber ∈ bg_L := bg_in 631 (by decide +kernel) rfl
theorem kc_X5_takeSemicolon : (yX5_takeSemicolon.cls ≠ "java/lang/invoke/MethodHandle" ∧ yX5_takeSemicolon.cls ≠ "java/lang/invoke/VarHandle" ∧ (parseMethodDescriptor yX5_takeSemicolon.desc).map (fun d => d.parameters.length) = some 0) ∧ Cond.code yX5_takeSemicolon cX5_takeSemicolon 1 (some .boolean) ∈ bg_L ∧ Cond.initialized yX5_takeSemicolon.cls ∈ bg_L ∧ plainName yX5_takeSemicolon.cls = true := ⟨⟨by decide +kernel, by decide +kernel, by decide +kernel⟩, bg_in 638 (by decide +kernel) rfl, bg_in 76 (by decide +kernel) rfl, by decide +kernel⟩
theorem kt_X5_takeSemicolon : Cond.instanceMethod yX5_takeSemicolon ∈ bg_L := bg_in 636 (by decide +kernel) rfl
theorem ke_X5_takeSemicolon : Cond.selects RX5 yX5_takeSemicolon yX5_takeSemicolon ∈ bg_L := bg_in 637 (by decide +kernel) rfl
theorem kc_X5_isLayerWord : (yX5_isLayerWord.cls ≠ "java/lang/invoke/MethodHandle" ∧ yX5_isLayerWord.cls ≠ "java/lang/invoke/VarHandle" ∧ (parseMethodDescriptor yX5_isLayerWord.desc).map (fun d => d.parameters.length) = some 0) ∧ Cond.code yX5_isLayerWord cX5_isLayerWord 1 (some .boolean) ∈ bg_L ∧ Cond.initialized yX5_isLayerWord.cls ∈ bg_L ∧ plainName yX5_isLayerWord.cls = true := ⟨⟨by decide +kernel, by decide +kernel, by decide +kernel⟩, bg_in 654 (by decide +kernel) rfl, bg_in 76 (by decide +kernel) rfl, by decide +kernel⟩
theorem kt_X5_isLayerWord : Cond.instanceMethod yX5_isLayerWord ∈ bg_L := bg_in 652 (by decide +kernel) rfl
theorem ke_X5_isLayerWord : Cond.selects RX5 yX5_isLayerWord yX5_isLayerWord ∈ bg_L := bg_in 653 (by decide +kernel) rfl
theorem kc_X5_readLayer : (yX5_readLayer.cls ≠ "java/lang/invoke/MethodHandle" ∧ yX5_readLayer.cls ≠ "java/lang/invoke/VarHandle" ∧ (parseMethodDescriptor yX5_readLayer.desc).map (fun d => d.parameters.length) = some 1) ∧ Cond.code yX5_readLayer cX5_readLayer 3 (some .boolean) ∈ bg_L ∧ Cond.initialized yX5_readLayer.cls ∈ bg_L ∧ plainName yX5_readLayer.cls = true := ⟨⟨by decide +kernel, by decide +kernel, by decide +kernel⟩, bg_in 650 (by decide +kernel) rfl, bg_in 76 (by decide +kernel) rfl, by decide +kernel⟩
theorem kt_X5_readLayer : Cond.instanceMethod yX5_readLayer ∈ bg_L := bg_in 648 (by decide +kernel) rfl
theorem ke_X5_readLayer : Cond.selects RX5 yX5_readLayer yX5_readLayer ∈ bg_L := bg_in 649 (by decide +kernel) rfl
theorem kc_X5_begin : (yX5_begin.cls ≠ "java/lang/invoke/MethodHandle" ∧ yX5_begin.cls ≠ "java/lang/invoke/VarHandle" ∧ (parseMethodDescriptor yX5_begin.desc).map (fun d => d.parameters.length) = some 2) ∧ Cond.code yX5_begin cX5_begin 3 none ∈ bg_L ∧ Cond.initialized yX5_begin.cls ∈ bg_L ∧ plainName yX5_begin.cls = true := ⟨⟨by decide +kernel, by decide +kernel, by decide +kernel⟩, bg_in 533 (by decide +kernel) rfl, bg_in 76 (by decide +kernel) rfl, by decide +kernel⟩
theorem kt_X5_begin : Cond.instanceMethod yX5_begin ∈ bg_L := bg_in 531 (by decide +kernel) rfl
theorem ke_X5_begin : Cond.selects RX5 yX5_begin yX5_begin ∈ bg_L := bg_in 532 (by decide +kernel) rfl
theorem kc_X5_readHeader : (yX5_readHeader.cls ≠ "java/lang/invoke/MethodHandle" ∧ yX5_readHeader.cls ≠ "java/lang/invoke/VarHandle" ∧ (parseMethodDescriptor yX5_readHeader.desc).map (fun d => d.parameters.length) = some 1) ∧ Cond.code yX5_readHeader cX5_readHeader 4 (some .boolean) ∈ bg_L ∧ Cond.initialized yX5_readHeader.cls ∈ bg_L ∧ plainName yX5_readHeader.cls = true := ⟨⟨by decide +kernel, by decide +kernel, by decide +kernel⟩, bg_in 566 (by decide +kernel) rfl, bg_in 76 (by decide +kernel) rfl, by decide +kernel⟩
theorem kt_X5_readHeader : Cond.instanceMethod yX5_readHeader ∈ bg_L := bg_in 564 (by decide +kernel) rfl
theorem ke_X5_readHeader : Cond.selects RX5 yX5_readHeader yX5_readHeader ∈ bg_L := bg_in 565 (by decide +kernel) rfl
theorem kc_X5_readSheet : (yX5_readSheet.cls ≠ "java/lang/invoke/MethodHandle" ∧ yX5_readSheet.cls ≠ "java/lang/invoke/VarHandle" ∧ (parseMethodDescriptor yX5_readSheet.desc).map (fun d => d.parameters.length) = some 1) ∧ Cond.code yX5_readSheet cX5_readSheet 3 (some .boolean) ∈ bg_L ∧ Cond.initialized yX5_readSheet.cls ∈ bg_L ∧ plainName yX5_readSheet.cls = true := ⟨⟨by decide +kernel, by decide +kernel, by decide +kernel⟩, bg_in 644 (by decide +kernel) rfl, bg_in 76 (by decide +kernel) rfl, by decide +kernel⟩
theorem kt_X5_readSheet : Cond.instanceMethod yX5_readSheet ∈ bg_L := bg_in 642 (by decide +kernel) rfl
theorem ke_X5_readSheet : Cond.selects RX5 yX5_readSheet yX5_readSheet ∈ bg_L := bg_in 643 (by decide +kernel) rfl
theorem kc_X5_findCommand : (yX5_findCommand.cls ≠ "java/lang/invoke/MethodHandle" ∧ yX5_findCommand.cls ≠ "java/lang/invoke/VarHandle" ∧ (parseMethodDescriptor yX5_findCommand.desc).map (fun d => d.parameters.length) = some 0) ∧ Cond.code yX5_findCommand cX5_findCommand 2 (some .int) ∈ bg_L ∧ Cond.initialized yX5_findCommand.cls ∈ bg_L ∧ plainName yX5_findCommand.cls = true := ⟨⟨by decide +kernel, by decide +kernel, by decide +kernel⟩, bg_in 1239 (by decide +kernel) rfl, bg_in 76 (by decide +kernel) rfl, by decide +kernel⟩
theorem kt_X5_findCommand : Cond.instanceMethod yX5_findCommand ∈ bg_L := bg_in 1237 (by decide +kernel) rfl
theorem ke_X5_findCommand : Cond.selects RX5 yX5_findCommand yX5_findCommand ∈ bg_L := bg_in 1238 (by decide +kernel) rfl
theorem kc_X7_add : (yX7_add.cls ≠ "java/lang/invoke/MethodHandle" ∧ yX7_add.cls ≠ "java/lang/invoke/VarHandle" ∧ (parseMethodDescriptor yX7_add.desc).map (fun d => d.parameters.length) = some 3) ∧ Cond.code yX7_add cX7_add 4 none ∈ bg_L ∧ Cond.initialized yX7_add.cls ∈ bg_L ∧ plainName yX7_add.cls = true := ⟨⟨by decide +kernel, by decide +kernel, by decide +kernel⟩, bg_in 1245 (by decide +kernel) rfl, bg_in 80 (by decide +kernel) rfl, by decide +kernel⟩
theorem kt_X7_add : Cond.instanceMethod yX7_add ∈ bg_L := bg_in 1243 (by decide +kernel) rfl
theorem ke_X7_add : Cond.selects RX7 yX7_add yX7_add ∈ bg_L := bg_in 1244 (by decide +kernel) rfl
theorem kc_X5_readCommand : (yX5_readCommand.cls ≠ "java/lang/invoke/MethodHandle" ∧ yX5_readCommand.cls ≠ "java/lang/invoke/VarHandle" ∧ (parseMethodDescriptor yX5_readCommand.desc).map (fun d => d.parameters.length) = some 1) ∧ Cond.code yX5_readCommand cX5_readCommand 6 (some .boolean) ∈ bg_L ∧ Cond.initialized yX5_readCommand.cls ∈ bg_L ∧ plainName yX5_readCommand.cls = true := ⟨⟨by decide +kernel, by decide +kernel, by decide +kernel⟩, bg_in 1235 (by decide +kernel) rfl, bg_in 76 (by decide +kernel) rfl, by decide +kernel⟩
theorem kt_X5_readCommand : Cond.instanceMethod yX5_readCommand ∈ bg_L := bg_in 1233 (by decide +kernel) rfl
theorem ke_X5_readCommand : Cond.selects RX5 yX5_readCommand yX5_readCommand ∈ bg_L := bg_in 1234 (by decide +kernel) rfl
theorem kc_X1_refusalOfFold : (yX1_refusalOfFold.cls ≠ "java/lang/invoke/MethodHandle" ∧ yX1_refusalOfFold.cls ≠ "java/lang/invoke/VarHandle" ∧ (parseMethodDescriptor yX1_refusalOfFold.desc).map (fun d => d.parameters.length) = some 2) ∧ Cond.code yX1_refusalOfFold cX1_refusalOfFold 3 (some (.object "PastryBench$Refusal")) ∈ bg_L ∧ Cond.initialized yX1_refusalOfFold.cls ∈ bg_L ∧ plainName yX1_refusalOfFold.cls = true := ⟨⟨by decide +kernel, by decide +kernel, by decide +kernel⟩, bg_in 972 (by decide +kernel) rfl, bg_in 81 (by decide +kernel) rfl, by decide +kernel⟩
theorem kt_X1_refusalOfFold : Cond.instanceMethod yX1_refusalOfFold ∈ bg_L := bg_in 970 (by decide +kernel) rfl
theorem ke_X1_refusalOfFold : Cond.selects RX1 yX1_refusalOfFold yX1_refusalOfFold ∈ bg_L := bg_in 971 (by decide +kernel) rfl
theorem kc_X1_refusalOfRoll : (yX1_refusalOfRoll.cls ≠ "java/lang/invoke/MethodHandle" ∧ yX1_refusalOfRoll.cls ≠ "java/lang/invoke/VarHandle" ∧ (parseMethodDescriptor yX1_refusalOfRoll.desc).map (fun d => d.parameters.length) = some 2) ∧ Cond.code yX1_refusalOfRoll cX1_refusalOfRoll 3 (some (.object "PastryBench$Refusal")) ∈ bg_L ∧ Cond.initialized yX1_refusalOfRoll.cls ∈ bg_L ∧ plainName yX1_refusalOfRoll.cls = true := ⟨⟨by decide +kernel, by decide +kernel, by decide +kernel⟩, bg_in 1041 (by decide +kernel) rfl, bg_in 81 (by decide +kernel) rfl, by decide +kernel⟩
theorem kt_X1_refusalOfRoll : Cond.instanceMethod yX1_refusalOfRoll ∈ bg_L := bg_in 1039 (by decide +kernel) rfl
theorem ke_X1_refusalOfRoll : Cond.selects RX1 yX1_refusalOfRoll yX1_refusalOfRoll ∈ bg_L := bg_in 1040 (by decide +kernel) rfl
theorem kc_X1_refusalOfDust : (yX1_refusalOfDust.cls ≠ "java/lang/invoke/MethodHandle" ∧ yX1_refusalOfDust.cls ≠ "java/lang/invoke/VarHandle" ∧ (parseMethodDescriptor yX1_refusalOfDust.desc).map (fun d => d.parameters.length) = some 1) ∧ Cond.code yX1_refusalOfDust cX1_refusalOfDust 2 (some (.object "PastryBench$Refusal")) ∈ bg_L ∧ Cond.initialized yX1_refusalOfDust.cls ∈ bg_L ∧ plainName yX1_refusalOfDust.cls = true := ⟨⟨by decide +kernel, by decide +kernel, by decide +kernel⟩, bg_in 1062 (by decide +kernel) rfl, bg_in 81 (by decide +kernel) rfl, by decide +kernel⟩
theorem kt_X1_refusalOfDust : Cond.instanceMethod yX1_refusalOfDust ∈ bg_L := bg_in 1060 (by decide +kernel) rfl
theorem ke_X1_refusalOfDust : Cond.selects RX1 yX1_refusalOfDust yX1_refusalOfDust ∈ bg_L := bg_in 1061 (by decide +kernel) rfl
theorem kc_X1_refusalOfSeal : (yX1_refusalOfSeal.cls ≠ "java/lang/invoke/MethodHandle" ∧ yX1_refusalOfSeal.cls ≠ "java/lang/invoke/VarHandle" ∧ (parseMethodDescriptor yX1_refusalOfSeal.desc).map (fun d => d.parameters.length) = some 1) ∧ Cond.code yX1_refusalOfSeal cX1_refusalOfSeal 2 (some (.object "PastryBench$Refusal")) ∈ bg_L ∧ Cond.initialized yX1_refusalOfSeal.cls ∈ bg_L ∧ plainName yX1_refusalOfSeal.cls = true := ⟨⟨by decide +kernel, by decide +kernel, by decide +kernel⟩, bg_in 1077 (by decide +kernel) rfl, bg_in 81 (by decide +kernel) rfl, by decide +kernel⟩
theorem kt_X1_refusalOfSeal : Cond.instanceMethod yX1_refusalOfSeal ∈ bg_L := bg_in 1075 (by decide +kernel) rfl
theorem ke_X1_refusalOfSeal : Cond.selects RX1 yX1_refusalOfSeal yX1_refusalOfSeal ∈ bg_L := bg_in 1076 (by decide +kernel) rfl
theorem kc_X1_refusalOfCool : (yX1_refusalOfCool.cls ≠ "java/lang/invoke/MethodHandle" ∧ yX1_refusalOfCool.cls ≠ "java/lang/invoke/VarHandle" ∧ (parseMethodDescriptor yX1_refusalOfCool.desc).map (fun d => d.parameters.length) = some 1) ∧ Cond.code yX1_refusalOfCool cX1_refusalOfCool 2 (some (.object "PastryBench$Refusal")) ∈ bg_L ∧ Cond.initialized yX1_refusalOfCool.cls ∈ bg_L ∧ plainName yX1_refusalOfCool.cls = true := ⟨⟨by decide +kernel, by decide +kernel, by decide +kernel⟩, bg_in 1096 (by decide +kernel) rfl, bg_in 81 (by decide +kernel) rfl, by decide +kernel⟩
theorem kt_X1_refusalOfCool : Cond.instanceMethod yX1_refusalOfCool ∈ bg_L := bg_in 1094 (by decide +kernel) rfl
theorem ke_X1_refusalOfCool : Cond.selects RX1 yX1_refusalOfCool yX1_refusalOfCool ∈ bg_L := bg_in 1095 (by decide +kernel) rfl
theorem kc_X1_refusalOfTakeOut : (yX1_refusalOfTakeOut.cls ≠ "java/lang/invoke/MethodHandle" ∧ yX1_refusalOfTakeOut.cls ≠ "java/lang/invoke/VarHandle" ∧ (parseMethodDescriptor yX1_refusalOfTakeOut.desc).map (fun d => d.parameters.length) = some 1) ∧ Cond.code yX1_refusalOfTakeOut cX1_refusalOfTakeOut 2 (some (.object "PastryBench$Refusal")) ∈ bg_L ∧ Cond.initialized yX1_refusalOfTakeOut.cls ∈ bg_L ∧ plainName yX1_refusalOfTakeOut.cls = true := ⟨⟨by decide +kernel, by decide +kernel, by decide +kernel⟩, bg_in 1115 (by decide +kernel) rfl, bg_in 81 (by decide +kernel) rfl, by decide +kernel⟩
theorem kt_X1_refusalOfTakeOut : Cond.instanceMethod yX1_refusalOfTakeOut ∈ bg_L := bg_in 1113 (by decide +kernel) rfl
theorem ke_X1_refusalOfTakeOut : Cond.selects RX1 yX1_refusalOfTakeOut yX1_refusalOfTakeOut ∈ bg_L := bg_in 1114 (by decide +kernel) rfl
theorem kc_X1_refusalOfHours : (yX1_refusalOfHours.cls ≠ "java/lang/invoke/MethodHandle" ∧ yX1_refusalOfHours.cls ≠ "java/lang/invoke/VarHandle" ∧ (parseMethodDescriptor yX1_refusalOfHours.desc).map (fun d => d.parameters.length) = some 1) ∧ Cond.code yX1_refusalOfHours cX1_refusalOfHours 2 (some (.object "PastryBench$Refusal")) ∈ bg_L ∧ Cond.initialized yX1_refusalOfHours.cls ∈ bg_L ∧ plainName yX1_refusalOfHours.cls = true := ⟨⟨by decide +kernel, by decide +kernel, by decide +kernel⟩, bg_in 1130 (by decide +kernel) rfl, bg_in 81 (by decide +kernel) rfl, by decide +kernel⟩
theorem kt_X1_refusalOfHours : Cond.instanceMethod yX1_refusalOfHours ∈ bg_L := bg_in 1128 (by decide +kernel) rfl
theorem ke_X1_refusalOfHours : Cond.selects RX1 yX1_refusalOfHours yX1_refusalOfHours ∈ bg_L := bg_in 1129 (by decide +kernel) rfl
theorem kc_X1_refusalOfCut : (yX1_refusalOfCut.cls ≠ "java/lang/invoke/MethodHandle" ∧ yX1_refusalOfCut.cls ≠ "java/lang/invoke/VarHandle" ∧ (parseMethodDescriptor yX1_refusalOfCut.desc).map (fun d => d.parameters.length) = some 1) ∧ Cond.code yX1_refusalOfCut cX1_refusalOfCut 2 (some (.object "PastryBench$Refusal")) ∈ bg_L ∧ Cond.initialized yX1_refusalOfCut.cls ∈ bg_L ∧ plainName yX1_refusalOfCut.cls = true := ⟨⟨by decide +kernel, by decide +kernel, by decide +kernel⟩, bg_in 1150 (by decide +kernel) rfl, bg_in 81 (by decide +kernel) rfl, by decide +kernel⟩
theorem kt_X1_refusalOfCut : Cond.instanceMethod yX1_refusalOfCut ∈ bg_L := bg_in 1148 (by decide +kernel) rfl
theorem ke_X1_refusalOfCut : Cond.selects RX1 yX1_refusalOfCut yX1_refusalOfCut ∈ bg_L := bg_in 1149 (by decide +kernel) rfl
theorem kc_X1_refusalOfStack : (yX1_refusalOfStack.cls ≠ "java/lang/invoke/MethodHandle" ∧ yX1_refusalOfStack.cls ≠ "java/lang/invoke/VarHandle" ∧ (parseMethodDescriptor yX1_refusalOfStack.desc).map (fun d => d.parameters.length) = some 2) ∧ Cond.code yX1_refusalOfStack cX1_refusalOfStack 7 (some (.object "PastryBench$Refusal")) ∈ bg_L ∧ Cond.initialized yX1_refusalOfStack.cls ∈ bg_L ∧ plainName yX1_refusalOfStack.cls = true := ⟨⟨by decide +kernel, by decide +kernel, by decide +kernel⟩, bg_in 1165 (by decide +kernel) rfl, bg_in 81 (by decide +kernel) rfl, by decide +kernel⟩
theorem kt_X1_refusalOfStack : Cond.instanceMethod yX1_refusalOfStack ∈ bg_L := bg_in 1163 (by decide +kernel) rfl
theorem ke_X1_refusalOfStack : Cond.selects RX1 yX1_refusalOfStack yX1_refusalOfStack ∈ bg_L := bg_in 1164 (by decide +kernel) rfl
theorem kc_X1_applyFold : (yX1_applyFold.cls ≠ "java/lang/invoke/MethodHandle" ∧ yX1_applyFold.cls ≠ "java/lang/invoke/VarHandle" ∧ (parseMethodDescriptor yX1_applyFold.desc).map (fun d => d.parameters.length) = some 2) ∧ Cond.code yX1_applyFold cX1_applyFold 3 (some .int) ∈ bg_L ∧ Cond.initialized yX1_applyFold.cls ∈ bg_L ∧ plainName yX1_applyFold.cls = true := ⟨⟨by decide +kernel, by decide +kernel, by decide +kernel⟩, bg_in 1022 (by decide +kernel) rfl, bg_in 81 (by decide +kernel) rfl, by decide +kernel⟩
theorem kt_X1_applyFold : Cond.instanceMethod yX1_applyFold ∈ bg_L := bg_in 1020 (by decide +kernel) rfl
theorem ke_X1_applyFold : Cond.selects RX1 yX1_applyFold yX1_applyFold ∈ bg_L := bg_in 1021 (by decide +kernel) rfl
theorem kc_X1_applyRoll : (yX1_applyRoll.cls ≠ "java/lang/invoke/MethodHandle" ∧ yX1_applyRoll.cls ≠ "java/lang/invoke/VarHandle" ∧ (parseMethodDescriptor yX1_applyRoll.desc).map (fun d => d.parameters.length) = some 2) ∧ Cond.code yX1_applyRoll cX1_applyRoll 3 (some .int) ∈ bg_L ∧ Cond.initialized yX1_applyRoll.cls ∈ bg_L ∧ plainName yX1_applyRoll.cls = true := ⟨⟨by decide +kernel, by decide +kernel, by decide +kernel⟩, bg_in 1046 (by decide +kernel) rfl, bg_in 81 (by decide +kernel) rfl, by decide +kernel⟩
theorem kt_X1_applyRoll : Cond.instanceMethod yX1_applyRoll ∈ bg_L := bg_in 1044 (by decide +kernel) rfl
theorem ke_X1_applyRoll : Cond.selects RX1 yX1_applyRoll yX1_applyRoll ∈ bg_L := bg_in 1045 (by decide +kernel) rfl
theorem kc_X1_applyDust : (yX1_applyDust.cls ≠ "java/lang/invoke/MethodHandle" ∧ yX1_applyDust.cls ≠ "java/lang/invoke/VarHandle" ∧ (parseMethodDescriptor yX1_applyDust.desc).map (fun d => d.parameters.length) = some 1) ∧ Cond.code yX1_applyDust cX1_applyDust 2 (some .int) ∈ bg_L ∧ Cond.initialized yX1_applyDust.cls ∈ bg_L ∧ plainName yX1_applyDust.cls = true := ⟨⟨by decide +kernel, by decide +kernel, by decide +kernel⟩, bg_in 1066 (by decide +kernel) rfl, bg_in 81 (by decide +kernel) rfl, by decide +kernel⟩
theorem kt_X1_applyDust : Cond.instanceMethod yX1_applyDust ∈ bg_L := bg_in 1064 (by decide +kernel) rfl
theorem ke_X1_applyDust : Cond.selects RX1 yX1_applyDust yX1_applyDust ∈ bg_L := bg_in 1065 (by decide +kernel) rfl
theorem kc_X1_applySeal : (yX1_applySeal.cls ≠ "java/lang/invoke/MethodHandle" ∧ yX1_applySeal.cls ≠ "java/lang/invoke/VarHandle" ∧ (parseMethodDescriptor yX1_applySeal.desc).map (fun d => d.parameters.length) = some 1) ∧ Cond.code yX1_applySeal cX1_applySeal 2 (some .int) ∈ bg_L ∧ Cond.initialized yX1_applySeal.cls ∈ bg_L ∧ plainName yX1_applySeal.cls = true := ⟨⟨by decide +kernel, by decide +kernel, by decide +kernel⟩, bg_in 1081 (by decide +kernel) rfl, bg_in 81 (by decide +kernel) rfl, by decide +kernel⟩
theorem kt_X1_applySeal : Cond.instanceMethod yX1_applySeal ∈ bg_L := bg_in 1079 (by decide +kernel) rfl
theorem ke_X1_applySeal : Cond.selects RX1 yX1_applySeal yX1_applySeal ∈ bg_L := bg_in 1080 (by decide +kernel) rfl
theorem kc_X1_applyCool : (yX1_applyCool.cls ≠ "java/lang/invoke/MethodHandle" ∧ yX1_applyCool.cls ≠ "java/lang/invoke/VarHandle" ∧ (parseMethodDescriptor yX1_applyCool.desc).map (fun d => d.parameters.length) = some 1) ∧ Cond.code yX1_applyCool cX1_applyCool 2 (some .int) ∈ bg_L ∧ Cond.initialized yX1_applyCool.cls ∈ bg_L ∧ plainName yX1_applyCool.cls = true := ⟨⟨by decide +kernel, by decide +kernel, by decide +kernel⟩, bg_in 1104 (by decide +kernel) rfl, bg_in 81 (by decide +kernel) rfl, by decide +kernel⟩
theorem kt_X1_applyCool : Cond.instanceMethod yX1_applyCool ∈ bg_L := bg_in 1102 (by decide +kernel) rfl
theorem ke_X1_applyCool : Cond.selects RX1 yX1_applyCool yX1_applyCool ∈ bg_L := bg_in 1103 (by decide +kernel) rfl
theorem kc_X1_applyTakeOut : (yX1_applyTakeOut.cls ≠ "java/lang/invoke/MethodHandle" ∧ yX1_applyTakeOut.cls ≠ "java/lang/invoke/VarHandle" ∧ (parseMethodDescriptor yX1_applyTakeOut.desc).map (fun d => d.parameters.length) = some 1) ∧ Cond.code yX1_applyTakeOut cX1_applyTakeOut 2 (some .int) ∈ bg_L ∧ Cond.initialized yX1_applyTakeOut.cls ∈ bg_L ∧ plainName yX1_applyTakeOut.cls = true := ⟨⟨by decide +kernel, by decide +kernel, by decide +kernel⟩, bg_in 1119 (by decide +kernel) rfl, bg_in 81 (by decide +kernel) rfl, by decide +kernel⟩
theorem kt_X1_applyTakeOut : Cond.instanceMethod yX1_applyTakeOut ∈ bg_L := bg_in 1117 (by decide +kernel) rfl
theorem ke_X1_applyTakeOut : Cond.selects RX1 yX1_applyTakeOut yX1_applyTakeOut ∈ bg_L := bg_in 1118 (by decide +kernel) rfl
theorem kc_X1_applyHours : (yX1_applyHours.cls ≠ "java/lang/invoke/MethodHandle" ∧ yX1_applyHours.cls ≠ "java/lang/invoke/VarHandle" ∧ (parseMethodDescriptor yX1_applyHours.desc).map (fun d => d.parameters.length) = some 1) ∧ Cond.code yX1_applyHours cX1_applyHours 3 (some .int) ∈ bg_L ∧ Cond.initialized yX1_applyHours.cls ∈ bg_L ∧ plainName yX1_applyHours.cls = true := ⟨⟨by decide +kernel, by decide +kernel, by decide +kernel⟩, bg_in 1134 (by decide +kernel) rfl, bg_in 81 (by decide +kernel) rfl, by decide +kernel⟩
theorem kt_X1_applyHours : Cond.instanceMethod yX1_applyHours ∈ bg_L := bg_in 1132 (by decide +kernel) rfl
theorem ke_X1_applyHours : Cond.selects RX1 yX1_applyHours yX1_applyHours ∈ bg_L := bg_in 1133 (by decide +kernel) rfl
theorem kc_X1_applyCut : (yX1_applyCut.cls ≠ "java/lang/invoke/MethodHandle" ∧ yX1_applyCut.cls ≠ "java/lang/invoke/VarHandle" ∧ (parseMethodDescriptor yX1_applyCut.desc).map (fun d => d.parameters.length) = some 1) ∧ Cond.code yX1_applyCut cX1_applyCut 3 (some .int) ∈ bg_L ∧ Cond.initialized yX1_applyCut.cls ∈ bg_L ∧ plainName yX1_applyCut.cls = true := ⟨⟨by decide +kernel, by decide +kernel, by decide +kernel⟩, bg_in 1154 (by decide +kernel) rfl, bg_in 81 (by decide +kernel) rfl, by decide +kernel⟩
theorem kt_X1_applyCut : Cond.instanceMethod yX1_applyCut ∈ bg_L := bg_in 1152 (by decide +kernel) rfl
theorem ke_X1_applyCut : Cond.selects RX1 yX1_applyCut yX1_applyCut ∈ bg_L := bg_in 1153 (by decide +kernel) rfl
theorem kc_X1_applyStack : (yX1_applyStack.cls ≠ "java/lang/invoke/MethodHandle" ∧ yX1_applyStack.cls ≠ "java/lang/invoke/VarHandle" ∧ (parseMethodDescriptor yX1_applyStack.desc).map (fun d => d.parameters.length) = some 2) ∧ Cond.code yX1_applyStack cX1_applyStack 4 (some .int) ∈ bg_L ∧ Cond.initialized yX1_applyStack.cls ∈ bg_L ∧ plainName yX1_applyStack.cls = true := ⟨⟨by decide +kernel, by decide +kernel, by decide +kernel⟩, bg_in 1178 (by decide +kernel) rfl, bg_in 81 (by decide +kernel) rfl, by decide +kernel⟩
theorem kt_X1_applyStack : Cond.instanceMethod yX1_applyStack ∈ bg_L := bg_in 1176 (by decide +kernel) rfl
theorem ke_X1_applyStack : Cond.selects RX1 yX1_applyStack yX1_applyStack ∈ bg_L := bg_in 1177 (by decide +kernel) rfl
theorem kc_X7_refusalOf : (yX7_refusalOf.cls ≠ "java/lang/invoke/MethodHandle" ∧ yX7_refusalOf.cls ≠ "java/lang/invoke/VarHandle" ∧ (parseMethodDescriptor yX7_refusalOf.desc).map (fun d => d.parameters.length) = some 4) ∧ Cond.code yX7_refusalOf cX7_refusalOf 4 (some (.object "PastryBench$Refusal")) ∈ bg_L ∧ Cond.initialized yX7_refusalOf.cls ∈ bg_L ∧ plainName yX7_refusalOf.cls = true := ⟨⟨by decide +kernel, by decide +kernel, by decide +kernel⟩, bg_in 1252 (by decide +kernel) rfl, bg_in 80 (by decide +kernel) rfl, by decide +kernel⟩
theorem kt_X7_refusalOf : Cond.static yX7_refusalOf ∈ bg_L := bg_in 1251 (by decide +kernel) rfl
theorem kc_X7_execute : (yX7_execute.cls ≠ "java/lang/invoke/MethodHandle" ∧ yX7_execute.cls ≠ "java/lang/invoke/VarHandle" ∧ (parseMethodDescriptor yX7_execute.desc).map (fun d => d.parameters.length) = some 4) ∧ Cond.code yX7_execute cX7_execute 4 (some .int) ∈ bg_L ∧ Cond.initialized yX7_execute.cls ∈ bg_L ∧ plainName yX7_execute.cls = true := ⟨⟨by decide +kernel, by decide +kernel, by decide +kernel⟩, bg_in 1274 (by decide +kernel) rfl, bg_in 80 (by decide +kernel) rfl, by decide +kernel⟩
theorem kt_X7_execute : Cond.static yX7_execute ∈ bg_L := bg_in 1273 (by decide +kernel) rfl
theorem kc_X5_init : (yX5_init.cls ≠ "java/lang/invoke/MethodHandle" ∧ yX5_init.cls ≠ "java/lang/invoke/VarHandle" ∧ (parseMethodDescriptor yX5_init.desc).map (fun d => d.parameters.length) = some 0) ∧ Cond.code yX5_init cX5_init 1 none ∈ bg_L ∧ Cond.initialized yX5_init.cls ∈ bg_L ∧ plainName yX5_init.cls = true := ⟨⟨by decide +kernel, by decide +kernel, by decide +kernel⟩, bg_in 112 (by decide +kernel) rfl, bg_in 76 (by decide +kernel) rfl, by decide +kernel⟩
theorem kt_X5_init : Cond.instanceMethod yX5_init ∈ bg_L := bg_in 111 (by decide +kernel) rfl
theorem kc_X7_init : (yX7_init.cls ≠ "java/lang/invoke/MethodHandle" ∧ yX7_init.cls ≠ "java/lang/invoke/VarHandle" ∧ (parseMethodDescriptor yX7_init.desc).map (fun d => d.parameters.length) = some 0) ∧ Cond.code yX7_init cX7_init 1 none ∈ bg_L ∧ Cond.initialized yX7_init.cls ∈ bg_L ∧ plainName yX7_init.cls = true := ⟨⟨by decide +kernel, by decide +kernel, by decide +kernel⟩, bg_in 164 (by decide +kernel) rfl, bg_in 80 (by decide +kernel) rfl, by decide +kernel⟩
theorem kt_X7_init : Cond.instanceMethod yX7_init ∈ bg_L := bg_in 163 (by decide +kernel) rfl
theorem kc_X1_first : (yX1_first.cls ≠ "java/lang/invoke/MethodHandle" ∧ yX1_first.cls ≠ "java/lang/invoke/VarHandle" ∧ (parseMethodDescriptor yX1_first.desc).map (fun d => d.parameters.length) = some 0) ∧ Cond.code yX1_first cX1_first 1 (some (.object "PastryBench$Bench")) ∈ bg_L ∧ Cond.initialized yX1_first.cls ∈ bg_L ∧ plainName yX1_first.cls = true := ⟨⟨by decide +kernel, by decide +kernel, by decide +kernel⟩, bg_in 184 (by decide +kernel) rfl, bg_in 81 (by decide +kernel) rfl, by decide +kernel⟩
theorem kt_X1_first : Cond.static yX1_first ∈ bg_L := bg_in 183 (by decide +kernel) rfl
theorem kc_X3_init : (yX3_init.cls ≠ "java/lang/invoke/MethodHandle" ∧ yX3_init.cls ≠ "java/lang/invoke/VarHandle" ∧ (parseMethodDescriptor yX3_init.desc).map (fun d => d.parameters.length) = some 0) ∧ Cond.code yX3_init cX3_init 2 none ∈ bg_L ∧ Cond.initialized yX3_init.cls ∈ bg_L ∧ plainName yX3_init.cls = true := ⟨⟨by decide +kernel, by decide +kernel, by decide +kernel⟩, bg_in 311 (by decide +kernel) rfl, bg_in 83 (by decide +kernel) rfl, by decide +kernel⟩
theorem kt_X3_init : Cond.instanceMethod yX3_init ∈ bg_L := bg_in 310 (by decide +kernel) rfl
theorem kc_X4_init : (yX4_init.cls ≠ "java/lang/invoke/MethodHandle" ∧ yX4_init.cls ≠ "java/lang/invoke/VarHandle" ∧ (parseMethodDescriptor yX4_init.desc).map (fun d => d.parameters.length) = some 0) ∧ Cond.code yX4_init cX4_init 1 none ∈ bg_L ∧ Cond.initialized yX4_init.cls ∈ bg_L ∧ plainName yX4_init.cls = true := ⟨⟨by decide +kernel, by decide +kernel, by decide +kernel⟩, bg_in 328 (by decide +kernel) rfl, bg_in 84 (by decide +kernel) rfl, by decide +kernel⟩
theorem kt_X4_init : Cond.instanceMethod yX4_init ∈ bg_L := bg_in 327 (by decide +kernel) rfl
theorem kc_X11_appendWord : (yX11_appendWord.cls ≠ "java/lang/invoke/MethodHandle" ∧ yX11_appendWord.cls ≠ "java/lang/invoke/VarHandle" ∧ (parseMethodDescriptor yX11_appendWord.desc).map (fun d => d.parameters.length) = some 1) ∧ Cond.code yX11_appendWord cX11_appendWord 3 none ∈ bg_L ∧ Cond.initialized yX11_appendWord.cls ∈ bg_L ∧ plainName yX11_appendWord.cls = true := ⟨⟨by decide +kernel, by decide +kernel, by decide +kernel⟩, bg_in 377 (by decide +kernel) rfl, bg_in 75 (by decide +kernel) rfl, by decide +kernel⟩
theorem kt_X11_appendWord : Cond.instanceMethod yX11_appendWord ∈ bg_L := bg_in 376 (by decide +kernel) rfl
theorem ke_X11_appendWord : Cond.selects RX11 yX11_appendWord yX11_appendWord ∈ bg_L := bg_in 0 (by decide +kernel) rfl
theorem kc_X11_requireLength : (yX11_requireLength.cls ≠ "java/lang/invoke/MethodHandle" ∧ yX11_requireLength.cls ≠ "java/lang/invoke/VarHandle" ∧ (parseMethodDescriptor yX11_requireLength.desc).map (fun d => d.parameters.length) = some 1) ∧ Cond.code yX11_requireLength cX11_requireLength 2 none ∈ bg_L ∧ Cond.initialized yX11_requireLength.cls ∈ bg_L ∧ plainName yX11_requireLength.cls = true := ⟨⟨by decide +kernel, by decide +kernel, by decide +kernel⟩, bg_in 457 (by decide +kernel) rfl, bg_in 75 (by decide +kernel) rfl, by decide +kernel⟩
theorem kt_X11_requireLength : Cond.instanceMethod yX11_requireLength ∈ bg_L := bg_in 456 (by decide +kernel) rfl
theorem ke_X11_requireLength : Cond.selects RX11 yX11_requireLength yX11_requireLength ∈ bg_L := bg_in 1 (by decide +kernel) rfl
theorem kc_X5_readBench : (yX5_readBench.cls ≠ "java/lang/invoke/MethodHandle" ∧ yX5_readBench.cls ≠ "java/lang/invoke/VarHandle" ∧ (parseMethodDescriptor yX5_readBench.desc).map (fun d => d.parameters.length) = some 3) ∧ Cond.code yX5_readBench cX5_readBench 5 (some .boolean) ∈ bg_L ∧ Cond.initialized yX5_readBench.cls ∈ bg_L ∧ plainName yX5_readBench.cls = true := ⟨⟨by decide +kernel, by decide +kernel, by decide +kernel⟩, bg_in 529 (by decide +kernel) rfl, bg_in 76 (by decide +kernel) rfl, by decide +kernel⟩
theorem kt_X5_readBench : Cond.instanceMethod yX5_readBench ∈ bg_L := bg_in 527 (by decide +kernel) rfl
theorem ke_X5_readBench : Cond.selects RX5 yX5_readBench yX5_readBench ∈ bg_L := bg_in 528 (by decide +kernel) rfl
theorem kc_X3_forget : (yX3_forget.cls ≠ "java/lang/invoke/MethodHandle" ∧ yX3_forget.cls ≠ "java/lang/invoke/VarHandle" ∧ (parseMethodDescriptor yX3_forget.desc).map (fun d => d.parameters.length) = some 0) ∧ Cond.code yX3_forget cX3_forget 1 none ∈ bg_L ∧ Cond.initialized yX3_forget.cls ∈ bg_L ∧ plainName yX3_forget.cls = true := ⟨⟨by decide +kernel, by decide +kernel, by decide +kernel⟩, bg_in 661 (by decide +kernel) rfl, bg_in 83 (by decide +kernel) rfl, by decide +kernel⟩
theorem kt_X3_forget : Cond.instanceMethod yX3_forget ∈ bg_L := bg_in 659 (by decide +kernel) rfl
theorem ke_X3_forget : Cond.selects RX3 yX3_forget yX3_forget ∈ bg_L := bg_in 660 (by decide +kernel) rfl
theorem kc_X1_findWarmest : (yX1_findWarmest.cls ≠ "java/lang/invoke/MethodHandle" ∧ yX1_findWarmest.cls ≠ "java/lang/invoke/VarHandle" ∧ (parseMethodDescriptor yX1_findWarmest.desc).map (fun d => d.parameters.length) = some 0) ∧ Cond.code yX1_findWarmest cX1_findWarmest 3 (some .int) ∈ bg_L ∧ Cond.initialized yX1_findWarmest.cls ∈ bg_L ∧ plainName yX1_findWarmest.cls = true := ⟨⟨by decide +kernel, by decide +kernel, by decide +kernel⟩, bg_in 421 (by decide +kernel) rfl, bg_in 81 (by decide +kernel) rfl, by decide +kernel⟩
theorem kt_X1_findWarmest : Cond.instanceMethod yX1_findWarmest ∈ bg_L := bg_in 419 (by decide +kernel) rfl
theorem ke_X1_findWarmest : Cond.selects RX1 yX1_findWarmest yX1_findWarmest ∈ bg_L := bg_in 420 (by decide +kernel) rfl
theorem kc_X1_findFinest : (yX1_findFinest.cls ≠ "java/lang/invoke/MethodHandle" ∧ yX1_findFinest.cls ≠ "java/lang/invoke/VarHandle" ∧ (parseMethodDescriptor yX1_findFinest.desc).map (fun d => d.parameters.length) = some 0) ∧ Cond.code yX1_findFinest cX1_findFinest 3 (some .int) ∈ bg_L ∧ Cond.initialized yX1_findFinest.cls ∈ bg_L ∧ plainName yX1_findFinest.cls = true := ⟨⟨by decide +kernel, by decide +kernel, by decide +kernel⟩, bg_in 429 (by decide +kernel) rfl, bg_in 81 (by decide +kernel) rfl, by decide +kernel⟩
theorem kt_X1_findFinest : Cond.instanceMethod yX1_findFinest ∈ bg_L := bg_in 427 (by decide +kernel) rfl
theorem ke_X1_findFinest : Cond.selects RX1 yX1_findFinest yX1_findFinest ∈ bg_L := bg_in 428 (by decide +kernel) rfl
theorem kc_X11_sheetAt : (yX11_sheetAt.cls ≠ "java/lang/invoke/MethodHandle" ∧ yX11_sheetAt.cls ≠ "java/lang/invoke/VarHandle" ∧ (parseMethodDescriptor yX11_sheetAt.desc).map (fun d => d.parameters.length) = some 1) ∧ Cond.code yX11_sheetAt cX11_sheetAt 2 (some (.object "PastryBench$Sheet")) ∈ bg_L ∧ Cond.initialized yX11_sheetAt.cls ∈ bg_L ∧ plainName yX11_sheetAt.cls = true := ⟨⟨by decide +kernel, by decide +kernel, by decide +kernel⟩, bg_in 673 (by decide +kernel) rfl, bg_in 75 (by decide +kernel) rfl, by decide +kernel⟩
theorem kt_X11_sheetAt : Cond.instanceMethod yX11_sheetAt ∈ bg_L := bg_in 672 (by decide +kernel) rfl
theorem ke_X11_sheetAt : Cond.selects RX11 yX11_sheetAt yX11_sheetAt ∈ bg_L := bg_in 3 (by decide +kernel) rfl
theorem kc_X8_countButterLayers : (yX8_countButterLayers.cls ≠ "java/lang/invoke/MethodHandle" ∧ yX8_countButterLayers.cls ≠ "java/lang/invoke/VarHandle" ∧ (parseMethodDescriptor yX8_countButterLayers.desc).map (fun d => d.parameters.length) = some 0) ∧ Cond.code yX8_countButterLayers cX8_countButterLayers 3 (some .int) ∈ bg_L ∧ Cond.initialized yX8_countButterLayers.cls ∈ bg_L ∧ plainName yX8_countButterLayers.cls = true := ⟨⟨by decide +kernel, by decide +kernel, by decide +kernel⟩, bg_in 704 (by decide +kernel) rfl, bg_in 82 (by decide +kernel) rfl, by decide +kernel⟩
theorem kt_X8_countButterLayers : Cond.instanceMethod yX8_countButterLayers ∈ bg_L := bg_in 702 (by decide +kernel) rfl
theorem ke_X8_countButterLayers : Cond.selects RX8 yX8_countButterLayers yX8_countButterLayers ∈ bg_L := bg_in 703 (by decide +kernel) rfl
theorem kc_X11_requireLayer : (yX11_requireLayer.cls ≠ "java/lang/invoke/MethodHandle" ∧ yX11_requireLayer.cls ≠ "java/lang/invoke/VarHandle" ∧ (parseMethodDescriptor yX11_requireLayer.desc).map (fun d => d.parameters.length) = some 2) ∧ Cond.code yX11_requireLayer cX11_requireLayer 2 none ∈ bg_L ∧ Cond.initialized yX11_requireLayer.cls ∈ bg_L ∧ plainName yX11_requireLayer.cls = true := ⟨⟨by decide +kernel, by decide +kernel, by decide +kernel⟩, bg_in 714 (by decide +kernel) rfl, bg_in 75 (by decide +kernel) rfl, by decide +kernel⟩
theorem kt_X11_requireLayer : Cond.static yX11_requireLayer ∈ bg_L := bg_in 713 (by decide +kernel) rfl
theorem kc_X8_totalButter : (yX8_totalButter.cls ≠ "java/lang/invoke/MethodHandle" ∧ yX8_totalButter.cls ≠ "java/lang/invoke/VarHandle" ∧ (parseMethodDescriptor yX8_totalButter.desc).map (fun d => d.parameters.length) = some 0) ∧ Cond.code yX8_totalButter cX8_totalButter 3 (some .int) ∈ bg_L ∧ Cond.initialized yX8_totalButter.cls ∈ bg_L ∧ plainName yX8_totalButter.cls = true := ⟨⟨by decide +kernel, by decide +kernel, by decide +kernel⟩, bg_in 744 (by decide +kernel) rfl, bg_in 82 (by decide +kernel) rfl, by decide +kernel⟩
theorem kt_X8_totalButter : Cond.instanceMethod yX8_totalButter ∈ bg_L := bg_in 742 (by decide +kernel) rfl
theorem ke_X8_totalButter : Cond.selects RX8 yX8_totalButter yX8_totalButter ∈ bg_L := bg_in 743 (by decide +kernel) rfl
theorem kc_X8_findThinnest : (yX8_findThinnest.cls ≠ "java/lang/invoke/MethodHandle" ∧ yX8_findThinnest.cls ≠ "java/lang/invoke/VarHandle" ∧ (parseMethodDescriptor yX8_findThinnest.desc).map (fun d => d.parameters.length) = some 0) ∧ Cond.code yX8_findThinnest cX8_findThinnest 3 (some .int) ∈ bg_L ∧ Cond.initialized yX8_findThinnest.cls ∈ bg_L ∧ plainName yX8_findThinnest.cls = true := ⟨⟨by decide +kernel, by decide +kernel, by decide +kernel⟩, bg_in 755 (by decide +kernel) rfl, bg_in 82 (by decide +kernel) rfl, by decide +kernel⟩
theorem kt_X8_findThinnest : Cond.instanceMethod yX8_findThinnest ∈ bg_L := bg_in 753 (by decide +kernel) rfl
theorem ke_X8_findThinnest : Cond.selects RX8 yX8_findThinnest yX8_findThinnest ∈ bg_L := bg_in 754 (by decide +kernel) rfl
theorem kc_X8_findThickest : (yX8_findThickest.cls ≠ "java/lang/invoke/MethodHandle" ∧ yX8_findThickest.cls ≠ "java/lang/invoke/VarHandle" ∧ (parseMethodDescriptor yX8_findThickest.desc).map (fun d => d.parameters.length) = some 0) ∧ Cond.code yX8_findThickest cX8_findThickest 3 (some .int) ∈ bg_L ∧ Cond.initialized yX8_findThickest.cls ∈ bg_L ∧ plainName yX8_findThickest.cls = true := ⟨⟨by decide +kernel, by decide +kernel, by decide +kernel⟩, bg_in 766 (by decide +kernel) rfl, bg_in 82 (by decide +kernel) rfl, by decide +kernel⟩
theorem kt_X8_findThickest : Cond.instanceMethod yX8_findThickest ∈ bg_L := bg_in 764 (by decide +kernel) rfl
theorem ke_X8_findThickest : Cond.selects RX8 yX8_findThickest yX8_findThickest ∈ bg_L := bg_in 765 (by decide +kernel) rfl
theorem kc_X8_countSeams : (yX8_countSeams.cls ≠ "java/lang/invoke/MethodHandle" ∧ yX8_countSeams.cls ≠ "java/lang/invoke/VarHandle" ∧ (parseMethodDescriptor yX8_countSeams.desc).map (fun d => d.parameters.length) = some 0) ∧ Cond.code yX8_countSeams cX8_countSeams 3 (some .int) ∈ bg_L ∧ Cond.initialized yX8_countSeams.cls ∈ bg_L ∧ plainName yX8_countSeams.cls = true := ⟨⟨by decide +kernel, by decide +kernel, by decide +kernel⟩, bg_in 777 (by decide +kernel) rfl, bg_in 82 (by decide +kernel) rfl, by decide +kernel⟩
theorem kt_X8_countSeams : Cond.instanceMethod yX8_countSeams ∈ bg_L := bg_in 775 (by decide +kernel) rfl
theorem ke_X8_countSeams : Cond.selects RX8 yX8_countSeams yX8_countSeams ∈ bg_L := bg_in 776 (by decide +kernel) rfl
theorem kc_X8_sameFromBothSides : (yX8_sameFromBothSides.cls ≠ "java/lang/invoke/MethodHandle" ∧ yX8_sameFromBothSides.cls ≠ "java/lang/invoke/VarHandle" ∧ (parseMethodDescriptor yX8_sameFromBothSides.desc).map (fun d => d.parameters.length) = some 0) ∧ Cond.code yX8_sameFromBothSides cX8_sameFromBothSides 3 (some .boolean) ∈ bg_L ∧ Cond.initialized yX8_sameFromBothSides.cls ∈ bg_L ∧ plainName yX8_sameFromBothSides.cls = true := ⟨⟨by decide +kernel, by decide +kernel, by decide +kernel⟩, bg_in 788 (by decide +kernel) rfl, bg_in 82 (by decide +kernel) rfl, by decide +kernel⟩
theorem kt_X8_sameFromBothSides : Cond.instanceMethod yX8_sameFromBothSides ∈ bg_L := bg_in 786 (by decide +kernel) rfl
theorem ke_X8_sameFromBothSides : Cond.selects RX8 yX8_sameFromBothSides yX8_sameFromBothSides ∈ bg_L := bg_in 787 (by decide +kernel) rfl
theorem kc_X11_requireFactor : (yX11_requireFactor.cls ≠ "java/lang/invoke/MethodHandle" ∧ yX11_requireFactor.cls ≠ "java/lang/invoke/VarHandle" ∧ (parseMethodDescriptor yX11_requireFactor.desc).map (fun d => d.parameters.length) = some 1) ∧ Cond.code yX11_requireFactor cX11_requireFactor 1 none ∈ bg_L ∧ Cond.initialized yX11_requireFactor.cls ∈ bg_L ∧ plainName yX11_requireFactor.cls = true := ⟨⟨by decide +kernel, by decide +kernel, by decide +kernel⟩, bg_in 854 (by decide +kernel) rfl, bg_in 75 (by decide +kernel) rfl, by decide +kernel⟩
theorem kt_X11_requireFactor : Cond.static yX11_requireFactor ∈ bg_L := bg_in 853 (by decide +kernel) rfl
theorem kc_X8_countPossibleFolds : (yX8_countPossibleFolds.cls ≠ "java/lang/invoke/MethodHandle" ∧ yX8_countPossibleFolds.cls ≠ "java/lang/invoke/VarHandle" ∧ (parseMethodDescriptor yX8_countPossibleFolds.desc).map (fun d => d.parameters.length) = some 1) ∧ Cond.code yX8_countPossibleFolds cX8_countPossibleFolds 5 (some .int) ∈ bg_L ∧ Cond.initialized yX8_countPossibleFolds.cls ∈ bg_L ∧ plainName yX8_countPossibleFolds.cls = true := ⟨⟨by decide +kernel, by decide +kernel, by decide +kernel⟩, bg_in 885 (by decide +kernel) rfl, bg_in 82 (by decide +kernel) rfl, by decide +kernel⟩
theorem kt_X8_countPossibleFolds : Cond.instanceMethod yX8_countPossibleFolds ∈ bg_L := bg_in 883 (by decide +kernel) rfl
theorem ke_X8_countPossibleFolds : Cond.selects RX8 yX8_countPossibleFolds yX8_countPossibleFolds ∈ bg_L := bg_in 884 (by decide +kernel) rfl
theorem kc_X8_countBreaking : (yX8_countBreaking.cls ≠ "java/lang/invoke/MethodHandle" ∧ yX8_countBreaking.cls ≠ "java/lang/invoke/VarHandle" ∧ (parseMethodDescriptor yX8_countBreaking.desc).map (fun d => d.parameters.length) = some 2) ∧ Cond.code yX8_countBreaking cX8_countBreaking 6 (some .int) ∈ bg_L ∧ Cond.initialized yX8_countBreaking.cls ∈ bg_L ∧ plainName yX8_countBreaking.cls = true := ⟨⟨by decide +kernel, by decide +kernel, by decide +kernel⟩, bg_in 915 (by decide +kernel) rfl, bg_in 82 (by decide +kernel) rfl, by decide +kernel⟩
theorem kt_X8_countBreaking : Cond.instanceMethod yX8_countBreaking ∈ bg_L := bg_in 913 (by decide +kernel) rfl
theorem ke_X8_countBreaking : Cond.selects RX8 yX8_countBreaking yX8_countBreaking ∈ bg_L := bg_in 914 (by decide +kernel) rfl
theorem kc_X8_countHoursToSafety : (yX8_countHoursToSafety.cls ≠ "java/lang/invoke/MethodHandle" ∧ yX8_countHoursToSafety.cls ≠ "java/lang/invoke/VarHandle" ∧ (parseMethodDescriptor yX8_countHoursToSafety.desc).map (fun d => d.parameters.length) = some 1) ∧ Cond.code yX8_countHoursToSafety cX8_countHoursToSafety 4 (some .int) ∈ bg_L ∧ Cond.initialized yX8_countHoursToSafety.cls ∈ bg_L ∧ plainName yX8_countHoursToSafety.cls = true := ⟨⟨by decide +kernel, by decide +kernel, by decide +kernel⟩, bg_in 960 (by decide +kernel) rfl, bg_in 82 (by decide +kernel) rfl, by decide +kernel⟩
theorem kt_X8_countHoursToSafety : Cond.instanceMethod yX8_countHoursToSafety ∈ bg_L := bg_in 958 (by decide +kernel) rfl
theorem ke_X8_countHoursToSafety : Cond.selects RX8 yX8_countHoursToSafety yX8_countHoursToSafety ∈ bg_L := bg_in 959 (by decide +kernel) rfl
theorem kc_X11_throwIfRefused : (yX11_throwIfRefused.cls ≠ "java/lang/invoke/MethodHandle" ∧ yX11_throwIfRefused.cls ≠ "java/lang/invoke/VarHandle" ∧ (parseMethodDescriptor yX11_throwIfRefused.desc).map (fun d => d.parameters.length) = some 1) ∧ Cond.code yX11_throwIfRefused cX11_throwIfRefused 1 none ∈ bg_L ∧ Cond.initialized yX11_throwIfRefused.cls ∈ bg_L ∧ plainName yX11_throwIfRefused.cls = true := ⟨⟨by decide +kernel, by decide +kernel, by decide +kernel⟩, bg_in 989 (by decide +kernel) rfl, bg_in 75 (by decide +kernel) rfl, by decide +kernel⟩
theorem kt_X11_throwIfRefused : Cond.static yX11_throwIfRefused ∈ bg_L := bg_in 988 (by decide +kernel) rfl
theorem kc_X3_remember : (yX3_remember.cls ≠ "java/lang/invoke/MethodHandle" ∧ yX3_remember.cls ≠ "java/lang/invoke/VarHandle" ∧ (parseMethodDescriptor yX3_remember.desc).map (fun d => d.parameters.length) = some 1) ∧ Cond.code yX3_remember cX3_remember 2 none ∈ bg_L ∧ Cond.initialized yX3_remember.cls ∈ bg_L ∧ plainName yX3_remember.cls = true := ⟨⟨by decide +kernel, by decide +kernel, by decide +kernel⟩, bg_in 1013 (by decide +kernel) rfl, bg_in 83 (by decide +kernel) rfl, by decide +kernel⟩
theorem kt_X3_remember : Cond.instanceMethod yX3_remember ∈ bg_L := bg_in 1011 (by decide +kernel) rfl
theorem ke_X3_remember : Cond.selects RX3 yX3_remember yX3_remember ∈ bg_L := bg_in 1012 (by decide +kernel) rfl
theorem kc_X1_refusalOfButter : (yX1_refusalOfButter.cls ≠ "java/lang/invoke/MethodHandle" ∧ yX1_refusalOfButter.cls ≠ "java/lang/invoke/VarHandle" ∧ (parseMethodDescriptor yX1_refusalOfButter.desc).map (fun d => d.parameters.length) = some 2) ∧ Cond.code yX1_refusalOfButter cX1_refusalOfButter 5 (some (.object "PastryBench$Refusal")) ∈ bg_L ∧ Cond.initialized yX1_refusalOfButter.cls ∈ bg_L ∧ plainName yX1_refusalOfButter.cls = true := ⟨⟨by decide +kernel, by decide +kernel, by decide +kernel⟩, bg_in 1197 (by decide +kernel) rfl, bg_in 81 (by decide +kernel) rfl, by decide +kernel⟩
theorem kt_X1_refusalOfButter : Cond.instanceMethod yX1_refusalOfButter ∈ bg_L := bg_in 1195 (by decide +kernel) rfl
theorem ke_X1_refusalOfButter : Cond.selects RX1 yX1_refusalOfButter yX1_refusalOfButter ∈ bg_L := bg_in 1196 (by decide +kernel) rfl
theorem kc_X1_applyButter : (yX1_applyButter.cls ≠ "java/lang/invoke/MethodHandle" ∧ yX1_applyButter.cls ≠ "java/lang/invoke/VarHandle" ∧ (parseMethodDescriptor yX1_applyButter.desc).map (fun d => d.parameters.length) = some 2) ∧ Cond.code yX1_applyButter cX1_applyButter 3 (some .int) ∈ bg_L ∧ Cond.initialized yX1_applyButter.cls ∈ bg_L ∧ plainName yX1_applyButter.cls = true := ⟨⟨by decide +kernel, by decide +kernel, by decide +kernel⟩, bg_in 1201 (by decide +kernel) rfl, bg_in 81 (by decide +kernel) rfl, by decide +kernel⟩
theorem kt_X1_applyButter : Cond.instanceMethod yX1_applyButter ∈ bg_L := bg_in 1199 (by decide +kernel) rfl
theorem ke_X1_applyButter : Cond.selects RX1 yX1_applyButter yX1_applyButter ∈ bg_L := bg_in 1200 (by decide +kernel) rfl
theorem kc_X1_refusalOfFlour : (yX1_refusalOfFlour.cls ≠ "java/lang/invoke/MethodHandle" ∧ yX1_refusalOfFlour.cls ≠ "java/lang/invoke/VarHandle" ∧ (parseMethodDescriptor yX1_refusalOfFlour.desc).map (fun d => d.parameters.length) = some 1) ∧ Cond.code yX1_refusalOfFlour cX1_refusalOfFlour 2 (some (.object "PastryBench$Refusal")) ∈ bg_L ∧ Cond.initialized yX1_refusalOfFlour.cls ∈ bg_L ∧ plainName yX1_refusalOfFlour.cls = true := ⟨⟨by decide +kernel, by decide +kernel, by decide +kernel⟩, bg_in 1216 (by decide +kernel) rfl, bg_in 81 (by decide +kernel) rfl, by decide +kernel⟩
theorem kt_X1_refusalOfFlour : Cond.instanceMethod yX1_refusalOfFlour ∈ bg_L := bg_in 1214 (by decide +kernel) rfl
theorem ke_X1_refusalOfFlour : Cond.selects RX1 yX1_refusalOfFlour yX1_refusalOfFlour ∈ bg_L := bg_in 1215 (by decide +kernel) rfl
theorem kc_X1_applyFlour : (yX1_applyFlour.cls ≠ "java/lang/invoke/MethodHandle" ∧ yX1_applyFlour.cls ≠ "java/lang/invoke/VarHandle" ∧ (parseMethodDescriptor yX1_applyFlour.desc).map (fun d => d.parameters.length) = some 1) ∧ Cond.code yX1_applyFlour cX1_applyFlour 2 (some .int) ∈ bg_L ∧ Cond.initialized yX1_applyFlour.cls ∈ bg_L ∧ plainName yX1_applyFlour.cls = true := ⟨⟨by decide +kernel, by decide +kernel, by decide +kernel⟩, bg_in 1220 (by decide +kernel) rfl, bg_in 81 (by decide +kernel) rfl, by decide +kernel⟩
theorem kt_X1_applyFlour : Cond.instanceMethod yX1_applyFlour ∈ bg_L := bg_in 1218 (by decide +kernel) rfl
theorem ke_X1_applyFlour : Cond.selects RX1 yX1_applyFlour yX1_applyFlour ∈ bg_L := bg_in 1219 (by decide +kernel) rfl
theorem kc_X5_readScript : (yX5_readScript.cls ≠ "java/lang/invoke/MethodHandle" ∧ yX5_readScript.cls ≠ "java/lang/invoke/VarHandle" ∧ (parseMethodDescriptor yX5_readScript.desc).map (fun d => d.parameters.length) = some 3) ∧ Cond.code yX5_readScript cX5_readScript 5 (some .boolean) ∈ bg_L ∧ Cond.initialized yX5_readScript.cls ∈ bg_L ∧ plainName yX5_readScript.cls = true := ⟨⟨by decide +kernel, by decide +kernel, by decide +kernel⟩, bg_in 1231 (by decide +kernel) rfl, bg_in 76 (by decide +kernel) rfl, by decide +kernel⟩
theorem kt_X5_readScript : Cond.instanceMethod yX5_readScript ∈ bg_L := bg_in 1229 (by decide +kernel) rfl
theorem ke_X5_readScript : Cond.selects RX5 yX5_readScript yX5_readScript ∈ bg_L := bg_in 1230 (by decide +kernel) rfl
theorem kc_X7_executeOn : (yX7_executeOn.cls ≠ "java/lang/invoke/MethodHandle" ∧ yX7_executeOn.cls ≠ "java/lang/invoke/VarHandle" ∧ (parseMethodDescriptor yX7_executeOn.desc).map (fun d => d.parameters.length) = some 1) ∧ Cond.code yX7_executeOn cX7_executeOn 3 (some .int) ∈ bg_L ∧ Cond.initialized yX7_executeOn.cls ∈ bg_L ∧ plainName yX7_executeOn.cls = true := ⟨⟨by decide +kernel, by decide +kernel, by decide +kernel⟩, bg_in 1249 (by decide +kernel) rfl, bg_in 80 (by decide +kernel) rfl, by decide +kernel⟩
theorem kt_X7_executeOn : Cond.instanceMethod yX7_executeOn ∈ bg_L := bg_in 1247 (by decide +kernel) rfl
theorem ke_X7_executeOn : Cond.selects RX7 yX7_executeOn yX7_executeOn ∈ bg_L := bg_in 1248 (by decide +kernel) rfl
theorem kc_X4_replaceBy : (yX4_replaceBy.cls ≠ "java/lang/invoke/MethodHandle" ∧ yX4_replaceBy.cls ≠ "java/lang/invoke/VarHandle" ∧ (parseMethodDescriptor yX4_replaceBy.desc).map (fun d => d.parameters.length) = some 1) ∧ Cond.code yX4_replaceBy cX4_replaceBy 3 none ∈ bg_L ∧ Cond.initialized yX4_replaceBy.cls ∈ bg_L ∧ plainName yX4_replaceBy.cls = true := ⟨⟨by decide +kernel, by decide +kernel, by decide +kernel⟩, bg_in 1294 (by decide +kernel) rfl, bg_in 84 (by decide +kernel) rfl, by decide +kernel⟩
theorem kt_X4_replaceBy : Cond.instanceMethod yX4_replaceBy ∈ bg_L := bg_in 1292 (by decide +kernel) rfl
theorem ke_X4_replaceBy : Cond.selects RX4 yX4_replaceBy yX4_replaceBy ∈ bg_L := bg_in 1293 (by decide +kernel) rfl
theorem kc_X3_takeBack : (yX3_takeBack.cls ≠ "java/lang/invoke/MethodHandle" ∧ yX3_takeBack.cls ≠ "java/lang/invoke/VarHandle" ∧ (parseMethodDescriptor yX3_takeBack.desc).map (fun d => d.parameters.length) = some 1) ∧ Cond.code yX3_takeBack cX3_takeBack 2 none ∈ bg_L ∧ Cond.initialized yX3_takeBack.cls ∈ bg_L ∧ plainName yX3_takeBack.cls = true := ⟨⟨by decide +kernel, by decide +kernel, by decide +kernel⟩, bg_in 1322 (by decide +kernel) rfl, bg_in 83 (by decide +kernel) rfl, by decide +kernel⟩
theorem kt_X3_takeBack : Cond.instanceMethod yX3_takeBack ∈ bg_L := bg_in 1320 (by decide +kernel) rfl
theorem ke_X3_takeBack : Cond.selects RX3 yX3_takeBack yX3_takeBack ∈ bg_L := bg_in 1321 (by decide +kernel) rfl
theorem kc_X12_at : (yX12_at.cls ≠ "java/lang/invoke/MethodHandle" ∧ yX12_at.cls ≠ "java/lang/invoke/VarHandle" ∧ (parseMethodDescriptor yX12_at.desc).map (fun d => d.parameters.length) = some 1) ∧ Cond.code yX12_at cX12_at 1 (some .int) ∈ bg_L ∧ Cond.initialized yX12_at.cls ∈ bg_L ∧ plainName yX12_at.cls = true := ⟨⟨by decide +kernel, by decide +kernel, by decide +kernel⟩, bg_in 1362 (by decide +kernel) rfl, bg_in 85 (by decide +kernel) rfl, by decide +kernel⟩
theorem kt_X12_at : Cond.static yX12_at ∈ bg_L := bg_in 1361 (by decide +kernel) rfl
theorem kc_X12_lay : (yX12_lay.cls ≠ "java/lang/invoke/MethodHandle" ∧ yX12_lay.cls ≠ "java/lang/invoke/VarHandle" ∧ (parseMethodDescriptor yX12_lay.desc).map (fun d => d.parameters.length) = some 3) ∧ Cond.code yX12_lay cX12_lay 4 none ∈ bg_L ∧ Cond.initialized yX12_lay.cls ∈ bg_L ∧ plainName yX12_lay.cls = true := ⟨⟨by decide +kernel, by decide +kernel, by decide +kernel⟩, bg_in 1359 (by decide +kernel) rfl, bg_in 85 (by decide +kernel) rfl, by decide +kernel⟩
theorem kt_X12_lay : Cond.instanceMethod yX12_lay ∈ bg_L := bg_in 1358 (by decide +kernel) rfl
theorem ke_X12_lay : Cond.selects RX12 yX12_lay yX12_lay ∈ bg_L := bg_in 6 (by decide +kernel) rfl
theorem kc_X12_of : (yX12_of.cls ≠ "java/lang/invoke/MethodHandle" ∧ yX12_of.cls ≠ "java/lang/invoke/VarHandle" ∧ (parseMethodDescriptor yX12_of.desc).map (fun d => d.parameters.length) = some 2) ∧ Cond.code yX12_of cX12_of 3 (some .int) ∈ bg_L ∧ Cond.initialized yX12_of.cls ∈ bg_L ∧ plainName yX12_of.cls = true := ⟨⟨by decide +kernel, by decide +kernel, by decide +kernel⟩, bg_in 1370 (by decide +kernel) rfl, bg_in 85 (by decide +kernel) rfl, by decide +kernel⟩
theorem kt_X12_of : Cond.instanceMethod yX12_of ∈ bg_L := bg_in 1369 (by decide +kernel) rfl
theorem ke_X12_of : Cond.selects RX12 yX12_of yX12_of ∈ bg_L := bg_in 8 (by decide +kernel) rfl
theorem kc_X12_begin : (yX12_begin.cls ≠ "java/lang/invoke/MethodHandle" ∧ yX12_begin.cls ≠ "java/lang/invoke/VarHandle" ∧ (parseMethodDescriptor yX12_begin.desc).map (fun d => d.parameters.length) = some 3) ∧ Cond.code yX12_begin cX12_begin 5 none ∈ bg_L ∧ Cond.initialized yX12_begin.cls ∈ bg_L ∧ plainName yX12_begin.cls = true := ⟨⟨by decide +kernel, by decide +kernel, by decide +kernel⟩, bg_in 1351 (by decide +kernel) rfl, bg_in 85 (by decide +kernel) rfl, by decide +kernel⟩
theorem kt_X12_begin : Cond.instanceMethod yX12_begin ∈ bg_L := bg_in 1350 (by decide +kernel) rfl
theorem ke_X12_begin : Cond.selects RX12 yX12_begin yX12_begin ∈ bg_L := bg_in 4 (by decide +kernel) rfl
theorem kc_X12_startSheet : (yX12_startSheet.cls ≠ "java/lang/invoke/MethodHandle" ∧ yX12_startSheet.cls ≠ "java/lang/invoke/VarHandle" ∧ (parseMethodDescriptor yX12_startSheet.desc).map (fun d => d.parameters.length) = some 2) ∧ Cond.code yX12_startSheet cX12_startSheet 4 none ∈ bg_L ∧ Cond.initialized yX12_startSheet.cls ∈ bg_L ∧ plainName yX12_startSheet.cls = true := ⟨⟨by decide +kernel, by decide +kernel, by decide +kernel⟩, bg_in 1355 (by decide +kernel) rfl, bg_in 85 (by decide +kernel) rfl, by decide +kernel⟩
theorem kt_X12_startSheet : Cond.instanceMethod yX12_startSheet ∈ bg_L := bg_in 1354 (by decide +kernel) rfl
theorem ke_X12_startSheet : Cond.selects RX12 yX12_startSheet yX12_startSheet ∈ bg_L := bg_in 5 (by decide +kernel) rfl
theorem kc_X12_addLayer : (yX12_addLayer.cls ≠ "java/lang/invoke/MethodHandle" ∧ yX12_addLayer.cls ≠ "java/lang/invoke/VarHandle" ∧ (parseMethodDescriptor yX12_addLayer.desc).map (fun d => d.parameters.length) = some 2) ∧ Cond.code yX12_addLayer cX12_addLayer 3 none ∈ bg_L ∧ Cond.initialized yX12_addLayer.cls ∈ bg_L ∧ plainName yX12_addLayer.cls = true := ⟨⟨by decide +kernel, by decide +kernel, by decide +kernel⟩, bg_in 1366 (by decide +kernel) rfl, bg_in 85 (by decide +kernel) rfl, by decide +kernel⟩
theorem kt_X12_addLayer : Cond.instanceMethod yX12_addLayer ∈ bg_L := bg_in 1365 (by decide +kernel) rfl
theorem ke_X12_addLayer : Cond.selects RX12 yX12_addLayer yX12_addLayer ∈ bg_L := bg_in 7 (by decide +kernel) rfl
theorem kc_X12_expectLayers : (yX12_expectLayers.cls ≠ "java/lang/invoke/MethodHandle" ∧ yX12_expectLayers.cls ≠ "java/lang/invoke/VarHandle" ∧ (parseMethodDescriptor yX12_expectLayers.desc).map (fun d => d.parameters.length) = some 0) ∧ Cond.code yX12_expectLayers cX12_expectLayers 2 none ∈ bg_L ∧ Cond.initialized yX12_expectLayers.cls ∈ bg_L ∧ plainName yX12_expectLayers.cls = true := ⟨⟨by decide +kernel, by decide +kernel, by decide +kernel⟩, bg_in 1374 (by decide +kernel) rfl, bg_in 85 (by decide +kernel) rfl, by decide +kernel⟩
theorem kt_X12_expectLayers : Cond.instanceMethod yX12_expectLayers ∈ bg_L := bg_in 1373 (by decide +kernel) rfl
theorem ke_X12_expectLayers : Cond.selects RX12 yX12_expectLayers yX12_expectLayers ∈ bg_L := bg_in 9 (by decide +kernel) rfl
theorem kc_X12_lacks : (yX12_lacks.cls ≠ "java/lang/invoke/MethodHandle" ∧ yX12_lacks.cls ≠ "java/lang/invoke/VarHandle" ∧ (parseMethodDescriptor yX12_lacks.desc).map (fun d => d.parameters.length) = some 1) ∧ Cond.code yX12_lacks cX12_lacks 2 (some .boolean) ∈ bg_L ∧ Cond.initialized yX12_lacks.cls ∈ bg_L ∧ plainName yX12_lacks.cls = true := ⟨⟨by decide +kernel, by decide +kernel, by decide +kernel⟩, bg_in 1525 (by decide +kernel) rfl, bg_in 85 (by decide +kernel) rfl, by decide +kernel⟩
theorem kt_X12_lacks : Cond.instanceMethod yX12_lacks ∈ bg_L := bg_in 1524 (by decide +kernel) rfl
theorem ke_X12_lacks : Cond.selects RX12 yX12_lacks yX12_lacks ∈ bg_L := bg_in 13 (by decide +kernel) rfl
theorem kc_X12_layer : (yX12_layer.cls ≠ "java/lang/invoke/MethodHandle" ∧ yX12_layer.cls ≠ "java/lang/invoke/VarHandle" ∧ (parseMethodDescriptor yX12_layer.desc).map (fun d => d.parameters.length) = some 2) ∧ Cond.code yX12_layer cX12_layer 3 (some .int) ∈ bg_L ∧ Cond.initialized yX12_layer.cls ∈ bg_L ∧ plainName yX12_layer.cls = true := ⟨⟨by decide +kernel, by decide +kernel, by decide +kernel⟩, bg_in 1533 (by decide +kernel) rfl, bg_in 85 (by decide +kernel) rfl, by decide +kernel⟩
theorem kt_X12_layer : Cond.instanceMethod yX12_layer ∈ bg_L := bg_in 1532 (by decide +kernel) rfl
theorem ke_X12_layer : Cond.selects RX12 yX12_layer yX12_layer ∈ bg_L := bg_in 14 (by decide +kernel) rfl
theorem kc_X12_areAlike : (yX12_areAlike.cls ≠ "java/lang/invoke/MethodHandle" ∧ yX12_areAlike.cls ≠ "java/lang/invoke/VarHandle" ∧ (parseMethodDescriptor yX12_areAlike.desc).map (fun d => d.parameters.length) = some 2) ∧ Cond.code yX12_areAlike cX12_areAlike 2 (some .boolean) ∈ bg_L ∧ Cond.initialized yX12_areAlike.cls ∈ bg_L ∧ plainName yX12_areAlike.cls = true := ⟨⟨by decide +kernel, by decide +kernel, by decide +kernel⟩, bg_in 1583 (by decide +kernel) rfl, bg_in 85 (by decide +kernel) rfl, by decide +kernel⟩
theorem kt_X12_areAlike : Cond.static yX12_areAlike ∈ bg_L := bg_in 1582 (by decide +kernel) rfl
theorem kc_X12_inRange : (yX12_inRange.cls ≠ "java/lang/invoke/MethodHandle" ∧ yX12_inRange.cls ≠ "java/lang/invoke/VarHandle" ∧ (parseMethodDescriptor yX12_inRange.desc).map (fun d => d.parameters.length) = some 3) ∧ Cond.code yX12_inRange cX12_inRange 3 (some .boolean) ∈ bg_L ∧ Cond.initialized yX12_inRange.cls ∈ bg_L ∧ plainName yX12_inRange.cls = true := ⟨⟨by decide +kernel, by decide +kernel, by decide +kernel⟩, bg_in 1521 (by decide +kernel) rfl, bg_in 85 (by decide +kernel) rfl, by decide +kernel⟩
theorem kt_X12_inRange : Cond.static yX12_inRange ∈ bg_L := bg_in 1520 (by decide +kernel) rfl
theorem kc_X12_isSheet : (yX12_isSheet.cls ≠ "java/lang/invoke/MethodHandle" ∧ yX12_isSheet.cls ≠ "java/lang/invoke/VarHandle" ∧ (parseMethodDescriptor yX12_isSheet.desc).map (fun d => d.parameters.length) = some 1) ∧ Cond.code yX12_isSheet cX12_isSheet 2 (some .boolean) ∈ bg_L ∧ Cond.initialized yX12_isSheet.cls ∈ bg_L ∧ plainName yX12_isSheet.cls = true := ⟨⟨by decide +kernel, by decide +kernel, by decide +kernel⟩, bg_in 1518 (by decide +kernel) rfl, bg_in 85 (by decide +kernel) rfl, by decide +kernel⟩
theorem kt_X12_isSheet : Cond.instanceMethod yX12_isSheet ∈ bg_L := bg_in 1517 (by decide +kernel) rfl
theorem ke_X12_isSheet : Cond.selects RX12 yX12_isSheet yX12_isSheet ∈ bg_L := bg_in 12 (by decide +kernel) rfl
theorem kc_X12_sizeOf : (yX12_sizeOf.cls ≠ "java/lang/invoke/MethodHandle" ∧ yX12_sizeOf.cls ≠ "java/lang/invoke/VarHandle" ∧ (parseMethodDescriptor yX12_sizeOf.desc).map (fun d => d.parameters.length) = some 1) ∧ Cond.code yX12_sizeOf cX12_sizeOf 1 (some .int) ∈ bg_L ∧ Cond.initialized yX12_sizeOf.cls ∈ bg_L ∧ plainName yX12_sizeOf.cls = true := ⟨⟨by decide +kernel, by decide +kernel, by decide +kernel⟩, bg_in 1548 (by decide +kernel) rfl, bg_in 85 (by decide +kernel) rfl, by decide +kernel⟩
theorem kt_X12_sizeOf : Cond.static yX12_sizeOf ∈ bg_L := bg_in 1547 (by decide +kernel) rfl
theorem kc_X12_is : (yX12_is.cls ≠ "java/lang/invoke/MethodHandle" ∧ yX12_is.cls ≠ "java/lang/invoke/VarHandle" ∧ (parseMethodDescriptor yX12_is.desc).map (fun d => d.parameters.length) = some 2) ∧ Cond.code yX12_is cX12_is 3 (some .boolean) ∈ bg_L ∧ Cond.initialized yX12_is.cls ∈ bg_L ∧ plainName yX12_is.cls = true := ⟨⟨by decide +kernel, by decide +kernel, by decide +kernel⟩, bg_in 1603 (by decide +kernel) rfl, bg_in 85 (by decide +kernel) rfl, by decide +kernel⟩
theorem kt_X12_is : Cond.instanceMethod yX12_is ∈ bg_L := bg_in 1602 (by decide +kernel) rfl
theorem ke_X12_is : Cond.selects RX12 yX12_is yX12_is ∈ bg_L := bg_in 20 (by decide +kernel) rfl
theorem kc_X12_greatest : (yX12_greatest.cls ≠ "java/lang/invoke/MethodHandle" ∧ yX12_greatest.cls ≠ "java/lang/invoke/VarHandle" ∧ (parseMethodDescriptor yX12_greatest.desc).map (fun d => d.parameters.length) = some 1) ∧ Cond.code yX12_greatest cX12_greatest 4 (some .int) ∈ bg_L ∧ Cond.initialized yX12_greatest.cls ∈ bg_L ∧ plainName yX12_greatest.cls = true := ⟨⟨by decide +kernel, by decide +kernel, by decide +kernel⟩, bg_in 1502 (by decide +kernel) rfl, bg_in 85 (by decide +kernel) rfl, by decide +kernel⟩
theorem kt_X12_greatest : Cond.instanceMethod yX12_greatest ∈ bg_L := bg_in 1501 (by decide +kernel) rfl
theorem ke_X12_greatest : Cond.selects RX12 yX12_greatest yX12_greatest ∈ bg_L := bg_in 10 (by decide +kernel) rfl
theorem kc_X12_told : (yX12_told.cls ≠ "java/lang/invoke/MethodHandle" ∧ yX12_told.cls ≠ "java/lang/invoke/VarHandle" ∧ (parseMethodDescriptor yX12_told.desc).map (fun d => d.parameters.length) = some 2) ∧ Cond.code yX12_told cX12_told 3 (some .int) ∈ bg_L ∧ Cond.initialized yX12_told.cls ∈ bg_L ∧ plainName yX12_told.cls = true := ⟨⟨by decide +kernel, by decide +kernel, by decide +kernel⟩, bg_in 1514 (by decide +kernel) rfl, bg_in 85 (by decide +kernel) rfl, by decide +kernel⟩
theorem kt_X12_told : Cond.instanceMethod yX12_told ∈ bg_L := bg_in 1513 (by decide +kernel) rfl
theorem ke_X12_told : Cond.selects RX12 yX12_told yX12_told ∈ bg_L := bg_in 11 (by decide +kernel) rfl
theorem kc_X12_isLayer : (yX12_isLayer.cls ≠ "java/lang/invoke/MethodHandle" ∧ yX12_isLayer.cls ≠ "java/lang/invoke/VarHandle" ∧ (parseMethodDescriptor yX12_isLayer.desc).map (fun d => d.parameters.length) = some 2) ∧ Cond.code yX12_isLayer cX12_isLayer 3 (some .boolean) ∈ bg_L ∧ Cond.initialized yX12_isLayer.cls ∈ bg_L ∧ plainName yX12_isLayer.cls = true := ⟨⟨by decide +kernel, by decide +kernel, by decide +kernel⟩, bg_in 1541 (by decide +kernel) rfl, bg_in 85 (by decide +kernel) rfl, by decide +kernel⟩
theorem kt_X12_isLayer : Cond.instanceMethod yX12_isLayer ∈ bg_L := bg_in 1540 (by decide +kernel) rfl
theorem ke_X12_isLayer : Cond.selects RX12 yX12_isLayer yX12_isLayer ∈ bg_L := bg_in 15 (by decide +kernel) rfl
theorem kc_X12_heightOf : (yX12_heightOf.cls ≠ "java/lang/invoke/MethodHandle" ∧ yX12_heightOf.cls ≠ "java/lang/invoke/VarHandle" ∧ (parseMethodDescriptor yX12_heightOf.desc).map (fun d => d.parameters.length) = some 1) ∧ Cond.code yX12_heightOf cX12_heightOf 4 (some .int) ∈ bg_L ∧ Cond.initialized yX12_heightOf.cls ∈ bg_L ∧ plainName yX12_heightOf.cls = true := ⟨⟨by decide +kernel, by decide +kernel, by decide +kernel⟩, bg_in 1556 (by decide +kernel) rfl, bg_in 85 (by decide +kernel) rfl, by decide +kernel⟩
theorem kt_X12_heightOf : Cond.instanceMethod yX12_heightOf ∈ bg_L := bg_in 1555 (by decide +kernel) rfl
theorem ke_X12_heightOf : Cond.selects RX12 yX12_heightOf yX12_heightOf ∈ bg_L := bg_in 16 (by decide +kernel) rfl
theorem kc_X12_butterOf : (yX12_butterOf.cls ≠ "java/lang/invoke/MethodHandle" ∧ yX12_butterOf.cls ≠ "java/lang/invoke/VarHandle" ∧ (parseMethodDescriptor yX12_butterOf.desc).map (fun d => d.parameters.length) = some 1) ∧ Cond.code yX12_butterOf cX12_butterOf 4 (some .int) ∈ bg_L ∧ Cond.initialized yX12_butterOf.cls ∈ bg_L ∧ plainName yX12_butterOf.cls = true := ⟨⟨by decide +kernel, by decide +kernel, by decide +kernel⟩, bg_in 1564 (by decide +kernel) rfl, bg_in 85 (by decide +kernel) rfl, by decide +kernel⟩
theorem kt_X12_butterOf : Cond.instanceMethod yX12_butterOf ∈ bg_L := bg_in 1563 (by decide +kernel) rfl
theorem ke_X12_butterOf : Cond.selects RX12 yX12_butterOf yX12_butterOf ∈ bg_L := bg_in 17 (by decide +kernel) rfl
theorem kc_X12_extreme : (yX12_extreme.cls ≠ "java/lang/invoke/MethodHandle" ∧ yX12_extreme.cls ≠ "java/lang/invoke/VarHandle" ∧ (parseMethodDescriptor yX12_extreme.desc).map (fun d => d.parameters.length) = some 2) ∧ Cond.code yX12_extreme cX12_extreme 5 (some .int) ∈ bg_L ∧ Cond.initialized yX12_extreme.cls ∈ bg_L ∧ plainName yX12_extreme.cls = true := ⟨⟨by decide +kernel, by decide +kernel, by decide +kernel⟩, bg_in 1572 (by decide +kernel) rfl, bg_in 85 (by decide +kernel) rfl, by decide +kernel⟩
theorem kt_X12_extreme : Cond.instanceMethod yX12_extreme ∈ bg_L := bg_in 1571 (by decide +kernel) rfl
theorem ke_X12_extreme : Cond.selects RX12 yX12_extreme yX12_extreme ∈ bg_L := bg_in 18 (by decide +kernel) rfl
theorem kc_X12_toldIs : (yX12_toldIs.cls ≠ "java/lang/invoke/MethodHandle" ∧ yX12_toldIs.cls ≠ "java/lang/invoke/VarHandle" ∧ (parseMethodDescriptor yX12_toldIs.desc).map (fun d => d.parameters.length) = some 2) ∧ Cond.code yX12_toldIs cX12_toldIs 3 (some .boolean) ∈ bg_L ∧ Cond.initialized yX12_toldIs.cls ∈ bg_L ∧ plainName yX12_toldIs.cls = true := ⟨⟨by decide +kernel, by decide +kernel, by decide +kernel⟩, bg_in 1599 (by decide +kernel) rfl, bg_in 85 (by decide +kernel) rfl, by decide +kernel⟩
theorem kt_X12_toldIs : Cond.instanceMethod yX12_toldIs ∈ bg_L := bg_in 1598 (by decide +kernel) rfl
theorem ke_X12_toldIs : Cond.selects RX12 yX12_toldIs yX12_toldIs ∈ bg_L := bg_in 19 (by decide +kernel) rfl
theorem kc_X12_foldedLayers : (yX12_foldedLayers.cls ≠ "java/lang/invoke/MethodHandle" ∧ yX12_foldedLayers.cls ≠ "java/lang/invoke/VarHandle" ∧ (parseMethodDescriptor yX12_foldedLayers.desc).map (fun d => d.parameters.length) = some 3) ∧ Cond.code yX12_foldedLayers cX12_foldedLayers 3 (some .int) ∈ bg_L ∧ Cond.initialized yX12_foldedLayers.cls ∈ bg_L ∧ plainName yX12_foldedLayers.cls = true := ⟨⟨by decide +kernel, by decide +kernel, by decide +kernel⟩, bg_in 1649 (by decide +kernel) rfl, bg_in 85 (by decide +kernel) rfl, by decide +kernel⟩
theorem kt_X12_foldedLayers : Cond.static yX12_foldedLayers ∈ bg_L := bg_in 1648 (by decide +kernel) rfl
theorem kc_X12_areParts : (yX12_areParts.cls ≠ "java/lang/invoke/MethodHandle" ∧ yX12_areParts.cls ≠ "java/lang/invoke/VarHandle" ∧ (parseMethodDescriptor yX12_areParts.desc).map (fun d => d.parameters.length) = some 1) ∧ Cond.code yX12_areParts cX12_areParts 1 (some .boolean) ∈ bg_L ∧ Cond.initialized yX12_areParts.cls ∈ bg_L ∧ plainName yX12_areParts.cls = true := ⟨⟨by decide +kernel, by decide +kernel, by decide +kernel⟩, bg_in 1638 (by decide +kernel) rfl, bg_in 85 (by decide +kernel) rfl, by decide +kernel⟩
theorem kt_X12_areParts : Cond.static yX12_areParts ∈ bg_L := bg_in 1637 (by decide +kernel) rfl
theorem kc_X12_lacksBoth : (yX12_lacksBoth.cls ≠ "java/lang/invoke/MethodHandle" ∧ yX12_lacksBoth.cls ≠ "java/lang/invoke/VarHandle" ∧ (parseMethodDescriptor yX12_lacksBoth.desc).map (fun d => d.parameters.length) = some 2) ∧ Cond.code yX12_lacksBoth cX12_lacksBoth 3 (some .boolean) ∈ bg_L ∧ Cond.initialized yX12_lacksBoth.cls ∈ bg_L ∧ plainName yX12_lacksBoth.cls = true := ⟨⟨by decide +kernel, by decide +kernel, by decide +kernel⟩, bg_in 1642 (by decide +kernel) rfl, bg_in 85 (by decide +kernel) rfl, by decide +kernel⟩
theorem kt_X12_lacksBoth : Cond.instanceMethod yX12_lacksBoth ∈ bg_L := bg_in 1641 (by decide +kernel) rfl
theorem ke_X12_lacksBoth : Cond.selects RX12 yX12_lacksBoth yX12_lacksBoth ∈ bg_L := bg_in 22 (by decide +kernel) rfl
theorem kc_X12_lacksParts : (yX12_lacksParts.cls ≠ "java/lang/invoke/MethodHandle" ∧ yX12_lacksParts.cls ≠ "java/lang/invoke/VarHandle" ∧ (parseMethodDescriptor yX12_lacksParts.desc).map (fun d => d.parameters.length) = some 2) ∧ Cond.code yX12_lacksParts cX12_lacksParts 3 (some .boolean) ∈ bg_L ∧ Cond.initialized yX12_lacksParts.cls ∈ bg_L ∧ plainName yX12_lacksParts.cls = true := ⟨⟨by decide +kernel, by decide +kernel, by decide +kernel⟩, bg_in 1635 (by decide +kernel) rfl, bg_in 85 (by decide +kernel) rfl, by decide +kernel⟩
theorem kt_X12_lacksParts : Cond.instanceMethod yX12_lacksParts ∈ bg_L := bg_in 1634 (by decide +kernel) rfl
theorem ke_X12_lacksParts : Cond.selects RX12 yX12_lacksParts yX12_lacksParts ∈ bg_L := bg_in 21 (by decide +kernel) rfl
theorem kc_X12_whyNotFold : (yX12_whyNotFold.cls ≠ "java/lang/invoke/MethodHandle" ∧ yX12_whyNotFold.cls ≠ "java/lang/invoke/VarHandle" ∧ (parseMethodDescriptor yX12_whyNotFold.desc).map (fun d => d.parameters.length) = some 2) ∧ Cond.code yX12_whyNotFold cX12_whyNotFold 3 (some .int) ∈ bg_L ∧ Cond.initialized yX12_whyNotFold.cls ∈ bg_L ∧ plainName yX12_whyNotFold.cls = true := ⟨⟨by decide +kernel, by decide +kernel, by decide +kernel⟩, bg_in 1646 (by decide +kernel) rfl, bg_in 85 (by decide +kernel) rfl, by decide +kernel⟩
theorem kt_X12_whyNotFold : Cond.instanceMethod yX12_whyNotFold ∈ bg_L := bg_in 1645 (by decide +kernel) rfl
theorem ke_X12_whyNotFold : Cond.selects RX12 yX12_whyNotFold yX12_whyNotFold ∈ bg_L := bg_in 23 (by decide +kernel) rfl
theorem kc_X12_least : (yX12_least.cls ≠ "java/lang/invoke/MethodHandle" ∧ yX12_least.cls ≠ "java/lang/invoke/VarHandle" ∧ (parseMethodDescriptor yX12_least.desc).map (fun d => d.parameters.length) = some 2) ∧ Cond.code yX12_least cX12_least 2 (some .int) ∈ bg_L ∧ Cond.initialized yX12_least.cls ∈ bg_L ∧ plainName yX12_least.cls = true := ⟨⟨by decide +kernel, by decide +kernel, by decide +kernel⟩, bg_in 1675 (by decide +kernel) rfl, bg_in 85 (by decide +kernel) rfl, by decide +kernel⟩
theorem kt_X12_least : Cond.static yX12_least ∈ bg_L := bg_in 1674 (by decide +kernel) rfl
theorem kc_X12_copySheet : (yX12_copySheet.cls ≠ "java/lang/invoke/MethodHandle" ∧ yX12_copySheet.cls ≠ "java/lang/invoke/VarHandle" ∧ (parseMethodDescriptor yX12_copySheet.desc).map (fun d => d.parameters.length) = some 2) ∧ Cond.code yX12_copySheet cX12_copySheet 3 none ∈ bg_L ∧ Cond.initialized yX12_copySheet.cls ∈ bg_L ∧ plainName yX12_copySheet.cls = true := ⟨⟨by decide +kernel, by decide +kernel, by decide +kernel⟩, bg_in 1728 (by decide +kernel) rfl, bg_in 85 (by decide +kernel) rfl, by decide +kernel⟩
theorem kt_X12_copySheet : Cond.instanceMethod yX12_copySheet ∈ bg_L := bg_in 1727 (by decide +kernel) rfl
theorem ke_X12_copySheet : Cond.selects RX12 yX12_copySheet yX12_copySheet ∈ bg_L := bg_in 31 (by decide +kernel) rfl
theorem kc_X12_putLayer : (yX12_putLayer.cls ≠ "java/lang/invoke/MethodHandle" ∧ yX12_putLayer.cls ≠ "java/lang/invoke/VarHandle" ∧ (parseMethodDescriptor yX12_putLayer.desc).map (fun d => d.parameters.length) = some 3) ∧ Cond.code yX12_putLayer cX12_putLayer 5 none ∈ bg_L ∧ Cond.initialized yX12_putLayer.cls ∈ bg_L ∧ plainName yX12_putLayer.cls = true := ⟨⟨by decide +kernel, by decide +kernel, by decide +kernel⟩, bg_in 1679 (by decide +kernel) rfl, bg_in 85 (by decide +kernel) rfl, by decide +kernel⟩
theorem kt_X12_putLayer : Cond.instanceMethod yX12_putLayer ∈ bg_L := bg_in 1678 (by decide +kernel) rfl
theorem ke_X12_putLayer : Cond.selects RX12 yX12_putLayer yX12_putLayer ∈ bg_L := bg_in 26 (by decide +kernel) rfl
theorem kc_X12_warm : (yX12_warm.cls ≠ "java/lang/invoke/MethodHandle" ∧ yX12_warm.cls ≠ "java/lang/invoke/VarHandle" ∧ (parseMethodDescriptor yX12_warm.desc).map (fun d => d.parameters.length) = some 1) ∧ Cond.code yX12_warm cX12_warm 2 none ∈ bg_L ∧ Cond.initialized yX12_warm.cls ∈ bg_L ∧ plainName yX12_warm.cls = true := ⟨⟨by decide +kernel, by decide +kernel, by decide +kernel⟩, bg_in 1732 (by decide +kernel) rfl, bg_in 85 (by decide +kernel) rfl, by decide +kernel⟩
theorem kt_X12_warm : Cond.instanceMethod yX12_warm ∈ bg_L := bg_in 1731 (by decide +kernel) rfl
theorem ke_X12_warm : Cond.selects RX12 yX12_warm yX12_warm ∈ bg_L := bg_in 32 (by decide +kernel) rfl
theorem kc_X12_most : (yX12_most.cls ≠ "java/lang/invoke/MethodHandle" ∧ yX12_most.cls ≠ "java/lang/invoke/VarHandle" ∧ (parseMethodDescriptor yX12_most.desc).map (fun d => d.parameters.length) = some 2) ∧ Cond.code yX12_most cX12_most 2 (some .int) ∈ bg_L ∧ Cond.initialized yX12_most.cls ∈ bg_L ∧ plainName yX12_most.cls = true := ⟨⟨by decide +kernel, by decide +kernel, by decide +kernel⟩, bg_in 1672 (by decide +kernel) rfl, bg_in 85 (by decide +kernel) rfl, by decide +kernel⟩
theorem kt_X12_most : Cond.static yX12_most ∈ bg_L := bg_in 1671 (by decide +kernel) rfl
theorem kc_X12_escapes : (yX12_escapes.cls ≠ "java/lang/invoke/MethodHandle" ∧ yX12_escapes.cls ≠ "java/lang/invoke/VarHandle" ∧ (parseMethodDescriptor yX12_escapes.desc).map (fun d => d.parameters.length) = some 1) ∧ Cond.code yX12_escapes cX12_escapes 2 (some .int) ∈ bg_L ∧ Cond.initialized yX12_escapes.cls ∈ bg_L ∧ plainName yX12_escapes.cls = true := ⟨⟨by decide +kernel, by decide +kernel, by decide +kernel⟩, bg_in 1669 (by decide +kernel) rfl, bg_in 85 (by decide +kernel) rfl, by decide +kernel⟩
theorem kt_X12_escapes : Cond.instanceMethod yX12_escapes ∈ bg_L := bg_in 1668 (by decide +kernel) rfl
theorem ke_X12_escapes : Cond.selects RX12 yX12_escapes yX12_escapes ∈ bg_L := bg_in 25 (by decide +kernel) rfl
theorem kc_X12_rollOut : (yX12_rollOut.cls ≠ "java/lang/invoke/MethodHandle" ∧ yX12_rollOut.cls ≠ "java/lang/invoke/VarHandle" ∧ (parseMethodDescriptor yX12_rollOut.desc).map (fun d => d.parameters.length) = some 2) ∧ Cond.code yX12_rollOut cX12_rollOut 9 none ∈ bg_L ∧ Cond.initialized yX12_rollOut.cls ∈ bg_L ∧ plainName yX12_rollOut.cls = true := ⟨⟨by decide +kernel, by decide +kernel, by decide +kernel⟩, bg_in 1665 (by decide +kernel) rfl, bg_in 85 (by decide +kernel) rfl, by decide +kernel⟩
theorem kt_X12_rollOut : Cond.instanceMethod yX12_rollOut ∈ bg_L := bg_in 1664 (by decide +kernel) rfl
theorem ke_X12_rollOut : Cond.selects RX12 yX12_rollOut yX12_rollOut ∈ bg_L := bg_in 24 (by decide +kernel) rfl
theorem kc_X12_cooled : (yX12_cooled.cls ≠ "java/lang/invoke/MethodHandle" ∧ yX12_cooled.cls ≠ "java/lang/invoke/VarHandle" ∧ (parseMethodDescriptor yX12_cooled.desc).map (fun d => d.parameters.length) = some 1) ∧ Cond.code yX12_cooled cX12_cooled 1 (some .int) ∈ bg_L ∧ Cond.initialized yX12_cooled.cls ∈ bg_L ∧ plainName yX12_cooled.cls = true := ⟨⟨by decide +kernel, by decide +kernel, by decide +kernel⟩, bg_in 1698 (by decide +kernel) rfl, bg_in 85 (by decide +kernel) rfl, by decide +kernel⟩
theorem kt_X12_cooled : Cond.static yX12_cooled ∈ bg_L := bg_in 1697 (by decide +kernel) rfl
theorem kc_X12_later : (yX12_later.cls ≠ "java/lang/invoke/MethodHandle" ∧ yX12_later.cls ≠ "java/lang/invoke/VarHandle" ∧ (parseMethodDescriptor yX12_later.desc).map (fun d => d.parameters.length) = some 2) ∧ Cond.code yX12_later cX12_later 3 (some .int) ∈ bg_L ∧ Cond.initialized yX12_later.cls ∈ bg_L ∧ plainName yX12_later.cls = true := ⟨⟨by decide +kernel, by decide +kernel, by decide +kernel⟩, bg_in 1695 (by decide +kernel) rfl, bg_in 85 (by decide +kernel) rfl, by decide +kernel⟩
theorem kt_X12_later : Cond.instanceMethod yX12_later ∈ bg_L := bg_in 1694 (by decide +kernel) rfl
theorem ke_X12_later : Cond.selects RX12 yX12_later yX12_later ∈ bg_L := bg_in 27 (by decide +kernel) rfl
theorem kc_X12_foldUp : (yX12_foldUp.cls ≠ "java/lang/invoke/MethodHandle" ∧ yX12_foldUp.cls ≠ "java/lang/invoke/VarHandle" ∧ (parseMethodDescriptor yX12_foldUp.desc).map (fun d => d.parameters.length) = some 2) ∧ Cond.code yX12_foldUp cX12_foldUp 7 none ∈ bg_L ∧ Cond.initialized yX12_foldUp.cls ∈ bg_L ∧ plainName yX12_foldUp.cls = true := ⟨⟨by decide +kernel, by decide +kernel, by decide +kernel⟩, bg_in 1724 (by decide +kernel) rfl, bg_in 85 (by decide +kernel) rfl, by decide +kernel⟩
theorem kt_X12_foldUp : Cond.instanceMethod yX12_foldUp ∈ bg_L := bg_in 1723 (by decide +kernel) rfl
theorem ke_X12_foldUp : Cond.selects RX12 yX12_foldUp yX12_foldUp ∈ bg_L := bg_in 30 (by decide +kernel) rfl
theorem kc_X12_countWith : (yX12_countWith.cls ≠ "java/lang/invoke/MethodHandle" ∧ yX12_countWith.cls ≠ "java/lang/invoke/VarHandle" ∧ (parseMethodDescriptor yX12_countWith.desc).map (fun d => d.parameters.length) = some 1) ∧ Cond.code yX12_countWith cX12_countWith 4 (some .int) ∈ bg_L ∧ Cond.initialized yX12_countWith.cls ∈ bg_L ∧ plainName yX12_countWith.cls = true := ⟨⟨by decide +kernel, by decide +kernel, by decide +kernel⟩, bg_in 1768 (by decide +kernel) rfl, bg_in 85 (by decide +kernel) rfl, by decide +kernel⟩
theorem kt_X12_countWith : Cond.instanceMethod yX12_countWith ∈ bg_L := bg_in 1767 (by decide +kernel) rfl
theorem ke_X12_countWith : Cond.selects RX12 yX12_countWith yX12_countWith ∈ bg_L := bg_in 38 (by decide +kernel) rfl
theorem kc_X12_countWarm : (yX12_countWarm.cls ≠ "java/lang/invoke/MethodHandle" ∧ yX12_countWarm.cls ≠ "java/lang/invoke/VarHandle" ∧ (parseMethodDescriptor yX12_countWarm.desc).map (fun d => d.parameters.length) = some 0) ∧ Cond.code yX12_countWarm cX12_countWarm 3 (some .int) ∈ bg_L ∧ Cond.initialized yX12_countWarm.cls ∈ bg_L ∧ plainName yX12_countWarm.cls = true := ⟨⟨by decide +kernel, by decide +kernel, by decide +kernel⟩, bg_in 1796 (by decide +kernel) rfl, bg_in 85 (by decide +kernel) rfl, by decide +kernel⟩
theorem kt_X12_countWarm : Cond.instanceMethod yX12_countWarm ∈ bg_L := bg_in 1795 (by decide +kernel) rfl
theorem ke_X12_countWarm : Cond.selects RX12 yX12_countWarm yX12_countWarm ∈ bg_L := bg_in 42 (by decide +kernel) rfl
theorem kc_X12_wouldJoin : (yX12_wouldJoin.cls ≠ "java/lang/invoke/MethodHandle" ∧ yX12_wouldJoin.cls ≠ "java/lang/invoke/VarHandle" ∧ (parseMethodDescriptor yX12_wouldJoin.desc).map (fun d => d.parameters.length) = some 2) ∧ Cond.code yX12_wouldJoin cX12_wouldJoin 3 (some .boolean) ∈ bg_L ∧ Cond.initialized yX12_wouldJoin.cls ∈ bg_L ∧ plainName yX12_wouldJoin.cls = true := ⟨⟨by decide +kernel, by decide +kernel, by decide +kernel⟩, bg_in 1820 (by decide +kernel) rfl, bg_in 85 (by decide +kernel) rfl, by decide +kernel⟩
theorem kt_X12_wouldJoin : Cond.instanceMethod yX12_wouldJoin ∈ bg_L := bg_in 1819 (by decide +kernel) rfl
theorem ke_X12_wouldJoin : Cond.selects RX12 yX12_wouldJoin yX12_wouldJoin ∈ bg_L := bg_in 46 (by decide +kernel) rfl
theorem kc_X12_areTooMuch : (yX12_areTooMuch.cls ≠ "java/lang/invoke/MethodHandle" ∧ yX12_areTooMuch.cls ≠ "java/lang/invoke/VarHandle" ∧ (parseMethodDescriptor yX12_areTooMuch.desc).map (fun d => d.parameters.length) = some 2) ∧ Cond.code yX12_areTooMuch cX12_areTooMuch 4 (some .boolean) ∈ bg_L ∧ Cond.initialized yX12_areTooMuch.cls ∈ bg_L ∧ plainName yX12_areTooMuch.cls = true := ⟨⟨by decide +kernel, by decide +kernel, by decide +kernel⟩, bg_in 1816 (by decide +kernel) rfl, bg_in 85 (by decide +kernel) rfl, by decide +kernel⟩
theorem kt_X12_areTooMuch : Cond.instanceMethod yX12_areTooMuch ∈ bg_L := bg_in 1815 (by decide +kernel) rfl
theorem ke_X12_areTooMuch : Cond.selects RX12 yX12_areTooMuch yX12_areTooMuch ∈ bg_L := bg_in 45 (by decide +kernel) rfl
theorem kc_X12_copy : (yX12_copy.cls ≠ "java/lang/invoke/MethodHandle" ∧ yX12_copy.cls ≠ "java/lang/invoke/VarHandle" ∧ (parseMethodDescriptor yX12_copy.desc).map (fun d => d.parameters.length) = some 4) ∧ Cond.code yX12_copy cX12_copy 4 none ∈ bg_L ∧ Cond.initialized yX12_copy.cls ∈ bg_L ∧ plainName yX12_copy.cls = true := ⟨⟨by decide +kernel, by decide +kernel, by decide +kernel⟩, bg_in 1713 (by decide +kernel) rfl, bg_in 85 (by decide +kernel) rfl, by decide +kernel⟩
theorem kt_X12_copy : Cond.static yX12_copy ∈ bg_L := bg_in 1712 (by decide +kernel) rfl
theorem kc_X12_record : (yX12_record.cls ≠ "java/lang/invoke/MethodHandle" ∧ yX12_record.cls ≠ "java/lang/invoke/VarHandle" ∧ (parseMethodDescriptor yX12_record.desc).map (fun d => d.parameters.length) = some 0) ∧ Cond.code yX12_record cX12_record 2 none ∈ bg_L ∧ Cond.initialized yX12_record.cls ∈ bg_L ∧ plainName yX12_record.cls = true := ⟨⟨by decide +kernel, by decide +kernel, by decide +kernel⟩, bg_in 1740 (by decide +kernel) rfl, bg_in 85 (by decide +kernel) rfl, by decide +kernel⟩
theorem kt_X12_record : Cond.instanceMethod yX12_record ∈ bg_L := bg_in 1739 (by decide +kernel) rfl
theorem ke_X12_record : Cond.selects RX12 yX12_record yX12_record ∈ bg_L := bg_in 34 (by decide +kernel) rfl
theorem kc_X12_keep : (yX12_keep.cls ≠ "java/lang/invoke/MethodHandle" ∧ yX12_keep.cls ≠ "java/lang/invoke/VarHandle" ∧ (parseMethodDescriptor yX12_keep.desc).map (fun d => d.parameters.length) = some 0) ∧ Cond.code yX12_keep cX12_keep 1 none ∈ bg_L ∧ Cond.initialized yX12_keep.cls ∈ bg_L ∧ plainName yX12_keep.cls = true := ⟨⟨by decide +kernel, by decide +kernel, by decide +kernel⟩, bg_in 1710 (by decide +kernel) rfl, bg_in 85 (by decide +kernel) rfl, by decide +kernel⟩
theorem kt_X12_keep : Cond.instanceMethod yX12_keep ∈ bg_L := bg_in 1709 (by decide +kernel) rfl
theorem ke_X12_keep : Cond.selects RX12 yX12_keep yX12_keep ∈ bg_L := bg_in 28 (by decide +kernel) rfl
theorem kc_X12_doFold : (yX12_doFold.cls ≠ "java/lang/invoke/MethodHandle" ∧ yX12_doFold.cls ≠ "java/lang/invoke/VarHandle" ∧ (parseMethodDescriptor yX12_doFold.desc).map (fun d => d.parameters.length) = some 2) ∧ Cond.code yX12_doFold cX12_doFold 3 (some .int) ∈ bg_L ∧ Cond.initialized yX12_doFold.cls ∈ bg_L ∧ plainName yX12_doFold.cls = true := ⟨⟨by decide +kernel, by decide +kernel, by decide +kernel⟩, bg_in 1720 (by decide +kernel) rfl, bg_in 85 (by decide +kernel) rfl, by decide +kernel⟩
theorem kt_X12_doFold : Cond.instanceMethod yX12_doFold ∈ bg_L := bg_in 1719 (by decide +kernel) rfl
theorem ke_X12_doFold : Cond.selects RX12 yX12_doFold yX12_doFold ∈ bg_L := bg_in 29 (by decide +kernel) rfl
theorem kc_X12_ends : (yX12_ends.cls ≠ "java/lang/invoke/MethodHandle" ∧ yX12_ends.cls ≠ "java/lang/invoke/VarHandle" ∧ (parseMethodDescriptor yX12_ends.desc).map (fun d => d.parameters.length) = some 1) ∧ Cond.code yX12_ends cX12_ends 2 (some .int) ∈ bg_L ∧ Cond.initialized yX12_ends.cls ∈ bg_L ∧ plainName yX12_ends.cls = true := ⟨⟨by decide +kernel, by decide +kernel, by decide +kernel⟩, bg_in 1736 (by decide +kernel) rfl, bg_in 85 (by decide +kernel) rfl, by decide +kernel⟩
theorem kt_X12_ends : Cond.instanceMethod yX12_ends ∈ bg_L := bg_in 1735 (by decide +kernel) rfl
theorem ke_X12_ends : Cond.selects RX12 yX12_ends yX12_ends ∈ bg_L := bg_in 33 (by decide +kernel) rfl
theorem kc_X12_doRoll : (yX12_doRoll.cls ≠ "java/lang/invoke/MethodHandle" ∧ yX12_doRoll.cls ≠ "java/lang/invoke/VarHandle" ∧ (parseMethodDescriptor yX12_doRoll.desc).map (fun d => d.parameters.length) = some 2) ∧ Cond.code yX12_doRoll cX12_doRoll 3 (some .int) ∈ bg_L ∧ Cond.initialized yX12_doRoll.cls ∈ bg_L ∧ plainName yX12_doRoll.cls = true := ⟨⟨by decide +kernel, by decide +kernel, by decide +kernel⟩, bg_in 1748 (by decide +kernel) rfl, bg_in 85 (by decide +kernel) rfl, by decide +kernel⟩
theorem kt_X12_doRoll : Cond.instanceMethod yX12_doRoll ∈ bg_L := bg_in 1747 (by decide +kernel) rfl
theorem ke_X12_doRoll : Cond.selects RX12 yX12_doRoll yX12_doRoll ∈ bg_L := bg_in 35 (by decide +kernel) rfl
theorem kc_X12_doDust : (yX12_doDust.cls ≠ "java/lang/invoke/MethodHandle" ∧ yX12_doDust.cls ≠ "java/lang/invoke/VarHandle" ∧ (parseMethodDescriptor yX12_doDust.desc).map (fun d => d.parameters.length) = some 1) ∧ Cond.code yX12_doDust cX12_doDust 2 (some .int) ∈ bg_L ∧ Cond.initialized yX12_doDust.cls ∈ bg_L ∧ plainName yX12_doDust.cls = true := ⟨⟨by decide +kernel, by decide +kernel, by decide +kernel⟩, bg_in 1756 (by decide +kernel) rfl, bg_in 85 (by decide +kernel) rfl, by decide +kernel⟩
theorem kt_X12_doDust : Cond.instanceMethod yX12_doDust ∈ bg_L := bg_in 1755 (by decide +kernel) rfl
theorem ke_X12_doDust : Cond.selects RX12 yX12_doDust yX12_doDust ∈ bg_L := bg_in 36 (by decide +kernel) rfl
theorem kc_X12_doSeal : (yX12_doSeal.cls ≠ "java/lang/invoke/MethodHandle" ∧ yX12_doSeal.cls ≠ "java/lang/invoke/VarHandle" ∧ (parseMethodDescriptor yX12_doSeal.desc).map (fun d => d.parameters.length) = some 1) ∧ Cond.code yX12_doSeal cX12_doSeal 2 (some .int) ∈ bg_L ∧ Cond.initialized yX12_doSeal.cls ∈ bg_L ∧ plainName yX12_doSeal.cls = true := ⟨⟨by decide +kernel, by decide +kernel, by decide +kernel⟩, bg_in 1764 (by decide +kernel) rfl, bg_in 85 (by decide +kernel) rfl, by decide +kernel⟩
theorem kt_X12_doSeal : Cond.instanceMethod yX12_doSeal ∈ bg_L := bg_in 1763 (by decide +kernel) rfl
theorem ke_X12_doSeal : Cond.selects RX12 yX12_doSeal yX12_doSeal ∈ bg_L := bg_in 37 (by decide +kernel) rfl
theorem kc_X12_doCool : (yX12_doCool.cls ≠ "java/lang/invoke/MethodHandle" ∧ yX12_doCool.cls ≠ "java/lang/invoke/VarHandle" ∧ (parseMethodDescriptor yX12_doCool.desc).map (fun d => d.parameters.length) = some 1) ∧ Cond.code yX12_doCool cX12_doCool 2 (some .int) ∈ bg_L ∧ Cond.initialized yX12_doCool.cls ∈ bg_L ∧ plainName yX12_doCool.cls = true := ⟨⟨by decide +kernel, by decide +kernel, by decide +kernel⟩, bg_in 1776 (by decide +kernel) rfl, bg_in 85 (by decide +kernel) rfl, by decide +kernel⟩
theorem kt_X12_doCool : Cond.instanceMethod yX12_doCool ∈ bg_L := bg_in 1775 (by decide +kernel) rfl
theorem ke_X12_doCool : Cond.selects RX12 yX12_doCool yX12_doCool ∈ bg_L := bg_in 39 (by decide +kernel) rfl
theorem kc_X12_doTakeOut : (yX12_doTakeOut.cls ≠ "java/lang/invoke/MethodHandle" ∧ yX12_doTakeOut.cls ≠ "java/lang/invoke/VarHandle" ∧ (parseMethodDescriptor yX12_doTakeOut.desc).map (fun d => d.parameters.length) = some 1) ∧ Cond.code yX12_doTakeOut cX12_doTakeOut 2 (some .int) ∈ bg_L ∧ Cond.initialized yX12_doTakeOut.cls ∈ bg_L ∧ plainName yX12_doTakeOut.cls = true := ⟨⟨by decide +kernel, by decide +kernel, by decide +kernel⟩, bg_in 1784 (by decide +kernel) rfl, bg_in 85 (by decide +kernel) rfl, by decide +kernel⟩
theorem kt_X12_doTakeOut : Cond.instanceMethod yX12_doTakeOut ∈ bg_L := bg_in 1783 (by decide +kernel) rfl
theorem ke_X12_doTakeOut : Cond.selects RX12 yX12_doTakeOut yX12_doTakeOut ∈ bg_L := bg_in 40 (by decide +kernel) rfl
theorem kc_X12_doHours : (yX12_doHours.cls ≠ "java/lang/invoke/MethodHandle" ∧ yX12_doHours.cls ≠ "java/lang/invoke/VarHandle" ∧ (parseMethodDescriptor yX12_doHours.desc).map (fun d => d.parameters.length) = some 1) ∧ Cond.code yX12_doHours cX12_doHours 4 (some .int) ∈ bg_L ∧ Cond.initialized yX12_doHours.cls ∈ bg_L ∧ plainName yX12_doHours.cls = true := ⟨⟨by decide +kernel, by decide +kernel, by decide +kernel⟩, bg_in 1792 (by decide +kernel) rfl, bg_in 85 (by decide +kernel) rfl, by decide +kernel⟩
theorem kt_X12_doHours : Cond.instanceMethod yX12_doHours ∈ bg_L := bg_in 1791 (by decide +kernel) rfl
theorem ke_X12_doHours : Cond.selects RX12 yX12_doHours yX12_doHours ∈ bg_L := bg_in 41 (by decide +kernel) rfl
theorem kc_X12_doCut : (yX12_doCut.cls ≠ "java/lang/invoke/MethodHandle" ∧ yX12_doCut.cls ≠ "java/lang/invoke/VarHandle" ∧ (parseMethodDescriptor yX12_doCut.desc).map (fun d => d.parameters.length) = some 1) ∧ Cond.code yX12_doCut cX12_doCut 2 (some .int) ∈ bg_L ∧ Cond.initialized yX12_doCut.cls ∈ bg_L ∧ plainName yX12_doCut.cls = true := ⟨⟨by decide +kernel, by decide +kernel, by decide +kernel⟩, bg_in 1804 (by decide +kernel) rfl, bg_in 85 (by decide +kernel) rfl, by decide +kernel⟩
theorem kt_X12_doCut : Cond.instanceMethod yX12_doCut ∈ bg_L := bg_in 1803 (by decide +kernel) rfl
theorem ke_X12_doCut : Cond.selects RX12 yX12_doCut yX12_doCut ∈ bg_L := bg_in 43 (by decide +kernel) rfl
theorem kc_X12_doStack : (yX12_doStack.cls ≠ "java/lang/invoke/MethodHandle" ∧ yX12_doStack.cls ≠ "java/lang/invoke/VarHandle" ∧ (parseMethodDescriptor yX12_doStack.desc).map (fun d => d.parameters.length) = some 2) ∧ Cond.code yX12_doStack cX12_doStack 5 (some .int) ∈ bg_L ∧ Cond.initialized yX12_doStack.cls ∈ bg_L ∧ plainName yX12_doStack.cls = true := ⟨⟨by decide +kernel, by decide +kernel, by decide +kernel⟩, bg_in 1812 (by decide +kernel) rfl, bg_in 85 (by decide +kernel) rfl, by decide +kernel⟩
theorem kt_X12_doStack : Cond.instanceMethod yX12_doStack ∈ bg_L := bg_in 1811 (by decide +kernel) rfl
theorem ke_X12_doStack : Cond.selects RX12 yX12_doStack yX12_doStack ∈ bg_L := bg_in 44 (by decide +kernel) rfl
theorem kc_X12_doButter : (yX12_doButter.cls ≠ "java/lang/invoke/MethodHandle" ∧ yX12_doButter.cls ≠ "java/lang/invoke/VarHandle" ∧ (parseMethodDescriptor yX12_doButter.desc).map (fun d => d.parameters.length) = some 2) ∧ Cond.code yX12_doButter cX12_doButter 3 (some .int) ∈ bg_L ∧ Cond.initialized yX12_doButter.cls ∈ bg_L ∧ plainName yX12_doButter.cls = true := ⟨⟨by decide +kernel, by decide +kernel, by decide +kernel⟩, bg_in 1828 (by decide +kernel) rfl, bg_in 85 (by decide +kernel) rfl, by decide +kernel⟩
theorem kt_X12_doButter : Cond.instanceMethod yX12_doButter ∈ bg_L := bg_in 1827 (by decide +kernel) rfl
theorem ke_X12_doButter : Cond.selects RX12 yX12_doButter yX12_doButter ∈ bg_L := bg_in 47 (by decide +kernel) rfl
theorem kc_X12_write : (yX12_write.cls ≠ "java/lang/invoke/MethodHandle" ∧ yX12_write.cls ≠ "java/lang/invoke/VarHandle" ∧ (parseMethodDescriptor yX12_write.desc).map (fun d => d.parameters.length) = some 1) ∧ Cond.code yX12_write cX12_write 2 none ∈ bg_L ∧ Cond.initialized yX12_write.cls ∈ bg_L ∧ plainName yX12_write.cls = true := ⟨⟨by decide +kernel, by decide +kernel, by decide +kernel⟩, bg_in 1840 (by decide +kernel) rfl, bg_in 85 (by decide +kernel) rfl, by decide +kernel⟩
theorem kt_X12_write : Cond.instanceMethod yX12_write ∈ bg_L := bg_in 1839 (by decide +kernel) rfl
theorem ke_X12_write : Cond.selects RX12 yX12_write yX12_write ∈ bg_L := bg_in 48 (by decide +kernel) rfl
theorem kc_X12_writeNumber : (yX12_writeNumber.cls ≠ "java/lang/invoke/MethodHandle" ∧ yX12_writeNumber.cls ≠ "java/lang/invoke/VarHandle" ∧ (parseMethodDescriptor yX12_writeNumber.desc).map (fun d => d.parameters.length) = some 1) ∧ Cond.code yX12_writeNumber cX12_writeNumber 4 none ∈ bg_L ∧ Cond.initialized yX12_writeNumber.cls ∈ bg_L ∧ plainName yX12_writeNumber.cls = true := ⟨⟨by decide +kernel, by decide +kernel, by decide +kernel⟩, bg_in 1844 (by decide +kernel) rfl, bg_in 85 (by decide +kernel) rfl, by decide +kernel⟩
theorem kt_X12_writeNumber : Cond.instanceMethod yX12_writeNumber ∈ bg_L := bg_in 1843 (by decide +kernel) rfl
theorem ke_X12_writeNumber : Cond.selects RX12 yX12_writeNumber yX12_writeNumber ∈ bg_L := bg_in 49 (by decide +kernel) rfl
theorem kc_X12_byteAt : (yX12_byteAt.cls ≠ "java/lang/invoke/MethodHandle" ∧ yX12_byteAt.cls ≠ "java/lang/invoke/VarHandle" ∧ (parseMethodDescriptor yX12_byteAt.desc).map (fun d => d.parameters.length) = some 1) ∧ Cond.code yX12_byteAt cX12_byteAt 2 (some .int) ∈ bg_L ∧ Cond.initialized yX12_byteAt.cls ∈ bg_L ∧ plainName yX12_byteAt.cls = true := ⟨⟨by decide +kernel, by decide +kernel, by decide +kernel⟩, bg_in 1896 (by decide +kernel) rfl, bg_in 85 (by decide +kernel) rfl, by decide +kernel⟩
theorem kt_X12_byteAt : Cond.instanceMethod yX12_byteAt ∈ bg_L := bg_in 1895 (by decide +kernel) rfl
theorem ke_X12_byteAt : Cond.selects RX12 yX12_byteAt yX12_byteAt ∈ bg_L := bg_in 53 (by decide +kernel) rfl
theorem kc_X12_isLetter : (yX12_isLetter.cls ≠ "java/lang/invoke/MethodHandle" ∧ yX12_isLetter.cls ≠ "java/lang/invoke/VarHandle" ∧ (parseMethodDescriptor yX12_isLetter.desc).map (fun d => d.parameters.length) = some 1) ∧ Cond.code yX12_isLetter cX12_isLetter 2 (some .boolean) ∈ bg_L ∧ Cond.initialized yX12_isLetter.cls ∈ bg_L ∧ plainName yX12_isLetter.cls = true := ⟨⟨by decide +kernel, by decide +kernel, by decide +kernel⟩, bg_in 1900 (by decide +kernel) rfl, bg_in 85 (by decide +kernel) rfl, by decide +kernel⟩
theorem kt_X12_isLetter : Cond.instanceMethod yX12_isLetter ∈ bg_L := bg_in 1899 (by decide +kernel) rfl
theorem ke_X12_isLetter : Cond.selects RX12 yX12_isLetter yX12_isLetter ∈ bg_L := bg_in 54 (by decide +kernel) rfl
theorem kc_X12_isDigit : (yX12_isDigit.cls ≠ "java/lang/invoke/MethodHandle" ∧ yX12_isDigit.cls ≠ "java/lang/invoke/VarHandle" ∧ (parseMethodDescriptor yX12_isDigit.desc).map (fun d => d.parameters.length) = some 1) ∧ Cond.code yX12_isDigit cX12_isDigit 2 (some .boolean) ∈ bg_L ∧ Cond.initialized yX12_isDigit.cls ∈ bg_L ∧ plainName yX12_isDigit.cls = true := ⟨⟨by decide +kernel, by decide +kernel, by decide +kernel⟩, bg_in 1904 (by decide +kernel) rfl, bg_in 85 (by decide +kernel) rfl, by decide +kernel⟩
theorem kt_X12_isDigit : Cond.instanceMethod yX12_isDigit ∈ bg_L := bg_in 1903 (by decide +kernel) rfl
theorem ke_X12_isDigit : Cond.selects RX12 yX12_isDigit yX12_isDigit ∈ bg_L := bg_in 55 (by decide +kernel) rfl
theorem kc_X12_scan : (yX12_scan.cls ≠ "java/lang/invoke/MethodHandle" ∧ yX12_scan.cls ≠ "java/lang/invoke/VarHandle" ∧ (parseMethodDescriptor yX12_scan.desc).map (fun d => d.parameters.length) = some 0) ∧ Cond.code yX12_scan cX12_scan 1 none ∈ bg_L ∧ Cond.initialized yX12_scan.cls ∈ bg_L ∧ plainName yX12_scan.cls = true := ⟨⟨by decide +kernel, by decide +kernel, by decide +kernel⟩, bg_in 1892 (by decide +kernel) rfl, bg_in 85 (by decide +kernel) rfl, by decide +kernel⟩
theorem kt_X12_scan : Cond.instanceMethod yX12_scan ∈ bg_L := bg_in 1891 (by decide +kernel) rfl
theorem ke_X12_scan : Cond.selects RX12 yX12_scan yX12_scan ∈ bg_L := bg_in 52 (by decide +kernel) rfl
theorem kc_X12_isSymbol : (yX12_isSymbol.cls ≠ "java/lang/invoke/MethodHandle" ∧ yX12_isSymbol.cls ≠ "java/lang/invoke/VarHandle" ∧ (parseMethodDescriptor yX12_isSymbol.desc).map (fun d => d.parameters.length) = some 1) ∧ Cond.code yX12_isSymbol cX12_isSymbol 2 (some .boolean) ∈ bg_L ∧ Cond.initialized yX12_isSymbol.cls ∈ bg_L ∧ plainName yX12_isSymbol.cls = true := ⟨⟨by decide +kernel, by decide +kernel, by decide +kernel⟩, bg_in 1944 (by decide +kernel) rfl, bg_in 85 (by decide +kernel) rfl, by decide +kernel⟩
theorem kt_X12_isSymbol : Cond.instanceMethod yX12_isSymbol ∈ bg_L := bg_in 1943 (by decide +kernel) rfl
theorem ke_X12_isSymbol : Cond.selects RX12 yX12_isSymbol yX12_isSymbol ∈ bg_L := bg_in 64 (by decide +kernel) rfl
theorem kc_X12_check : (yX12_check.cls ≠ "java/lang/invoke/MethodHandle" ∧ yX12_check.cls ≠ "java/lang/invoke/VarHandle" ∧ (parseMethodDescriptor yX12_check.desc).map (fun d => d.parameters.length) = some 2) ∧ Cond.code yX12_check cX12_check 3 none ∈ bg_L ∧ Cond.initialized yX12_check.cls ∈ bg_L ∧ plainName yX12_check.cls = true := ⟨⟨by decide +kernel, by decide +kernel, by decide +kernel⟩, bg_in 1919 (by decide +kernel) rfl, bg_in 85 (by decide +kernel) rfl, by decide +kernel⟩
theorem kt_X12_check : Cond.instanceMethod yX12_check ∈ bg_L := bg_in 1918 (by decide +kernel) rfl
theorem ke_X12_check : Cond.selects RX12 yX12_check yX12_check ∈ bg_L := bg_in 58 (by decide +kernel) rfl
theorem kc_X12_advance : (yX12_advance.cls ≠ "java/lang/invoke/MethodHandle" ∧ yX12_advance.cls ≠ "java/lang/invoke/VarHandle" ∧ (parseMethodDescriptor yX12_advance.desc).map (fun d => d.parameters.length) = some 0) ∧ Cond.code yX12_advance cX12_advance 1 none ∈ bg_L ∧ Cond.initialized yX12_advance.cls ∈ bg_L ∧ plainName yX12_advance.cls = true := ⟨⟨by decide +kernel, by decide +kernel, by decide +kernel⟩, bg_in 1923 (by decide +kernel) rfl, bg_in 85 (by decide +kernel) rfl, by decide +kernel⟩
theorem kt_X12_advance : Cond.instanceMethod yX12_advance ∈ bg_L := bg_in 1922 (by decide +kernel) rfl
theorem ke_X12_advance : Cond.selects RX12 yX12_advance yX12_advance ∈ bg_L := bg_in 59 (by decide +kernel) rfl
theorem kc_X12_value : (yX12_value.cls ≠ "java/lang/invoke/MethodHandle" ∧ yX12_value.cls ≠ "java/lang/invoke/VarHandle" ∧ (parseMethodDescriptor yX12_value.desc).map (fun d => d.parameters.length) = some 0) ∧ Cond.code yX12_value cX12_value 3 (some .int) ∈ bg_L ∧ Cond.initialized yX12_value.cls ∈ bg_L ∧ plainName yX12_value.cls = true := ⟨⟨by decide +kernel, by decide +kernel, by decide +kernel⟩, bg_in 1935 (by decide +kernel) rfl, bg_in 85 (by decide +kernel) rfl, by decide +kernel⟩
theorem kt_X12_value : Cond.instanceMethod yX12_value ∈ bg_L := bg_in 1934 (by decide +kernel) rfl
theorem ke_X12_value : Cond.selects RX12 yX12_value yX12_value ∈ bg_L := bg_in 62 (by decide +kernel) rfl
theorem kc_X12_look : (yX12_look.cls ≠ "java/lang/invoke/MethodHandle" ∧ yX12_look.cls ≠ "java/lang/invoke/VarHandle" ∧ (parseMethodDescriptor yX12_look.desc).map (fun d => d.parameters.length) = some 2) ∧ Cond.code yX12_look cX12_look 4 (some .int) ∈ bg_L ∧ Cond.initialized yX12_look.cls ∈ bg_L ∧ plainName yX12_look.cls = true := ⟨⟨by decide +kernel, by decide +kernel, by decide +kernel⟩, bg_in 1931 (by decide +kernel) rfl, bg_in 85 (by decide +kernel) rfl, by decide +kernel⟩
theorem kt_X12_look : Cond.instanceMethod yX12_look ∈ bg_L := bg_in 1930 (by decide +kernel) rfl
theorem ke_X12_look : Cond.selects RX12 yX12_look yX12_look ∈ bg_L := bg_in 61 (by decide +kernel) rfl
theorem kc_X12_finish : (yX12_finish.cls ≠ "java/lang/invoke/MethodHandle" ∧ yX12_finish.cls ≠ "java/lang/invoke/VarHandle" ∧ (parseMethodDescriptor yX12_finish.desc).map (fun d => d.parameters.length) = some 0) ∧ Cond.code yX12_finish cX12_finish 1 (some .int) ∈ bg_L ∧ Cond.initialized yX12_finish.cls ∈ bg_L ∧ plainName yX12_finish.cls = true := ⟨⟨by decide +kernel, by decide +kernel, by decide +kernel⟩, bg_in 1967 (by decide +kernel) rfl, bg_in 85 (by decide +kernel) rfl, by decide +kernel⟩
theorem kt_X12_finish : Cond.instanceMethod yX12_finish ∈ bg_L := bg_in 1966 (by decide +kernel) rfl
theorem ke_X12_finish : Cond.selects RX12 yX12_finish yX12_finish ∈ bg_L := bg_in 69 (by decide +kernel) rfl
theorem kc_X12_isWord : (yX12_isWord.cls ≠ "java/lang/invoke/MethodHandle" ∧ yX12_isWord.cls ≠ "java/lang/invoke/VarHandle" ∧ (parseMethodDescriptor yX12_isWord.desc).map (fun d => d.parameters.length) = some 1) ∧ Cond.code yX12_isWord cX12_isWord 4 (some .boolean) ∈ bg_L ∧ Cond.initialized yX12_isWord.cls ∈ bg_L ∧ plainName yX12_isWord.cls = true := ⟨⟨by decide +kernel, by decide +kernel, by decide +kernel⟩, bg_in 1913 (by decide +kernel) rfl, bg_in 85 (by decide +kernel) rfl, by decide +kernel⟩
theorem kt_X12_isWord : Cond.instanceMethod yX12_isWord ∈ bg_L := bg_in 1912 (by decide +kernel) rfl
theorem ke_X12_isWord : Cond.selects RX12 yX12_isWord yX12_isWord ∈ bg_L := bg_in 57 (by decide +kernel) rfl
theorem kc_X12_isLayerHere : (yX12_isLayerHere.cls ≠ "java/lang/invoke/MethodHandle" ∧ yX12_isLayerHere.cls ≠ "java/lang/invoke/VarHandle" ∧ (parseMethodDescriptor yX12_isLayerHere.desc).map (fun d => d.parameters.length) = some 0) ∧ Cond.code yX12_isLayerHere cX12_isLayerHere 1 (some .boolean) ∈ bg_L ∧ Cond.initialized yX12_isLayerHere.cls ∈ bg_L ∧ plainName yX12_isLayerHere.cls = true := ⟨⟨by decide +kernel, by decide +kernel, by decide +kernel⟩, bg_in 1957 (by decide +kernel) rfl, bg_in 85 (by decide +kernel) rfl, by decide +kernel⟩
theorem kt_X12_isLayerHere : Cond.instanceMethod yX12_isLayerHere ∈ bg_L := bg_in 1956 (by decide +kernel) rfl
theorem ke_X12_isLayerHere : Cond.selects RX12 yX12_isLayerHere yX12_isLayerHere ∈ bg_L := bg_in 67 (by decide +kernel) rfl
theorem kc_X12_readNumber : (yX12_readNumber.cls ≠ "java/lang/invoke/MethodHandle" ∧ yX12_readNumber.cls ≠ "java/lang/invoke/VarHandle" ∧ (parseMethodDescriptor yX12_readNumber.desc).map (fun d => d.parameters.length) = some 2) ∧ Cond.code yX12_readNumber cX12_readNumber 4 (some .int) ∈ bg_L ∧ Cond.initialized yX12_readNumber.cls ∈ bg_L ∧ plainName yX12_readNumber.cls = true := ⟨⟨by decide +kernel, by decide +kernel, by decide +kernel⟩, bg_in 1927 (by decide +kernel) rfl, bg_in 85 (by decide +kernel) rfl, by decide +kernel⟩
theorem kt_X12_readNumber : Cond.instanceMethod yX12_readNumber ∈ bg_L := bg_in 1926 (by decide +kernel) rfl
theorem ke_X12_readNumber : Cond.selects RX12 yX12_readNumber yX12_readNumber ∈ bg_L := bg_in 60 (by decide +kernel) rfl
theorem kc_X12_readLayer : (yX12_readLayer.cls ≠ "java/lang/invoke/MethodHandle" ∧ yX12_readLayer.cls ≠ "java/lang/invoke/VarHandle" ∧ (parseMethodDescriptor yX12_readLayer.desc).map (fun d => d.parameters.length) = some 1) ∧ Cond.code yX12_readLayer cX12_readLayer 4 none ∈ bg_L ∧ Cond.initialized yX12_readLayer.cls ∈ bg_L ∧ plainName yX12_readLayer.cls = true := ⟨⟨by decide +kernel, by decide +kernel, by decide +kernel⟩, bg_in 1953 (by decide +kernel) rfl, bg_in 85 (by decide +kernel) rfl, by decide +kernel⟩
theorem kt_X12_readLayer : Cond.instanceMethod yX12_readLayer ∈ bg_L := bg_in 1952 (by decide +kernel) rfl
theorem ke_X12_readLayer : Cond.selects RX12 yX12_readLayer yX12_readLayer ∈ bg_L := bg_in 66 (by decide +kernel) rfl
theorem kc_X12_expect : (yX12_expect.cls ≠ "java/lang/invoke/MethodHandle" ∧ yX12_expect.cls ≠ "java/lang/invoke/VarHandle" ∧ (parseMethodDescriptor yX12_expect.desc).map (fun d => d.parameters.length) = some 1) ∧ Cond.code yX12_expect cX12_expect 2 none ∈ bg_L ∧ Cond.initialized yX12_expect.cls ∈ bg_L ∧ plainName yX12_expect.cls = true := ⟨⟨by decide +kernel, by decide +kernel, by decide +kernel⟩, bg_in 1940 (by decide +kernel) rfl, bg_in 85 (by decide +kernel) rfl, by decide +kernel⟩
theorem kt_X12_expect : Cond.instanceMethod yX12_expect ∈ bg_L := bg_in 1939 (by decide +kernel) rfl
theorem ke_X12_expect : Cond.selects RX12 yX12_expect yX12_expect ∈ bg_L := bg_in 63 (by decide +kernel) rfl
theorem kc_X12_readSheet : (yX12_readSheet.cls ≠ "java/lang/invoke/MethodHandle" ∧ yX12_readSheet.cls ≠ "java/lang/invoke/VarHandle" ∧ (parseMethodDescriptor yX12_readSheet.desc).map (fun d => d.parameters.length) = some 0) ∧ Cond.code yX12_readSheet cX12_readSheet 2 none ∈ bg_L ∧ Cond.initialized yX12_readSheet.cls ∈ bg_L ∧ plainName yX12_readSheet.cls = true := ⟨⟨by decide +kernel, by decide +kernel, by decide +kernel⟩, bg_in 1948 (by decide +kernel) rfl, bg_in 85 (by decide +kernel) rfl, by decide +kernel⟩
theorem kt_X12_readSheet : Cond.instanceMethod yX12_readSheet ∈ bg_L := bg_in 1947 (by decide +kernel) rfl
theorem ke_X12_readSheet : Cond.selects RX12 yX12_readSheet yX12_readSheet ∈ bg_L := bg_in 65 (by decide +kernel) rfl
theorem kc_X12_isLength : (yX12_isLength.cls ≠ "java/lang/invoke/MethodHandle" ∧ yX12_isLength.cls ≠ "java/lang/invoke/VarHandle" ∧ (parseMethodDescriptor yX12_isLength.desc).map (fun d => d.parameters.length) = some 1) ∧ Cond.code yX12_isLength cX12_isLength 2 (some .boolean) ∈ bg_L ∧ Cond.initialized yX12_isLength.cls ∈ bg_L ∧ plainName yX12_isLength.cls = true := ⟨⟨by decide +kernel, by decide +kernel, by decide +kernel⟩, bg_in 1884 (by decide +kernel) rfl, bg_in 85 (by decide +kernel) rfl, by decide +kernel⟩
theorem kt_X12_isLength : Cond.instanceMethod yX12_isLength ∈ bg_L := bg_in 1883 (by decide +kernel) rfl
theorem ke_X12_isLength : Cond.selects RX12 yX12_isLength yX12_isLength ∈ bg_L := bg_in 50 (by decide +kernel) rfl
theorem kc_X12_startText : (yX12_startText.cls ≠ "java/lang/invoke/MethodHandle" ∧ yX12_startText.cls ≠ "java/lang/invoke/VarHandle" ∧ (parseMethodDescriptor yX12_startText.desc).map (fun d => d.parameters.length) = some 1) ∧ Cond.code yX12_startText cX12_startText 2 none ∈ bg_L ∧ Cond.initialized yX12_startText.cls ∈ bg_L ∧ plainName yX12_startText.cls = true := ⟨⟨by decide +kernel, by decide +kernel, by decide +kernel⟩, bg_in 1888 (by decide +kernel) rfl, bg_in 85 (by decide +kernel) rfl, by decide +kernel⟩
theorem kt_X12_startText : Cond.instanceMethod yX12_startText ∈ bg_L := bg_in 1887 (by decide +kernel) rfl
theorem ke_X12_startText : Cond.selects RX12 yX12_startText yX12_startText ∈ bg_L := bg_in 51 (by decide +kernel) rfl
theorem kc_X12_readBench : (yX12_readBench.cls ≠ "java/lang/invoke/MethodHandle" ∧ yX12_readBench.cls ≠ "java/lang/invoke/VarHandle" ∧ (parseMethodDescriptor yX12_readBench.desc).map (fun d => d.parameters.length) = some 0) ∧ Cond.code yX12_readBench cX12_readBench 4 none ∈ bg_L ∧ Cond.initialized yX12_readBench.cls ∈ bg_L ∧ plainName yX12_readBench.cls = true := ⟨⟨by decide +kernel, by decide +kernel, by decide +kernel⟩, bg_in 1908 (by decide +kernel) rfl, bg_in 85 (by decide +kernel) rfl, by decide +kernel⟩
theorem kt_X12_readBench : Cond.instanceMethod yX12_readBench ∈ bg_L := bg_in 1907 (by decide +kernel) rfl
theorem ke_X12_readBench : Cond.selects RX12 yX12_readBench yX12_readBench ∈ bg_L := bg_in 56 (by decide +kernel) rfl
theorem kc_X12_isFaulty : (yX12_isFaulty.cls ≠ "java/lang/invoke/MethodHandle" ∧ yX12_isFaulty.cls ≠ "java/lang/invoke/VarHandle" ∧ (parseMethodDescriptor yX12_isFaulty.desc).map (fun d => d.parameters.length) = some 0) ∧ Cond.code yX12_isFaulty cX12_isFaulty 1 (some .boolean) ∈ bg_L ∧ Cond.initialized yX12_isFaulty.cls ∈ bg_L ∧ plainName yX12_isFaulty.cls = true := ⟨⟨by decide +kernel, by decide +kernel, by decide +kernel⟩, bg_in 1963 (by decide +kernel) rfl, bg_in 85 (by decide +kernel) rfl, by decide +kernel⟩
theorem kt_X12_isFaulty : Cond.instanceMethod yX12_isFaulty ∈ bg_L := bg_in 1962 (by decide +kernel) rfl
theorem ke_X12_isFaulty : Cond.selects RX12 yX12_isFaulty yX12_isFaulty ∈ bg_L := bg_in 68 (by decide +kernel) rfl
theorem kc_X12_orderHere : (yX12_orderHere.cls ≠ "java/lang/invoke/MethodHandle" ∧ yX12_orderHere.cls ≠ "java/lang/invoke/VarHandle" ∧ (parseMethodDescriptor yX12_orderHere.desc).map (fun d => d.parameters.length) = some 0) ∧ Cond.code yX12_orderHere cX12_orderHere 2 (some .int) ∈ bg_L ∧ Cond.initialized yX12_orderHere.cls ∈ bg_L ∧ plainName yX12_orderHere.cls = true := ⟨⟨by decide +kernel, by decide +kernel, by decide +kernel⟩, bg_in 1979 (by decide +kernel) rfl, bg_in 85 (by decide +kernel) rfl, by decide +kernel⟩
theorem kt_X12_orderHere : Cond.instanceMethod yX12_orderHere ∈ bg_L := bg_in 1978 (by decide +kernel) rfl
theorem ke_X12_orderHere : Cond.selects RX12 yX12_orderHere yX12_orderHere ∈ bg_L := bg_in 71 (by decide +kernel) rfl
theorem kc_X12_readSecond : (yX12_readSecond.cls ≠ "java/lang/invoke/MethodHandle" ∧ yX12_readSecond.cls ≠ "java/lang/invoke/VarHandle" ∧ (parseMethodDescriptor yX12_readSecond.desc).map (fun d => d.parameters.length) = some 1) ∧ Cond.code yX12_readSecond cX12_readSecond 2 (some .int) ∈ bg_L ∧ Cond.initialized yX12_readSecond.cls ∈ bg_L ∧ plainName yX12_readSecond.cls = true := ⟨⟨by decide +kernel, by decide +kernel, by decide +kernel⟩, bg_in 1983 (by decide +kernel) rfl, bg_in 85 (by decide +kernel) rfl, by decide +kernel⟩
theorem kt_X12_readSecond : Cond.instanceMethod yX12_readSecond ∈ bg_L := bg_in 1982 (by decide +kernel) rfl
theorem ke_X12_readSecond : Cond.selects RX12 yX12_readSecond yX12_readSecond ∈ bg_L := bg_in 72 (by decide +kernel) rfl
theorem kc_X12_readOrder : (yX12_readOrder.cls ≠ "java/lang/invoke/MethodHandle" ∧ yX12_readOrder.cls ≠ "java/lang/invoke/VarHandle" ∧ (parseMethodDescriptor yX12_readOrder.desc).map (fun d => d.parameters.length) = some 0) ∧ Cond.code yX12_readOrder cX12_readOrder 3 none ∈ bg_L ∧ Cond.initialized yX12_readOrder.cls ∈ bg_L ∧ plainName yX12_readOrder.cls = true := ⟨⟨by decide +kernel, by decide +kernel, by decide +kernel⟩, bg_in 1975 (by decide +kernel) rfl, bg_in 85 (by decide +kernel) rfl, by decide +kernel⟩
theorem kt_X12_readOrder : Cond.instanceMethod yX12_readOrder ∈ bg_L := bg_in 1974 (by decide +kernel) rfl
theorem ke_X12_readOrder : Cond.selects RX12 yX12_readOrder yX12_readOrder ∈ bg_L := bg_in 70 (by decide +kernel) rfl
theorem kc_X12_does : (yX12_does.cls ≠ "java/lang/invoke/MethodHandle" ∧ yX12_does.cls ≠ "java/lang/invoke/VarHandle" ∧ (parseMethodDescriptor yX12_does.desc).map (fun d => d.parameters.length) = some 1) ∧ Cond.code yX12_does cX12_does 4 (some .int) ∈ bg_L ∧ Cond.initialized yX12_does.cls ∈ bg_L ∧ plainName yX12_does.cls = true := ⟨⟨by decide +kernel, by decide +kernel, by decide +kernel⟩, bg_in 1987 (by decide +kernel) rfl, bg_in 85 (by decide +kernel) rfl, by decide +kernel⟩
theorem kt_X12_does : Cond.instanceMethod yX12_does ∈ bg_L := bg_in 1986 (by decide +kernel) rfl
theorem ke_X12_does : Cond.selects RX12 yX12_does yX12_does ∈ bg_L := bg_in 73 (by decide +kernel) rfl
theorem kc_X11_loadBench : (yX11_loadBench.cls ≠ "java/lang/invoke/MethodHandle" ∧ yX11_loadBench.cls ≠ "java/lang/invoke/VarHandle" ∧ (parseMethodDescriptor yX11_loadBench.desc).map (fun d => d.parameters.length) = some 1) ∧ Cond.code yX11_loadBench cX11_loadBench 3 (some .int) ∈ bg_L ∧ Cond.initialized yX11_loadBench.cls ∈ bg_L ∧ plainName yX11_loadBench.cls = true := ⟨⟨by decide +kernel, by decide +kernel, by decide +kernel⟩, bg_in 453 (by decide +kernel) rfl, bg_in 75 (by decide +kernel) rfl, by decide +kernel⟩
theorem kt_X11_loadBench : Cond.instanceMethod yX11_loadBench ∈ bg_L := bg_in 451 (by decide +kernel) rfl
theorem ke_X11_loadBench : Cond.selects RX11 yX11_loadBench yX11_loadBench ∈ bg_L := bg_in 452 (by decide +kernel) rfl
theorem kc_X11_layerCount : (yX11_layerCount.cls ≠ "java/lang/invoke/MethodHandle" ∧ yX11_layerCount.cls ≠ "java/lang/invoke/VarHandle" ∧ (parseMethodDescriptor yX11_layerCount.desc).map (fun d => d.parameters.length) = some 1) ∧ Cond.code yX11_layerCount cX11_layerCount 2 (some .int) ∈ bg_L ∧ Cond.initialized yX11_layerCount.cls ∈ bg_L ∧ plainName yX11_layerCount.cls = true := ⟨⟨by decide +kernel, by decide +kernel, by decide +kernel⟩, bg_in 669 (by decide +kernel) rfl, bg_in 75 (by decide +kernel) rfl, by decide +kernel⟩
theorem kt_X11_layerCount : Cond.instanceMethod yX11_layerCount ∈ bg_L := bg_in 667 (by decide +kernel) rfl
theorem ke_X11_layerCount : Cond.selects RX11 yX11_layerCount yX11_layerCount ∈ bg_L := bg_in 668 (by decide +kernel) rfl
theorem kc_X11_butterLayerCount : (yX11_butterLayerCount.cls ≠ "java/lang/invoke/MethodHandle" ∧ yX11_butterLayerCount.cls ≠ "java/lang/invoke/VarHandle" ∧ (parseMethodDescriptor yX11_butterLayerCount.desc).map (fun d => d.parameters.length) = some 1) ∧ Cond.code yX11_butterLayerCount cX11_butterLayerCount 2 (some .int) ∈ bg_L ∧ Cond.initialized yX11_butterLayerCount.cls ∈ bg_L ∧ plainName yX11_butterLayerCount.cls = true := ⟨⟨by decide +kernel, by decide +kernel, by decide +kernel⟩, bg_in 700 (by decide +kernel) rfl, bg_in 75 (by decide +kernel) rfl, by decide +kernel⟩
theorem kt_X11_butterLayerCount : Cond.instanceMethod yX11_butterLayerCount ∈ bg_L := bg_in 698 (by decide +kernel) rfl
theorem ke_X11_butterLayerCount : Cond.selects RX11 yX11_butterLayerCount yX11_butterLayerCount ∈ bg_L := bg_in 699 (by decide +kernel) rfl
theorem kc_X11_isButter : (yX11_isButter.cls ≠ "java/lang/invoke/MethodHandle" ∧ yX11_isButter.cls ≠ "java/lang/invoke/VarHandle" ∧ (parseMethodDescriptor yX11_isButter.desc).map (fun d => d.parameters.length) = some 2) ∧ Cond.code yX11_isButter cX11_isButter 4 (some .boolean) ∈ bg_L ∧ Cond.initialized yX11_isButter.cls ∈ bg_L ∧ plainName yX11_isButter.cls = true := ⟨⟨by decide +kernel, by decide +kernel, by decide +kernel⟩, bg_in 711 (by decide +kernel) rfl, bg_in 75 (by decide +kernel) rfl, by decide +kernel⟩
theorem kt_X11_isButter : Cond.instanceMethod yX11_isButter ∈ bg_L := bg_in 709 (by decide +kernel) rfl
theorem ke_X11_isButter : Cond.selects RX11 yX11_isButter yX11_isButter ∈ bg_L := bg_in 710 (by decide +kernel) rfl
theorem kc_X11_thickness : (yX11_thickness.cls ≠ "java/lang/invoke/MethodHandle" ∧ yX11_thickness.cls ≠ "java/lang/invoke/VarHandle" ∧ (parseMethodDescriptor yX11_thickness.desc).map (fun d => d.parameters.length) = some 2) ∧ Cond.code yX11_thickness cX11_thickness 4 (some .int) ∈ bg_L ∧ Cond.initialized yX11_thickness.cls ∈ bg_L ∧ plainName yX11_thickness.cls = true := ⟨⟨by decide +kernel, by decide +kernel, by decide +kernel⟩, bg_in 722 (by decide +kernel) rfl, bg_in 75 (by decide +kernel) rfl, by decide +kernel⟩
theorem kt_X11_thickness : Cond.instanceMethod yX11_thickness ∈ bg_L := bg_in 720 (by decide +kernel) rfl
theorem ke_X11_thickness : Cond.selects RX11 yX11_thickness yX11_thickness ∈ bg_L := bg_in 721 (by decide +kernel) rfl
theorem kc_X11_height : (yX11_height.cls ≠ "java/lang/invoke/MethodHandle" ∧ yX11_height.cls ≠ "java/lang/invoke/VarHandle" ∧ (parseMethodDescriptor yX11_height.desc).map (fun d => d.parameters.length) = some 1) ∧ Cond.code yX11_height cX11_height 2 (some .int) ∈ bg_L ∧ Cond.initialized yX11_height.cls ∈ bg_L ∧ plainName yX11_height.cls = true := ⟨⟨by decide +kernel, by decide +kernel, by decide +kernel⟩, bg_in 729 (by decide +kernel) rfl, bg_in 75 (by decide +kernel) rfl, by decide +kernel⟩
theorem kt_X11_height : Cond.instanceMethod yX11_height ∈ bg_L := bg_in 727 (by decide +kernel) rfl
theorem ke_X11_height : Cond.selects RX11 yX11_height yX11_height ∈ bg_L := bg_in 728 (by decide +kernel) rfl
theorem kc_X11_butterHeight : (yX11_butterHeight.cls ≠ "java/lang/invoke/MethodHandle" ∧ yX11_butterHeight.cls ≠ "java/lang/invoke/VarHandle" ∧ (parseMethodDescriptor yX11_butterHeight.desc).map (fun d => d.parameters.length) = some 1) ∧ Cond.code yX11_butterHeight cX11_butterHeight 2 (some .int) ∈ bg_L ∧ Cond.initialized yX11_butterHeight.cls ∈ bg_L ∧ plainName yX11_butterHeight.cls = true := ⟨⟨by decide +kernel, by decide +kernel, by decide +kernel⟩, bg_in 740 (by decide +kernel) rfl, bg_in 75 (by decide +kernel) rfl, by decide +kernel⟩
theorem kt_X11_butterHeight : Cond.instanceMethod yX11_butterHeight ∈ bg_L := bg_in 738 (by decide +kernel) rfl
theorem ke_X11_butterHeight : Cond.selects RX11 yX11_butterHeight yX11_butterHeight ∈ bg_L := bg_in 739 (by decide +kernel) rfl
theorem kc_X11_thinnestLayer : (yX11_thinnestLayer.cls ≠ "java/lang/invoke/MethodHandle" ∧ yX11_thinnestLayer.cls ≠ "java/lang/invoke/VarHandle" ∧ (parseMethodDescriptor yX11_thinnestLayer.desc).map (fun d => d.parameters.length) = some 1) ∧ Cond.code yX11_thinnestLayer cX11_thinnestLayer 2 (some .int) ∈ bg_L ∧ Cond.initialized yX11_thinnestLayer.cls ∈ bg_L ∧ plainName yX11_thinnestLayer.cls = true := ⟨⟨by decide +kernel, by decide +kernel, by decide +kernel⟩, bg_in 751 (by decide +kernel) rfl, bg_in 75 (by decide +kernel) rfl, by decide +kernel⟩
theorem kt_X11_thinnestLayer : Cond.instanceMethod yX11_thinnestLayer ∈ bg_L := bg_in 749 (by decide +kernel) rfl
theorem ke_X11_thinnestLayer : Cond.selects RX11 yX11_thinnestLayer yX11_thinnestLayer ∈ bg_L := bg_in 750 (by decide +kernel) rfl
theorem kc_X11_thickestLayer : (yX11_thickestLayer.cls ≠ "java/lang/invoke/MethodHandle" ∧ yX11_thickestLayer.cls ≠ "java/lang/invoke/VarHandle" ∧ (parseMethodDescriptor yX11_thickestLayer.desc).map (fun d => d.parameters.length) = some 1) ∧ Cond.code yX11_thickestLayer cX11_thickestLayer 2 (some .int) ∈ bg_L ∧ Cond.initialized yX11_thickestLayer.cls ∈ bg_L ∧ plainName yX11_thickestLayer.cls = true := ⟨⟨by decide +kernel, by decide +kernel, by decide +kernel⟩, bg_in 762 (by decide +kernel) rfl, bg_in 75 (by decide +kernel) rfl, by decide +kernel⟩
theorem kt_X11_thickestLayer : Cond.instanceMethod yX11_thickestLayer ∈ bg_L := bg_in 760 (by decide +kernel) rfl
theorem ke_X11_thickestLayer : Cond.selects RX11 yX11_thickestLayer yX11_thickestLayer ∈ bg_L := bg_in 761 (by decide +kernel) rfl
theorem kc_X11_seamCount : (yX11_seamCount.cls ≠ "java/lang/invoke/MethodHandle" ∧ yX11_seamCount.cls ≠ "java/lang/invoke/VarHandle" ∧ (parseMethodDescriptor yX11_seamCount.desc).map (fun d => d.parameters.length) = some 1) ∧ Cond.code yX11_seamCount cX11_seamCount 2 (some .int) ∈ bg_L ∧ Cond.initialized yX11_seamCount.cls ∈ bg_L ∧ plainName yX11_seamCount.cls = true := ⟨⟨by decide +kernel, by decide +kernel, by decide +kernel⟩, bg_in 773 (by decide +kernel) rfl, bg_in 75 (by decide +kernel) rfl, by decide +kernel⟩
theorem kt_X11_seamCount : Cond.instanceMethod yX11_seamCount ∈ bg_L := bg_in 771 (by decide +kernel) rfl
theorem ke_X11_seamCount : Cond.selects RX11 yX11_seamCount yX11_seamCount ∈ bg_L := bg_in 772 (by decide +kernel) rfl
theorem kc_X11_isSymmetric : (yX11_isSymmetric.cls ≠ "java/lang/invoke/MethodHandle" ∧ yX11_isSymmetric.cls ≠ "java/lang/invoke/VarHandle" ∧ (parseMethodDescriptor yX11_isSymmetric.desc).map (fun d => d.parameters.length) = some 1) ∧ Cond.code yX11_isSymmetric cX11_isSymmetric 2 (some .boolean) ∈ bg_L ∧ Cond.initialized yX11_isSymmetric.cls ∈ bg_L ∧ plainName yX11_isSymmetric.cls = true := ⟨⟨by decide +kernel, by decide +kernel, by decide +kernel⟩, bg_in 784 (by decide +kernel) rfl, bg_in 75 (by decide +kernel) rfl, by decide +kernel⟩
theorem kt_X11_isSymmetric : Cond.instanceMethod yX11_isSymmetric ∈ bg_L := bg_in 782 (by decide +kernel) rfl
theorem ke_X11_isSymmetric : Cond.selects RX11 yX11_isSymmetric yX11_isSymmetric ∈ bg_L := bg_in 783 (by decide +kernel) rfl
theorem kc_X11_temperature : (yX11_temperature.cls ≠ "java/lang/invoke/MethodHandle" ∧ yX11_temperature.cls ≠ "java/lang/invoke/VarHandle" ∧ (parseMethodDescriptor yX11_temperature.desc).map (fun d => d.parameters.length) = some 1) ∧ Cond.code yX11_temperature cX11_temperature 2 (some .int) ∈ bg_L ∧ Cond.initialized yX11_temperature.cls ∈ bg_L ∧ plainName yX11_temperature.cls = true := ⟨⟨by decide +kernel, by decide +kernel, by decide +kernel⟩, bg_in 795 (by decide +kernel) rfl, bg_in 75 (by decide +kernel) rfl, by decide +kernel⟩
theorem kt_X11_temperature : Cond.instanceMethod yX11_temperature ∈ bg_L := bg_in 793 (by decide +kernel) rfl
theorem ke_X11_temperature : Cond.selects RX11 yX11_temperature yX11_temperature ∈ bg_L := bg_in 794 (by decide +kernel) rfl
theorem kc_X11_isDusted : (yX11_isDusted.cls ≠ "java/lang/invoke/MethodHandle" ∧ yX11_isDusted.cls ≠ "java/lang/invoke/VarHandle" ∧ (parseMethodDescriptor yX11_isDusted.desc).map (fun d => d.parameters.length) = some 1) ∧ Cond.code yX11_isDusted cX11_isDusted 2 (some .boolean) ∈ bg_L ∧ Cond.initialized yX11_isDusted.cls ∈ bg_L ∧ plainName yX11_isDusted.cls = true := ⟨⟨by decide +kernel, by decide +kernel, by decide +kernel⟩, bg_in 802 (by decide +kernel) rfl, bg_in 75 (by decide +kernel) rfl, by decide +kernel⟩
theorem kt_X11_isDusted : Cond.instanceMethod yX11_isDusted ∈ bg_L := bg_in 800 (by decide +kernel) rfl
theorem ke_X11_isDusted : Cond.selects RX11 yX11_isDusted yX11_isDusted ∈ bg_L := bg_in 801 (by decide +kernel) rfl
theorem kc_X11_isSealed : (yX11_isSealed.cls ≠ "java/lang/invoke/MethodHandle" ∧ yX11_isSealed.cls ≠ "java/lang/invoke/VarHandle" ∧ (parseMethodDescriptor yX11_isSealed.desc).map (fun d => d.parameters.length) = some 1) ∧ Cond.code yX11_isSealed cX11_isSealed 2 (some .boolean) ∈ bg_L ∧ Cond.initialized yX11_isSealed.cls ∈ bg_L ∧ plainName yX11_isSealed.cls = true := ⟨⟨by decide +kernel, by decide +kernel, by decide +kernel⟩, bg_in 809 (by decide +kernel) rfl, bg_in 75 (by decide +kernel) rfl, by decide +kernel⟩
theorem kt_X11_isSealed : Cond.instanceMethod yX11_isSealed ∈ bg_L := bg_in 807 (by decide +kernel) rfl
theorem ke_X11_isSealed : Cond.selects RX11 yX11_isSealed yX11_isSealed ∈ bg_L := bg_in 808 (by decide +kernel) rfl
theorem kc_X11_isCooling : (yX11_isCooling.cls ≠ "java/lang/invoke/MethodHandle" ∧ yX11_isCooling.cls ≠ "java/lang/invoke/VarHandle" ∧ (parseMethodDescriptor yX11_isCooling.desc).map (fun d => d.parameters.length) = some 1) ∧ Cond.code yX11_isCooling cX11_isCooling 2 (some .boolean) ∈ bg_L ∧ Cond.initialized yX11_isCooling.cls ∈ bg_L ∧ plainName yX11_isCooling.cls = true := ⟨⟨by decide +kernel, by decide +kernel, by decide +kernel⟩, bg_in 816 (by decide +kernel) rfl, bg_in 75 (by decide +kernel) rfl, by decide +kernel⟩
theorem kt_X11_isCooling : Cond.instanceMethod yX11_isCooling ∈ bg_L := bg_in 814 (by decide +kernel) rfl
theorem ke_X11_isCooling : Cond.selects RX11 yX11_isCooling yX11_isCooling ∈ bg_L := bg_in 815 (by decide +kernel) rfl
theorem kc_X11_foldCount : (yX11_foldCount.cls ≠ "java/lang/invoke/MethodHandle" ∧ yX11_foldCount.cls ≠ "java/lang/invoke/VarHandle" ∧ (parseMethodDescriptor yX11_foldCount.desc).map (fun d => d.parameters.length) = some 1) ∧ Cond.code yX11_foldCount cX11_foldCount 2 (some .int) ∈ bg_L ∧ Cond.initialized yX11_foldCount.cls ∈ bg_L ∧ plainName yX11_foldCount.cls = true := ⟨⟨by decide +kernel, by decide +kernel, by decide +kernel⟩, bg_in 823 (by decide +kernel) rfl, bg_in 75 (by decide +kernel) rfl, by decide +kernel⟩
theorem kt_X11_foldCount : Cond.instanceMethod yX11_foldCount ∈ bg_L := bg_in 821 (by decide +kernel) rfl
theorem ke_X11_foldCount : Cond.selects RX11 yX11_foldCount yX11_foldCount ∈ bg_L := bg_in 822 (by decide +kernel) rfl
theorem kc_X11_expectedLayers : (yX11_expectedLayers.cls ≠ "java/lang/invoke/MethodHandle" ∧ yX11_expectedLayers.cls ≠ "java/lang/invoke/VarHandle" ∧ (parseMethodDescriptor yX11_expectedLayers.desc).map (fun d => d.parameters.length) = some 1) ∧ Cond.code yX11_expectedLayers cX11_expectedLayers 2 (some .int) ∈ bg_L ∧ Cond.initialized yX11_expectedLayers.cls ∈ bg_L ∧ plainName yX11_expectedLayers.cls = true := ⟨⟨by decide +kernel, by decide +kernel, by decide +kernel⟩, bg_in 830 (by decide +kernel) rfl, bg_in 75 (by decide +kernel) rfl, by decide +kernel⟩
theorem kt_X11_expectedLayers : Cond.instanceMethod yX11_expectedLayers ∈ bg_L := bg_in 828 (by decide +kernel) rfl
theorem ke_X11_expectedLayers : Cond.selects RX11 yX11_expectedLayers yX11_expectedLayers ∈ bg_L := bg_in 829 (by decide +kernel) rfl
theorem kc_X11_butterShare : (yX11_butterShare.cls ≠ "java/lang/invoke/MethodHandle" ∧ yX11_butterShare.cls ≠ "java/lang/invoke/VarHandle" ∧ (parseMethodDescriptor yX11_butterShare.desc).map (fun d => d.parameters.length) = some 1) ∧ Cond.code yX11_butterShare cX11_butterShare 4 (some .float) ∈ bg_L ∧ Cond.initialized yX11_butterShare.cls ∈ bg_L ∧ plainName yX11_butterShare.cls = true := ⟨⟨by decide +kernel, by decide +kernel, by decide +kernel⟩, bg_in 837 (by decide +kernel) rfl, bg_in 75 (by decide +kernel) rfl, by decide +kernel⟩
theorem kt_X11_butterShare : Cond.instanceMethod yX11_butterShare ∈ bg_L := bg_in 835 (by decide +kernel) rfl
theorem ke_X11_butterShare : Cond.selects RX11 yX11_butterShare yX11_butterShare ∈ bg_L := bg_in 836 (by decide +kernel) rfl
theorem kc_X11_meanThickness : (yX11_meanThickness.cls ≠ "java/lang/invoke/MethodHandle" ∧ yX11_meanThickness.cls ≠ "java/lang/invoke/VarHandle" ∧ (parseMethodDescriptor yX11_meanThickness.desc).map (fun d => d.parameters.length) = some 1) ∧ Cond.code yX11_meanThickness cX11_meanThickness 3 (some .double) ∈ bg_L ∧ Cond.initialized yX11_meanThickness.cls ∈ bg_L ∧ plainName yX11_meanThickness.cls = true := ⟨⟨by decide +kernel, by decide +kernel, by decide +kernel⟩, bg_in 844 (by decide +kernel) rfl, bg_in 75 (by decide +kernel) rfl, by decide +kernel⟩
theorem kt_X11_meanThickness : Cond.instanceMethod yX11_meanThickness ∈ bg_L := bg_in 842 (by decide +kernel) rfl
theorem ke_X11_meanThickness : Cond.selects RX11 yX11_meanThickness yX11_meanThickness ∈ bg_L := bg_in 843 (by decide +kernel) rfl
theorem kc_X11_foldObstacle : (yX11_foldObstacle.cls ≠ "java/lang/invoke/MethodHandle" ∧ yX11_foldObstacle.cls ≠ "java/lang/invoke/VarHandle" ∧ (parseMethodDescriptor yX11_foldObstacle.desc).map (fun d => d.parameters.length) = some 2) ∧ Cond.code yX11_foldObstacle cX11_foldObstacle 4 (some .int) ∈ bg_L ∧ Cond.initialized yX11_foldObstacle.cls ∈ bg_L ∧ plainName yX11_foldObstacle.cls = true := ⟨⟨by decide +kernel, by decide +kernel, by decide +kernel⟩, bg_in 851 (by decide +kernel) rfl, bg_in 75 (by decide +kernel) rfl, by decide +kernel⟩
theorem kt_X11_foldObstacle : Cond.instanceMethod yX11_foldObstacle ∈ bg_L := bg_in 849 (by decide +kernel) rfl
theorem ke_X11_foldObstacle : Cond.selects RX11 yX11_foldObstacle yX11_foldObstacle ∈ bg_L := bg_in 850 (by decide +kernel) rfl
theorem kc_X11_layersAfterFold : (yX11_layersAfterFold.cls ≠ "java/lang/invoke/MethodHandle" ∧ yX11_layersAfterFold.cls ≠ "java/lang/invoke/VarHandle" ∧ (parseMethodDescriptor yX11_layersAfterFold.desc).map (fun d => d.parameters.length) = some 2) ∧ Cond.code yX11_layersAfterFold cX11_layersAfterFold 4 (some .int) ∈ bg_L ∧ Cond.initialized yX11_layersAfterFold.cls ∈ bg_L ∧ plainName yX11_layersAfterFold.cls = true := ⟨⟨by decide +kernel, by decide +kernel, by decide +kernel⟩, bg_in 873 (by decide +kernel) rfl, bg_in 75 (by decide +kernel) rfl, by decide +kernel⟩
theorem kt_X11_layersAfterFold : Cond.instanceMethod yX11_layersAfterFold ∈ bg_L := bg_in 871 (by decide +kernel) rfl
theorem ke_X11_layersAfterFold : Cond.selects RX11 yX11_layersAfterFold yX11_layersAfterFold ∈ bg_L := bg_in 872 (by decide +kernel) rfl
theorem kc_X11_foldsPossible : (yX11_foldsPossible.cls ≠ "java/lang/invoke/MethodHandle" ∧ yX11_foldsPossible.cls ≠ "java/lang/invoke/VarHandle" ∧ (parseMethodDescriptor yX11_foldsPossible.desc).map (fun d => d.parameters.length) = some 2) ∧ Cond.code yX11_foldsPossible cX11_foldsPossible 4 (some .int) ∈ bg_L ∧ Cond.initialized yX11_foldsPossible.cls ∈ bg_L ∧ plainName yX11_foldsPossible.cls = true := ⟨⟨by decide +kernel, by decide +kernel, by decide +kernel⟩, bg_in 881 (by decide +kernel) rfl, bg_in 75 (by decide +kernel) rfl, by decide +kernel⟩
theorem kt_X11_foldsPossible : Cond.instanceMethod yX11_foldsPossible ∈ bg_L := bg_in 879 (by decide +kernel) rfl
theorem ke_X11_foldsPossible : Cond.selects RX11 yX11_foldsPossible yX11_foldsPossible ∈ bg_L := bg_in 880 (by decide +kernel) rfl
theorem kc_X11_butterAtRisk : (yX11_butterAtRisk.cls ≠ "java/lang/invoke/MethodHandle" ∧ yX11_butterAtRisk.cls ≠ "java/lang/invoke/VarHandle" ∧ (parseMethodDescriptor yX11_butterAtRisk.desc).map (fun d => d.parameters.length) = some 1) ∧ Cond.code yX11_butterAtRisk cX11_butterAtRisk 2 (some .int) ∈ bg_L ∧ Cond.initialized yX11_butterAtRisk.cls ∈ bg_L ∧ plainName yX11_butterAtRisk.cls = true := ⟨⟨by decide +kernel, by decide +kernel, by decide +kernel⟩, bg_in 892 (by decide +kernel) rfl, bg_in 75 (by decide +kernel) rfl, by decide +kernel⟩
theorem kt_X11_butterAtRisk : Cond.instanceMethod yX11_butterAtRisk ∈ bg_L := bg_in 890 (by decide +kernel) rfl
theorem ke_X11_butterAtRisk : Cond.selects RX11 yX11_butterAtRisk yX11_butterAtRisk ∈ bg_L := bg_in 891 (by decide +kernel) rfl
theorem kc_X11_layersAtRisk : (yX11_layersAtRisk.cls ≠ "java/lang/invoke/MethodHandle" ∧ yX11_layersAtRisk.cls ≠ "java/lang/invoke/VarHandle" ∧ (parseMethodDescriptor yX11_layersAtRisk.desc).map (fun d => d.parameters.length) = some 2) ∧ Cond.code yX11_layersAtRisk cX11_layersAtRisk 4 (some .int) ∈ bg_L ∧ Cond.initialized yX11_layersAtRisk.cls ∈ bg_L ∧ plainName yX11_layersAtRisk.cls = true := ⟨⟨by decide +kernel, by decide +kernel, by decide +kernel⟩, bg_in 911 (by decide +kernel) rfl, bg_in 75 (by decide +kernel) rfl, by decide +kernel⟩
theorem kt_X11_layersAtRisk : Cond.instanceMethod yX11_layersAtRisk ∈ bg_L := bg_in 909 (by decide +kernel) rfl
theorem ke_X11_layersAtRisk : Cond.selects RX11 yX11_layersAtRisk yX11_layersAtRisk ∈ bg_L := bg_in 910 (by decide +kernel) rfl
theorem kc_X11_heightAfterRoll : (yX11_heightAfterRoll.cls ≠ "java/lang/invoke/MethodHandle" ∧ yX11_heightAfterRoll.cls ≠ "java/lang/invoke/VarHandle" ∧ (parseMethodDescriptor yX11_heightAfterRoll.desc).map (fun d => d.parameters.length) = some 2) ∧ Cond.code yX11_heightAfterRoll cX11_heightAfterRoll 4 (some .int) ∈ bg_L ∧ Cond.initialized yX11_heightAfterRoll.cls ∈ bg_L ∧ plainName yX11_heightAfterRoll.cls = true := ⟨⟨by decide +kernel, by decide +kernel, by decide +kernel⟩, bg_in 926 (by decide +kernel) rfl, bg_in 75 (by decide +kernel) rfl, by decide +kernel⟩
theorem kt_X11_heightAfterRoll : Cond.instanceMethod yX11_heightAfterRoll ∈ bg_L := bg_in 924 (by decide +kernel) rfl
theorem ke_X11_heightAfterRoll : Cond.selects RX11 yX11_heightAfterRoll yX11_heightAfterRoll ∈ bg_L := bg_in 925 (by decide +kernel) rfl
theorem kc_X11_temperatureAfter : (yX11_temperatureAfter.cls ≠ "java/lang/invoke/MethodHandle" ∧ yX11_temperatureAfter.cls ≠ "java/lang/invoke/VarHandle" ∧ (parseMethodDescriptor yX11_temperatureAfter.desc).map (fun d => d.parameters.length) = some 2) ∧ Cond.code yX11_temperatureAfter cX11_temperatureAfter 4 (some .int) ∈ bg_L ∧ Cond.initialized yX11_temperatureAfter.cls ∈ bg_L ∧ plainName yX11_temperatureAfter.cls = true := ⟨⟨by decide +kernel, by decide +kernel, by decide +kernel⟩, bg_in 937 (by decide +kernel) rfl, bg_in 75 (by decide +kernel) rfl, by decide +kernel⟩
theorem kt_X11_temperatureAfter : Cond.instanceMethod yX11_temperatureAfter ∈ bg_L := bg_in 935 (by decide +kernel) rfl
theorem ke_X11_temperatureAfter : Cond.selects RX11 yX11_temperatureAfter yX11_temperatureAfter ∈ bg_L := bg_in 936 (by decide +kernel) rfl
theorem kc_X11_hoursToSafety : (yX11_hoursToSafety.cls ≠ "java/lang/invoke/MethodHandle" ∧ yX11_hoursToSafety.cls ≠ "java/lang/invoke/VarHandle" ∧ (parseMethodDescriptor yX11_hoursToSafety.desc).map (fun d => d.parameters.length) = some 1) ∧ Cond.code yX11_hoursToSafety cX11_hoursToSafety 2 (some .int) ∈ bg_L ∧ Cond.initialized yX11_hoursToSafety.cls ∈ bg_L ∧ plainName yX11_hoursToSafety.cls = true := ⟨⟨by decide +kernel, by decide +kernel, by decide +kernel⟩, bg_in 956 (by decide +kernel) rfl, bg_in 75 (by decide +kernel) rfl, by decide +kernel⟩
theorem kt_X11_hoursToSafety : Cond.instanceMethod yX11_hoursToSafety ∈ bg_L := bg_in 954 (by decide +kernel) rfl
theorem ke_X11_hoursToSafety : Cond.selects RX11 yX11_hoursToSafety yX11_hoursToSafety ∈ bg_L := bg_in 955 (by decide +kernel) rfl
theorem kc_X11_fold : (yX11_fold.cls ≠ "java/lang/invoke/MethodHandle" ∧ yX11_fold.cls ≠ "java/lang/invoke/VarHandle" ∧ (parseMethodDescriptor yX11_fold.desc).map (fun d => d.parameters.length) = some 2) ∧ Cond.code yX11_fold cX11_fold 3 (some .int) ∈ bg_L ∧ Cond.initialized yX11_fold.cls ∈ bg_L ∧ plainName yX11_fold.cls = true := ⟨⟨by decide +kernel, by decide +kernel, by decide +kernel⟩, bg_in 968 (by decide +kernel) rfl, bg_in 75 (by decide +kernel) rfl, by decide +kernel⟩
theorem kt_X11_fold : Cond.instanceMethod yX11_fold ∈ bg_L := bg_in 966 (by decide +kernel) rfl
theorem ke_X11_fold : Cond.selects RX11 yX11_fold yX11_fold ∈ bg_L := bg_in 967 (by decide +kernel) rfl
theorem kc_X11_roll : (yX11_roll.cls ≠ "java/lang/invoke/MethodHandle" ∧ yX11_roll.cls ≠ "java/lang/invoke/VarHandle" ∧ (parseMethodDescriptor yX11_roll.desc).map (fun d => d.parameters.length) = some 2) ∧ Cond.code yX11_roll cX11_roll 3 (some .int) ∈ bg_L ∧ Cond.initialized yX11_roll.cls ∈ bg_L ∧ plainName yX11_roll.cls = true := ⟨⟨by decide +kernel, by decide +kernel, by decide +kernel⟩, bg_in 1037 (by decide +kernel) rfl, bg_in 75 (by decide +kernel) rfl, by decide +kernel⟩
theorem kt_X11_roll : Cond.instanceMethod yX11_roll ∈ bg_L := bg_in 1035 (by decide +kernel) rfl
theorem ke_X11_roll : Cond.selects RX11 yX11_roll yX11_roll ∈ bg_L := bg_in 1036 (by decide +kernel) rfl
theorem kc_X11_dust : (yX11_dust.cls ≠ "java/lang/invoke/MethodHandle" ∧ yX11_dust.cls ≠ "java/lang/invoke/VarHandle" ∧ (parseMethodDescriptor yX11_dust.desc).map (fun d => d.parameters.length) = some 1) ∧ Cond.code yX11_dust cX11_dust 2 (some .int) ∈ bg_L ∧ Cond.initialized yX11_dust.cls ∈ bg_L ∧ plainName yX11_dust.cls = true := ⟨⟨by decide +kernel, by decide +kernel, by decide +kernel⟩, bg_in 1058 (by decide +kernel) rfl, bg_in 75 (by decide +kernel) rfl, by decide +kernel⟩
theorem kt_X11_dust : Cond.instanceMethod yX11_dust ∈ bg_L := bg_in 1056 (by decide +kernel) rfl
theorem ke_X11_dust : Cond.selects RX11 yX11_dust yX11_dust ∈ bg_L := bg_in 1057 (by decide +kernel) rfl
theorem kc_X11_seal : (yX11_seal.cls ≠ "java/lang/invoke/MethodHandle" ∧ yX11_seal.cls ≠ "java/lang/invoke/VarHandle" ∧ (parseMethodDescriptor yX11_seal.desc).map (fun d => d.parameters.length) = some 1) ∧ Cond.code yX11_seal cX11_seal 2 (some .int) ∈ bg_L ∧ Cond.initialized yX11_seal.cls ∈ bg_L ∧ plainName yX11_seal.cls = true := ⟨⟨by decide +kernel, by decide +kernel, by decide +kernel⟩, bg_in 1073 (by decide +kernel) rfl, bg_in 75 (by decide +kernel) rfl, by decide +kernel⟩
theorem kt_X11_seal : Cond.instanceMethod yX11_seal ∈ bg_L := bg_in 1071 (by decide +kernel) rfl
theorem ke_X11_seal : Cond.selects RX11 yX11_seal yX11_seal ∈ bg_L := bg_in 1072 (by decide +kernel) rfl
theorem kc_X11_cool : (yX11_cool.cls ≠ "java/lang/invoke/MethodHandle" ∧ yX11_cool.cls ≠ "java/lang/invoke/VarHandle" ∧ (parseMethodDescriptor yX11_cool.desc).map (fun d => d.parameters.length) = some 1) ∧ Cond.code yX11_cool cX11_cool 2 (some .int) ∈ bg_L ∧ Cond.initialized yX11_cool.cls ∈ bg_L ∧ plainName yX11_cool.cls = true := ⟨⟨by decide +kernel, by decide +kernel, by decide +kernel⟩, bg_in 1092 (by decide +kernel) rfl, bg_in 75 (by decide +kernel) rfl, by decide +kernel⟩
theorem kt_X11_cool : Cond.instanceMethod yX11_cool ∈ bg_L := bg_in 1090 (by decide +kernel) rfl
theorem ke_X11_cool : Cond.selects RX11 yX11_cool yX11_cool ∈ bg_L := bg_in 1091 (by decide +kernel) rfl
theorem kc_X11_takeOut : (yX11_takeOut.cls ≠ "java/lang/invoke/MethodHandle" ∧ yX11_takeOut.cls ≠ "java/lang/invoke/VarHandle" ∧ (parseMethodDescriptor yX11_takeOut.desc).map (fun d => d.parameters.length) = some 1) ∧ Cond.code yX11_takeOut cX11_takeOut 2 (some .int) ∈ bg_L ∧ Cond.initialized yX11_takeOut.cls ∈ bg_L ∧ plainName yX11_takeOut.cls = true := ⟨⟨by decide +kernel, by decide +kernel, by decide +kernel⟩, bg_in 1111 (by decide +kernel) rfl, bg_in 75 (by decide +kernel) rfl, by decide +kernel⟩
theorem kt_X11_takeOut : Cond.instanceMethod yX11_takeOut ∈ bg_L := bg_in 1109 (by decide +kernel) rfl
theorem ke_X11_takeOut : Cond.selects RX11 yX11_takeOut yX11_takeOut ∈ bg_L := bg_in 1110 (by decide +kernel) rfl
theorem kc_X11_passHours : (yX11_passHours.cls ≠ "java/lang/invoke/MethodHandle" ∧ yX11_passHours.cls ≠ "java/lang/invoke/VarHandle" ∧ (parseMethodDescriptor yX11_passHours.desc).map (fun d => d.parameters.length) = some 1) ∧ Cond.code yX11_passHours cX11_passHours 2 (some .int) ∈ bg_L ∧ Cond.initialized yX11_passHours.cls ∈ bg_L ∧ plainName yX11_passHours.cls = true := ⟨⟨by decide +kernel, by decide +kernel, by decide +kernel⟩, bg_in 1126 (by decide +kernel) rfl, bg_in 75 (by decide +kernel) rfl, by decide +kernel⟩
theorem kt_X11_passHours : Cond.instanceMethod yX11_passHours ∈ bg_L := bg_in 1124 (by decide +kernel) rfl
theorem ke_X11_passHours : Cond.selects RX11 yX11_passHours yX11_passHours ∈ bg_L := bg_in 1125 (by decide +kernel) rfl
theorem kc_X11_cut : (yX11_cut.cls ≠ "java/lang/invoke/MethodHandle" ∧ yX11_cut.cls ≠ "java/lang/invoke/VarHandle" ∧ (parseMethodDescriptor yX11_cut.desc).map (fun d => d.parameters.length) = some 1) ∧ Cond.code yX11_cut cX11_cut 2 (some .int) ∈ bg_L ∧ Cond.initialized yX11_cut.cls ∈ bg_L ∧ plainName yX11_cut.cls = true := ⟨⟨by decide +kernel, by decide +kernel, by decide +kernel⟩, bg_in 1146 (by decide +kernel) rfl, bg_in 75 (by decide +kernel) rfl, by decide +kernel⟩
theorem kt_X11_cut : Cond.instanceMethod yX11_cut ∈ bg_L := bg_in 1144 (by decide +kernel) rfl
theorem ke_X11_cut : Cond.selects RX11 yX11_cut yX11_cut ∈ bg_L := bg_in 1145 (by decide +kernel) rfl
theorem kc_X11_stack : (yX11_stack.cls ≠ "java/lang/invoke/MethodHandle" ∧ yX11_stack.cls ≠ "java/lang/invoke/VarHandle" ∧ (parseMethodDescriptor yX11_stack.desc).map (fun d => d.parameters.length) = some 2) ∧ Cond.code yX11_stack cX11_stack 3 (some .int) ∈ bg_L ∧ Cond.initialized yX11_stack.cls ∈ bg_L ∧ plainName yX11_stack.cls = true := ⟨⟨by decide +kernel, by decide +kernel, by decide +kernel⟩, bg_in 1161 (by decide +kernel) rfl, bg_in 75 (by decide +kernel) rfl, by decide +kernel⟩
theorem kt_X11_stack : Cond.instanceMethod yX11_stack ∈ bg_L := bg_in 1159 (by decide +kernel) rfl
theorem ke_X11_stack : Cond.selects RX11 yX11_stack yX11_stack ∈ bg_L := bg_in 1160 (by decide +kernel) rfl
theorem kc_X11_addButter : (yX11_addButter.cls ≠ "java/lang/invoke/MethodHandle" ∧ yX11_addButter.cls ≠ "java/lang/invoke/VarHandle" ∧ (parseMethodDescriptor yX11_addButter.desc).map (fun d => d.parameters.length) = some 2) ∧ Cond.code yX11_addButter cX11_addButter 3 (some .int) ∈ bg_L ∧ Cond.initialized yX11_addButter.cls ∈ bg_L ∧ plainName yX11_addButter.cls = true := ⟨⟨by decide +kernel, by decide +kernel, by decide +kernel⟩, bg_in 1193 (by decide +kernel) rfl, bg_in 75 (by decide +kernel) rfl, by decide +kernel⟩
theorem kt_X11_addButter : Cond.instanceMethod yX11_addButter ∈ bg_L := bg_in 1191 (by decide +kernel) rfl
theorem ke_X11_addButter : Cond.selects RX11 yX11_addButter yX11_addButter ∈ bg_L := bg_in 1192 (by decide +kernel) rfl
theorem kc_X11_buyFlour : (yX11_buyFlour.cls ≠ "java/lang/invoke/MethodHandle" ∧ yX11_buyFlour.cls ≠ "java/lang/invoke/VarHandle" ∧ (parseMethodDescriptor yX11_buyFlour.desc).map (fun d => d.parameters.length) = some 1) ∧ Cond.code yX11_buyFlour cX11_buyFlour 2 (some .int) ∈ bg_L ∧ Cond.initialized yX11_buyFlour.cls ∈ bg_L ∧ plainName yX11_buyFlour.cls = true := ⟨⟨by decide +kernel, by decide +kernel, by decide +kernel⟩, bg_in 1212 (by decide +kernel) rfl, bg_in 75 (by decide +kernel) rfl, by decide +kernel⟩
theorem kt_X11_buyFlour : Cond.instanceMethod yX11_buyFlour ∈ bg_L := bg_in 1210 (by decide +kernel) rfl
theorem ke_X11_buyFlour : Cond.selects RX11 yX11_buyFlour yX11_buyFlour ∈ bg_L := bg_in 1211 (by decide +kernel) rfl
theorem kc_X11_runScript : (yX11_runScript.cls ≠ "java/lang/invoke/MethodHandle" ∧ yX11_runScript.cls ≠ "java/lang/invoke/VarHandle" ∧ (parseMethodDescriptor yX11_runScript.desc).map (fun d => d.parameters.length) = some 1) ∧ Cond.code yX11_runScript cX11_runScript 3 (some .int) ∈ bg_L ∧ Cond.initialized yX11_runScript.cls ∈ bg_L ∧ plainName yX11_runScript.cls = true := ⟨⟨by decide +kernel, by decide +kernel, by decide +kernel⟩, bg_in 1227 (by decide +kernel) rfl, bg_in 75 (by decide +kernel) rfl, by decide +kernel⟩
theorem kt_X11_runScript : Cond.instanceMethod yX11_runScript ∈ bg_L := bg_in 1225 (by decide +kernel) rfl
theorem ke_X11_runScript : Cond.selects RX11 yX11_runScript yX11_runScript ∈ bg_L := bg_in 1226 (by decide +kernel) rfl
theorem kc_X11_writeSheet : (yX11_writeSheet.cls ≠ "java/lang/invoke/MethodHandle" ∧ yX11_writeSheet.cls ≠ "java/lang/invoke/VarHandle" ∧ (parseMethodDescriptor yX11_writeSheet.desc).map (fun d => d.parameters.length) = some 1) ∧ Cond.code yX11_writeSheet cX11_writeSheet 2 (some .int) ∈ bg_L ∧ Cond.initialized yX11_writeSheet.cls ∈ bg_L ∧ plainName yX11_writeSheet.cls = true := ⟨⟨by decide +kernel, by decide +kernel, by decide +kernel⟩, bg_in 1290 (by decide +kernel) rfl, bg_in 75 (by decide +kernel) rfl, by decide +kernel⟩
theorem kt_X11_writeSheet : Cond.instanceMethod yX11_writeSheet ∈ bg_L := bg_in 1288 (by decide +kernel) rfl
theorem ke_X11_writeSheet : Cond.selects RX11 yX11_writeSheet yX11_writeSheet ∈ bg_L := bg_in 1289 (by decide +kernel) rfl
theorem kc_X11_outputByte : (yX11_outputByte.cls ≠ "java/lang/invoke/MethodHandle" ∧ yX11_outputByte.cls ≠ "java/lang/invoke/VarHandle" ∧ (parseMethodDescriptor yX11_outputByte.desc).map (fun d => d.parameters.length) = some 1) ∧ Cond.code yX11_outputByte cX11_outputByte 2 (some .int) ∈ bg_L ∧ Cond.initialized yX11_outputByte.cls ∈ bg_L ∧ plainName yX11_outputByte.cls = true := ⟨⟨by decide +kernel, by decide +kernel, by decide +kernel⟩, bg_in 1309 (by decide +kernel) rfl, bg_in 75 (by decide +kernel) rfl, by decide +kernel⟩
theorem kt_X11_outputByte : Cond.instanceMethod yX11_outputByte ∈ bg_L := bg_in 1307 (by decide +kernel) rfl
theorem ke_X11_outputByte : Cond.selects RX11 yX11_outputByte yX11_outputByte ∈ bg_L := bg_in 1308 (by decide +kernel) rfl
theorem kc_X11_undo : (yX11_undo.cls ≠ "java/lang/invoke/MethodHandle" ∧ yX11_undo.cls ≠ "java/lang/invoke/VarHandle" ∧ (parseMethodDescriptor yX11_undo.desc).map (fun d => d.parameters.length) = some 0) ∧ Cond.code yX11_undo cX11_undo 1 (some .int) ∈ bg_L ∧ Cond.initialized yX11_undo.cls ∈ bg_L ∧ plainName yX11_undo.cls = true := ⟨⟨by decide +kernel, by decide +kernel, by decide +kernel⟩, bg_in 1317 (by decide +kernel) rfl, bg_in 75 (by decide +kernel) rfl, by decide +kernel⟩
theorem kt_X11_undo : Cond.instanceMethod yX11_undo ∈ bg_L := bg_in 1315 (by decide +kernel) rfl
theorem ke_X11_undo : Cond.selects RX11 yX11_undo yX11_undo ∈ bg_L := bg_in 1316 (by decide +kernel) rfl
theorem kc_X11_restoreSnapshot : (yX11_restoreSnapshot.cls ≠ "java/lang/invoke/MethodHandle" ∧ yX11_restoreSnapshot.cls ≠ "java/lang/invoke/VarHandle" ∧ (parseMethodDescriptor yX11_restoreSnapshot.desc).map (fun d => d.parameters.length) = some 0) ∧ Cond.code yX11_restoreSnapshot cX11_restoreSnapshot 1 (some .int) ∈ bg_L ∧ Cond.initialized yX11_restoreSnapshot.cls ∈ bg_L ∧ plainName yX11_restoreSnapshot.cls = true := ⟨⟨by decide +kernel, by decide +kernel, by decide +kernel⟩, bg_in 1329 (by decide +kernel) rfl, bg_in 75 (by decide +kernel) rfl, by decide +kernel⟩
theorem kt_X11_restoreSnapshot : Cond.instanceMethod yX11_restoreSnapshot ∈ bg_L := bg_in 1327 (by decide +kernel) rfl
theorem ke_X11_restoreSnapshot : Cond.selects RX11 yX11_restoreSnapshot yX11_restoreSnapshot ∈ bg_L := bg_in 1328 (by decide +kernel) rfl
theorem kc_X11_init : (yX11_init.cls ≠ "java/lang/invoke/MethodHandle" ∧ yX11_init.cls ≠ "java/lang/invoke/VarHandle" ∧ (parseMethodDescriptor yX11_init.desc).map (fun d => d.parameters.length) = some 0) ∧ Cond.code yX11_init cX11_init 1 none ∈ bg_L ∧ Cond.initialized yX11_init.cls ∈ bg_L ∧ plainName yX11_init.cls = true := ⟨⟨by decide +kernel, by decide +kernel, by decide +kernel⟩, bg_in 104 (by decide +kernel) rfl, bg_in 75 (by decide +kernel) rfl, by decide +kernel⟩
theorem kt_X11_init : Cond.instanceMethod yX11_init ∈ bg_L := bg_in 103 (by decide +kernel) rfl
theorem kc_X12_init : (yX12_init.cls ≠ "java/lang/invoke/MethodHandle" ∧ yX12_init.cls ≠ "java/lang/invoke/VarHandle" ∧ (parseMethodDescriptor yX12_init.desc).map (fun d => d.parameters.length) = some 0) ∧ Cond.code yX12_init cX12_init 1 none ∈ bg_L ∧ Cond.initialized yX12_init.cls ∈ bg_L ∧ plainName yX12_init.cls = true := ⟨⟨by decide +kernel, by decide +kernel, by decide +kernel⟩, bg_in 1335 (by decide +kernel) rfl, bg_in 85 (by decide +kernel) rfl, by decide +kernel⟩
theorem kt_X12_init : Cond.instanceMethod yX12_init ∈ bg_L := bg_in 1334 (by decide +kernel) rfl
theorem kc_X11_appendText : (yX11_appendText.cls ≠ "java/lang/invoke/MethodHandle" ∧ yX11_appendText.cls ≠ "java/lang/invoke/VarHandle" ∧ (parseMethodDescriptor yX11_appendText.desc).map (fun d => d.parameters.length) = some 5) ∧ Cond.code yX11_appendText cX11_appendText 6 (some .int) ∈ bg_L ∧ Cond.initialized yX11_appendText.cls ∈ bg_L ∧ plainName yX11_appendText.cls = true := ⟨⟨by decide +kernel, by decide +kernel, by decide +kernel⟩, bg_in 373 (by decide +kernel) rfl, bg_in 75 (by decide +kernel) rfl, by decide +kernel⟩
theorem kt_X11_appendText : Cond.instanceMethod yX11_appendText ∈ bg_L := bg_in 371 (by decide +kernel) rfl
theorem ke_X11_appendText : Cond.selects RX11 yX11_appendText yX11_appendText ∈ bg_L := bg_in 372 (by decide +kernel) rfl
theorem kc_X12_appendText : (yX12_appendText.cls ≠ "java/lang/invoke/MethodHandle" ∧ yX12_appendText.cls ≠ "java/lang/invoke/VarHandle" ∧ (parseMethodDescriptor yX12_appendText.desc).map (fun d => d.parameters.length) = some 5) ∧ Cond.code yX12_appendText cX12_appendText 8 (some .int) ∈ bg_L ∧ Cond.initialized yX12_appendText.cls ∈ bg_L ∧ plainName yX12_appendText.cls = true := ⟨⟨by decide +kernel, by decide +kernel, by decide +kernel⟩, bg_in 1868 (by decide +kernel) rfl, bg_in 85 (by decide +kernel) rfl, by decide +kernel⟩
theorem kt_X12_appendText : Cond.instanceMethod yX12_appendText ∈ bg_L := bg_in 1866 (by decide +kernel) rfl
theorem ke_X12_appendText : Cond.selects RX12 yX12_appendText yX12_appendText ∈ bg_L := bg_in 1867 (by decide +kernel) rfl
theorem kc_L_loadBench : (yL_loadBench.cls ≠ "java/lang/invoke/MethodHandle" ∧ yL_loadBench.cls ≠ "java/lang/invoke/VarHandle" ∧ (parseMethodDescriptor yL_loadBench.desc).map (fun d => d.parameters.length) = some 3) ∧ Cond.codeWith yL_loadBench cL_loadBench 4 (some .int) [(0, 9, 12, 13)] ∈ bg_L ∧ Cond.initialized yL_loadBench.cls ∈ bg_L ∧ plainName yL_loadBench.cls = true := ⟨⟨by decide +kernel, by decide +kernel, by decide +kernel⟩, bg_in 448 (by decide +kernel) rfl, bg_in 74 (by decide +kernel) rfl, by decide +kernel⟩
theorem kt_L_loadBench : Cond.static yL_loadBench ∈ bg_L := bg_in 447 (by decide +kernel) rfl
theorem kc_X12_loadBench : (yX12_loadBench.cls ≠ "java/lang/invoke/MethodHandle" ∧ yX12_loadBench.cls ≠ "java/lang/invoke/VarHandle" ∧ (parseMethodDescriptor yX12_loadBench.desc).map (fun d => d.parameters.length) = some 1) ∧ Cond.code yX12_loadBench cX12_loadBench 2 (some .int) ∈ bg_L ∧ Cond.initialized yX12_loadBench.cls ∈ bg_L ∧ plainName yX12_loadBench.cls = true := ⟨⟨by decide +kernel, by decide +kernel, by decide +kernel⟩, bg_in 1880 (by decide +kernel) rfl, bg_in 85 (by decide +kernel) rfl, by decide +kernel⟩
theorem kt_X12_loadBench : Cond.instanceMethod yX12_loadBench ∈ bg_L := bg_in 1878 (by decide +kernel) rfl
theorem ke_X12_loadBench : Cond.selects RX12 yX12_loadBench yX12_loadBench ∈ bg_L := bg_in 1879 (by decide +kernel) rfl
theorem kc_X12_thrown : (yX12_thrown.cls ≠ "java/lang/invoke/MethodHandle" ∧ yX12_thrown.cls ≠ "java/lang/invoke/VarHandle" ∧ (parseMethodDescriptor yX12_thrown.desc).map (fun d => d.parameters.length) = some 0) ∧ Cond.code yX12_thrown cX12_thrown 1 (some .int) ∈ bg_L ∧ Cond.initialized yX12_thrown.cls ∈ bg_L ∧ plainName yX12_thrown.cls = true := ⟨⟨by decide +kernel, by decide +kernel, by decide +kernel⟩, bg_in 1466 (by decide +kernel) rfl, bg_in 85 (by decide +kernel) rfl, by decide +kernel⟩
theorem kt_X12_thrown : Cond.instanceMethod yX12_thrown ∈ bg_L := bg_in 1464 (by decide +kernel) rfl
theorem ke_X12_thrown : Cond.selects RX12 yX12_thrown yX12_thrown ∈ bg_L := bg_in 1465 (by decide +kernel) rfl
theorem kc_X11_errorCode : (yX11_errorCode.cls ≠ "java/lang/invoke/MethodHandle" ∧ yX11_errorCode.cls ≠ "java/lang/invoke/VarHandle" ∧ (parseMethodDescriptor yX11_errorCode.desc).map (fun d => d.parameters.length) = some 0) ∧ Cond.code yX11_errorCode cX11_errorCode 1 (some .int) ∈ bg_L ∧ Cond.initialized yX11_errorCode.cls ∈ bg_L ∧ plainName yX11_errorCode.cls = true := ⟨⟨by decide +kernel, by decide +kernel, by decide +kernel⟩, bg_in 381 (by decide +kernel) rfl, bg_in 75 (by decide +kernel) rfl, by decide +kernel⟩
theorem kt_X11_errorCode : Cond.instanceMethod yX11_errorCode ∈ bg_L := bg_in 379 (by decide +kernel) rfl
theorem ke_X11_errorCode : Cond.selects RX11 yX11_errorCode yX11_errorCode ∈ bg_L := bg_in 380 (by decide +kernel) rfl
theorem kc_X12_errorCode : (yX12_errorCode.cls ≠ "java/lang/invoke/MethodHandle" ∧ yX12_errorCode.cls ≠ "java/lang/invoke/VarHandle" ∧ (parseMethodDescriptor yX12_errorCode.desc).map (fun d => d.parameters.length) = some 0) ∧ Cond.code yX12_errorCode cX12_errorCode 1 (some .int) ∈ bg_L ∧ Cond.initialized yX12_errorCode.cls ∈ bg_L ∧ plainName yX12_errorCode.cls = true := ⟨⟨by decide +kernel, by decide +kernel, by decide +kernel⟩, bg_in 1876 (by decide +kernel) rfl, bg_in 85 (by decide +kernel) rfl, by decide +kernel⟩
theorem kt_X12_errorCode : Cond.instanceMethod yX12_errorCode ∈ bg_L := bg_in 1874 (by decide +kernel) rfl
theorem ke_X12_errorCode : Cond.selects RX12 yX12_errorCode yX12_errorCode ∈ bg_L := bg_in 1875 (by decide +kernel) rfl
theorem kc_X11_errorOffset : (yX11_errorOffset.cls ≠ "java/lang/invoke/MethodHandle" ∧ yX11_errorOffset.cls ≠ "java/lang/invoke/VarHandle" ∧ (parseMethodDescriptor yX11_errorOffset.desc).map (fun d => d.parameters.length) = some 0) ∧ Cond.code yX11_errorOffset cX11_errorOffset 1 (some .int) ∈ bg_L ∧ Cond.initialized yX11_errorOffset.cls ∈ bg_L ∧ plainName yX11_errorOffset.cls = true := ⟨⟨by decide +kernel, by decide +kernel, by decide +kernel⟩, bg_in 385 (by decide +kernel) rfl, bg_in 75 (by decide +kernel) rfl, by decide +kernel⟩
theorem kt_X11_errorOffset : Cond.instanceMethod yX11_errorOffset ∈ bg_L := bg_in 383 (by decide +kernel) rfl
theorem ke_X11_errorOffset : Cond.selects RX11 yX11_errorOffset yX11_errorOffset ∈ bg_L := bg_in 384 (by decide +kernel) rfl
theorem kc_X12_errorOffset : (yX12_errorOffset.cls ≠ "java/lang/invoke/MethodHandle" ∧ yX12_errorOffset.cls ≠ "java/lang/invoke/VarHandle" ∧ (parseMethodDescriptor yX12_errorOffset.desc).map (fun d => d.parameters.length) = some 0) ∧ Cond.code yX12_errorOffset cX12_errorOffset 1 (some .int) ∈ bg_L ∧ Cond.initialized yX12_errorOffset.cls ∈ bg_L ∧ plainName yX12_errorOffset.cls = true := ⟨⟨by decide +kernel, by decide +kernel, by decide +kernel⟩, bg_in 1872 (by decide +kernel) rfl, bg_in 85 (by decide +kernel) rfl, by decide +kernel⟩
theorem kt_X12_errorOffset : Cond.instanceMethod yX12_errorOffset ∈ bg_L := bg_in 1870 (by decide +kernel) rfl
theorem ke_X12_errorOffset : Cond.selects RX12 yX12_errorOffset yX12_errorOffset ∈ bg_L := bg_in 1871 (by decide +kernel) rfl
theorem kc_X11_sheetCount : (yX11_sheetCount.cls ≠ "java/lang/invoke/MethodHandle" ∧ yX11_sheetCount.cls ≠ "java/lang/invoke/VarHandle" ∧ (parseMethodDescriptor yX11_sheetCount.desc).map (fun d => d.parameters.length) = some 0) ∧ Cond.code yX11_sheetCount cX11_sheetCount 1 (some .int) ∈ bg_L ∧ Cond.initialized yX11_sheetCount.cls ∈ bg_L ∧ plainName yX11_sheetCount.cls = true := ⟨⟨by decide +kernel, by decide +kernel, by decide +kernel⟩, bg_in 389 (by decide +kernel) rfl, bg_in 75 (by decide +kernel) rfl, by decide +kernel⟩
theorem kt_X11_sheetCount : Cond.instanceMethod yX11_sheetCount ∈ bg_L := bg_in 387 (by decide +kernel) rfl
theorem ke_X11_sheetCount : Cond.selects RX11 yX11_sheetCount yX11_sheetCount ∈ bg_L := bg_in 388 (by decide +kernel) rfl
theorem kc_X12_sheetCount : (yX12_sheetCount.cls ≠ "java/lang/invoke/MethodHandle" ∧ yX12_sheetCount.cls ≠ "java/lang/invoke/VarHandle" ∧ (parseMethodDescriptor yX12_sheetCount.desc).map (fun d => d.parameters.length) = some 0) ∧ Cond.code yX12_sheetCount cX12_sheetCount 1 (some .int) ∈ bg_L ∧ Cond.initialized yX12_sheetCount.cls ∈ bg_L ∧ plainName yX12_sheetCount.cls = true := ⟨⟨by decide +kernel, by decide +kernel, by decide +kernel⟩, bg_in 1470 (by decide +kernel) rfl, bg_in 85 (by decide +kernel) rfl, by decide +kernel⟩
theorem kt_X12_sheetCount : Cond.instanceMethod yX12_sheetCount ∈ bg_L := bg_in 1468 (by decide +kernel) rfl
theorem ke_X12_sheetCount : Cond.selects RX12 yX12_sheetCount yX12_sheetCount ∈ bg_L := bg_in 1469 (by decide +kernel) rfl
theorem kc_X11_roomTemperature : (yX11_roomTemperature.cls ≠ "java/lang/invoke/MethodHandle" ∧ yX11_roomTemperature.cls ≠ "java/lang/invoke/VarHandle" ∧ (parseMethodDescriptor yX11_roomTemperature.desc).map (fun d => d.parameters.length) = some 0) ∧ Cond.code yX11_roomTemperature cX11_roomTemperature 1 (some .int) ∈ bg_L ∧ Cond.initialized yX11_roomTemperature.cls ∈ bg_L ∧ plainName yX11_roomTemperature.cls = true := ⟨⟨by decide +kernel, by decide +kernel, by decide +kernel⟩, bg_in 393 (by decide +kernel) rfl, bg_in 75 (by decide +kernel) rfl, by decide +kernel⟩
theorem kt_X11_roomTemperature : Cond.instanceMethod yX11_roomTemperature ∈ bg_L := bg_in 391 (by decide +kernel) rfl
theorem ke_X11_roomTemperature : Cond.selects RX11 yX11_roomTemperature yX11_roomTemperature ∈ bg_L := bg_in 392 (by decide +kernel) rfl
theorem kc_X12_roomTemperature : (yX12_roomTemperature.cls ≠ "java/lang/invoke/MethodHandle" ∧ yX12_roomTemperature.cls ≠ "java/lang/invoke/VarHandle" ∧ (parseMethodDescriptor yX12_roomTemperature.desc).map (fun d => d.parameters.length) = some 0) ∧ Cond.code yX12_roomTemperature cX12_roomTemperature 1 (some .int) ∈ bg_L ∧ Cond.initialized yX12_roomTemperature.cls ∈ bg_L ∧ plainName yX12_roomTemperature.cls = true := ⟨⟨by decide +kernel, by decide +kernel, by decide +kernel⟩, bg_in 1474 (by decide +kernel) rfl, bg_in 85 (by decide +kernel) rfl, by decide +kernel⟩
theorem kt_X12_roomTemperature : Cond.instanceMethod yX12_roomTemperature ∈ bg_L := bg_in 1472 (by decide +kernel) rfl
theorem ke_X12_roomTemperature : Cond.selects RX12 yX12_roomTemperature yX12_roomTemperature ∈ bg_L := bg_in 1473 (by decide +kernel) rfl
theorem kc_X11_meltingPoint : (yX11_meltingPoint.cls ≠ "java/lang/invoke/MethodHandle" ∧ yX11_meltingPoint.cls ≠ "java/lang/invoke/VarHandle" ∧ (parseMethodDescriptor yX11_meltingPoint.desc).map (fun d => d.parameters.length) = some 0) ∧ Cond.code yX11_meltingPoint cX11_meltingPoint 1 (some .int) ∈ bg_L ∧ Cond.initialized yX11_meltingPoint.cls ∈ bg_L ∧ plainName yX11_meltingPoint.cls = true := ⟨⟨by decide +kernel, by decide +kernel, by decide +kernel⟩, bg_in 397 (by decide +kernel) rfl, bg_in 75 (by decide +kernel) rfl, by decide +kernel⟩
theorem kt_X11_meltingPoint : Cond.instanceMethod yX11_meltingPoint ∈ bg_L := bg_in 395 (by decide +kernel) rfl
theorem ke_X11_meltingPoint : Cond.selects RX11 yX11_meltingPoint yX11_meltingPoint ∈ bg_L := bg_in 396 (by decide +kernel) rfl
theorem kc_X12_meltingPoint : (yX12_meltingPoint.cls ≠ "java/lang/invoke/MethodHandle" ∧ yX12_meltingPoint.cls ≠ "java/lang/invoke/VarHandle" ∧ (parseMethodDescriptor yX12_meltingPoint.desc).map (fun d => d.parameters.length) = some 0) ∧ Cond.code yX12_meltingPoint cX12_meltingPoint 1 (some .int) ∈ bg_L ∧ Cond.initialized yX12_meltingPoint.cls ∈ bg_L ∧ plainName yX12_meltingPoint.cls = true := ⟨⟨by decide +kernel, by decide +kernel, by decide +kernel⟩, bg_in 1478 (by decide +kernel) rfl, bg_in 85 (by decide +kernel) rfl, by decide +kernel⟩
theorem kt_X12_meltingPoint : Cond.instanceMethod yX12_meltingPoint ∈ bg_L := bg_in 1476 (by decide +kernel) rfl
theorem ke_X12_meltingPoint : Cond.selects RX12 yX12_meltingPoint yX12_meltingPoint ∈ bg_L := bg_in 1477 (by decide +kernel) rfl
theorem kc_X11_flour : (yX11_flour.cls ≠ "java/lang/invoke/MethodHandle" ∧ yX11_flour.cls ≠ "java/lang/invoke/VarHandle" ∧ (parseMethodDescriptor yX11_flour.desc).map (fun d => d.parameters.length) = some 0) ∧ Cond.code yX11_flour cX11_flour 1 (some .int) ∈ bg_L ∧ Cond.initialized yX11_flour.cls ∈ bg_L ∧ plainName yX11_flour.cls = true := ⟨⟨by decide +kernel, by decide +kernel, by decide +kernel⟩, bg_in 401 (by decide +kernel) rfl, bg_in 75 (by decide +kernel) rfl, by decide +kernel⟩
theorem kt_X11_flour : Cond.instanceMethod yX11_flour ∈ bg_L := bg_in 399 (by decide +kernel) rfl
theorem ke_X11_flour : Cond.selects RX11 yX11_flour yX11_flour ∈ bg_L := bg_in 400 (by decide +kernel) rfl
theorem kc_X12_flour : (yX12_flour.cls ≠ "java/lang/invoke/MethodHandle" ∧ yX12_flour.cls ≠ "java/lang/invoke/VarHandle" ∧ (parseMethodDescriptor yX12_flour.desc).map (fun d => d.parameters.length) = some 0) ∧ Cond.code yX12_flour cX12_flour 1 (some .int) ∈ bg_L ∧ Cond.initialized yX12_flour.cls ∈ bg_L ∧ plainName yX12_flour.cls = true := ⟨⟨by decide +kernel, by decide +kernel, by decide +kernel⟩, bg_in 1482 (by decide +kernel) rfl, bg_in 85 (by decide +kernel) rfl, by decide +kernel⟩
theorem kt_X12_flour : Cond.instanceMethod yX12_flour ∈ bg_L := bg_in 1480 (by decide +kernel) rfl
theorem ke_X12_flour : Cond.selects RX12 yX12_flour yX12_flour ∈ bg_L := bg_in 1481 (by decide +kernel) rfl
theorem kc_X11_hoursPassed : (yX11_hoursPassed.cls ≠ "java/lang/invoke/MethodHandle" ∧ yX11_hoursPassed.cls ≠ "java/lang/invoke/VarHandle" ∧ (parseMethodDescriptor yX11_hoursPassed.desc).map (fun d => d.parameters.length) = some 0) ∧ Cond.code yX11_hoursPassed cX11_hoursPassed 1 (some .int) ∈ bg_L ∧ Cond.initialized yX11_hoursPassed.cls ∈ bg_L ∧ plainName yX11_hoursPassed.cls = true := ⟨⟨by decide +kernel, by decide +kernel, by decide +kernel⟩, bg_in 405 (by decide +kernel) rfl, bg_in 75 (by decide +kernel) rfl, by decide +kernel⟩
theorem kt_X11_hoursPassed : Cond.instanceMethod yX11_hoursPassed ∈ bg_L := bg_in 403 (by decide +kernel) rfl
theorem ke_X11_hoursPassed : Cond.selects RX11 yX11_hoursPassed yX11_hoursPassed ∈ bg_L := bg_in 404 (by decide +kernel) rfl
theorem kc_X12_hoursPassed : (yX12_hoursPassed.cls ≠ "java/lang/invoke/MethodHandle" ∧ yX12_hoursPassed.cls ≠ "java/lang/invoke/VarHandle" ∧ (parseMethodDescriptor yX12_hoursPassed.desc).map (fun d => d.parameters.length) = some 0) ∧ Cond.code yX12_hoursPassed cX12_hoursPassed 1 (some .int) ∈ bg_L ∧ Cond.initialized yX12_hoursPassed.cls ∈ bg_L ∧ plainName yX12_hoursPassed.cls = true := ⟨⟨by decide +kernel, by decide +kernel, by decide +kernel⟩, bg_in 1486 (by decide +kernel) rfl, bg_in 85 (by decide +kernel) rfl, by decide +kernel⟩
theorem kt_X12_hoursPassed : Cond.instanceMethod yX12_hoursPassed ∈ bg_L := bg_in 1484 (by decide +kernel) rfl
theorem ke_X12_hoursPassed : Cond.selects RX12 yX12_hoursPassed yX12_hoursPassed ∈ bg_L := bg_in 1485 (by decide +kernel) rfl
theorem kc_X11_escapedButter : (yX11_escapedButter.cls ≠ "java/lang/invoke/MethodHandle" ∧ yX11_escapedButter.cls ≠ "java/lang/invoke/VarHandle" ∧ (parseMethodDescriptor yX11_escapedButter.desc).map (fun d => d.parameters.length) = some 0) ∧ Cond.code yX11_escapedButter cX11_escapedButter 1 (some .int) ∈ bg_L ∧ Cond.initialized yX11_escapedButter.cls ∈ bg_L ∧ plainName yX11_escapedButter.cls = true := ⟨⟨by decide +kernel, by decide +kernel, by decide +kernel⟩, bg_in 409 (by decide +kernel) rfl, bg_in 75 (by decide +kernel) rfl, by decide +kernel⟩
theorem kt_X11_escapedButter : Cond.instanceMethod yX11_escapedButter ∈ bg_L := bg_in 407 (by decide +kernel) rfl
theorem ke_X11_escapedButter : Cond.selects RX11 yX11_escapedButter yX11_escapedButter ∈ bg_L := bg_in 408 (by decide +kernel) rfl
theorem kc_X12_escapedButter : (yX12_escapedButter.cls ≠ "java/lang/invoke/MethodHandle" ∧ yX12_escapedButter.cls ≠ "java/lang/invoke/VarHandle" ∧ (parseMethodDescriptor yX12_escapedButter.desc).map (fun d => d.parameters.length) = some 0) ∧ Cond.code yX12_escapedButter cX12_escapedButter 1 (some .int) ∈ bg_L ∧ Cond.initialized yX12_escapedButter.cls ∈ bg_L ∧ plainName yX12_escapedButter.cls = true := ⟨⟨by decide +kernel, by decide +kernel, by decide +kernel⟩, bg_in 1490 (by decide +kernel) rfl, bg_in 85 (by decide +kernel) rfl, by decide +kernel⟩
theorem kt_X12_escapedButter : Cond.instanceMethod yX12_escapedButter ∈ bg_L := bg_in 1488 (by decide +kernel) rfl
theorem ke_X12_escapedButter : Cond.selects RX12 yX12_escapedButter yX12_escapedButter ∈ bg_L := bg_in 1489 (by decide +kernel) rfl
theorem kc_X11_brokenLayers : (yX11_brokenLayers.cls ≠ "java/lang/invoke/MethodHandle" ∧ yX11_brokenLayers.cls ≠ "java/lang/invoke/VarHandle" ∧ (parseMethodDescriptor yX11_brokenLayers.desc).map (fun d => d.parameters.length) = some 0) ∧ Cond.code yX11_brokenLayers cX11_brokenLayers 1 (some .int) ∈ bg_L ∧ Cond.initialized yX11_brokenLayers.cls ∈ bg_L ∧ plainName yX11_brokenLayers.cls = true := ⟨⟨by decide +kernel, by decide +kernel, by decide +kernel⟩, bg_in 413 (by decide +kernel) rfl, bg_in 75 (by decide +kernel) rfl, by decide +kernel⟩
theorem kt_X11_brokenLayers : Cond.instanceMethod yX11_brokenLayers ∈ bg_L := bg_in 411 (by decide +kernel) rfl
theorem ke_X11_brokenLayers : Cond.selects RX11 yX11_brokenLayers yX11_brokenLayers ∈ bg_L := bg_in 412 (by decide +kernel) rfl
theorem kc_X12_brokenLayers : (yX12_brokenLayers.cls ≠ "java/lang/invoke/MethodHandle" ∧ yX12_brokenLayers.cls ≠ "java/lang/invoke/VarHandle" ∧ (parseMethodDescriptor yX12_brokenLayers.desc).map (fun d => d.parameters.length) = some 0) ∧ Cond.code yX12_brokenLayers cX12_brokenLayers 1 (some .int) ∈ bg_L ∧ Cond.initialized yX12_brokenLayers.cls ∈ bg_L ∧ plainName yX12_brokenLayers.cls = true := ⟨⟨by decide +kernel, by decide +kernel, by decide +kernel⟩, bg_in 1494 (by decide +kernel) rfl, bg_in 85 (by decide +kernel) rfl, by decide +kernel⟩
theorem kt_X12_brokenLayers : Cond.instanceMethod yX12_brokenLayers ∈ bg_L := bg_in 1492 (by decide +kernel) rfl
theorem ke_X12_brokenLayers : Cond.selects RX12 yX12_brokenLayers yX12_brokenLayers ∈ bg_L := bg_in 1493 (by decide +kernel) rfl
theorem kc_X11_warmestSheet : (yX11_warmestSheet.cls ≠ "java/lang/invoke/MethodHandle" ∧ yX11_warmestSheet.cls ≠ "java/lang/invoke/VarHandle" ∧ (parseMethodDescriptor yX11_warmestSheet.desc).map (fun d => d.parameters.length) = some 0) ∧ Cond.code yX11_warmestSheet cX11_warmestSheet 1 (some .int) ∈ bg_L ∧ Cond.initialized yX11_warmestSheet.cls ∈ bg_L ∧ plainName yX11_warmestSheet.cls = true := ⟨⟨by decide +kernel, by decide +kernel, by decide +kernel⟩, bg_in 417 (by decide +kernel) rfl, bg_in 75 (by decide +kernel) rfl, by decide +kernel⟩
theorem kt_X11_warmestSheet : Cond.instanceMethod yX11_warmestSheet ∈ bg_L := bg_in 415 (by decide +kernel) rfl
theorem ke_X11_warmestSheet : Cond.selects RX11 yX11_warmestSheet yX11_warmestSheet ∈ bg_L := bg_in 416 (by decide +kernel) rfl
theorem kc_X12_warmestSheet : (yX12_warmestSheet.cls ≠ "java/lang/invoke/MethodHandle" ∧ yX12_warmestSheet.cls ≠ "java/lang/invoke/VarHandle" ∧ (parseMethodDescriptor yX12_warmestSheet.desc).map (fun d => d.parameters.length) = some 0) ∧ Cond.code yX12_warmestSheet cX12_warmestSheet 1 (some .int) ∈ bg_L ∧ Cond.initialized yX12_warmestSheet.cls ∈ bg_L ∧ plainName yX12_warmestSheet.cls = true := ⟨⟨by decide +kernel, by decide +kernel, by decide +kernel⟩, bg_in 1498 (by decide +kernel) rfl, bg_in 85 (by decide +kernel) rfl, by decide +kernel⟩
theorem kt_X12_warmestSheet : Cond.instanceMethod yX12_warmestSheet ∈ bg_L := bg_in 1496 (by decide +kernel) rfl
theorem ke_X12_warmestSheet : Cond.selects RX12 yX12_warmestSheet yX12_warmestSheet ∈ bg_L := bg_in 1497 (by decide +kernel) rfl
theorem kc_X11_finestSheet : (yX11_finestSheet.cls ≠ "java/lang/invoke/MethodHandle" ∧ yX11_finestSheet.cls ≠ "java/lang/invoke/VarHandle" ∧ (parseMethodDescriptor yX11_finestSheet.desc).map (fun d => d.parameters.length) = some 0) ∧ Cond.code yX11_finestSheet cX11_finestSheet 1 (some .int) ∈ bg_L ∧ Cond.initialized yX11_finestSheet.cls ∈ bg_L ∧ plainName yX11_finestSheet.cls = true := ⟨⟨by decide +kernel, by decide +kernel, by decide +kernel⟩, bg_in 425 (by decide +kernel) rfl, bg_in 75 (by decide +kernel) rfl, by decide +kernel⟩
theorem kt_X11_finestSheet : Cond.instanceMethod yX11_finestSheet ∈ bg_L := bg_in 423 (by decide +kernel) rfl
theorem ke_X11_finestSheet : Cond.selects RX11 yX11_finestSheet yX11_finestSheet ∈ bg_L := bg_in 424 (by decide +kernel) rfl
theorem kc_X12_finestSheet : (yX12_finestSheet.cls ≠ "java/lang/invoke/MethodHandle" ∧ yX12_finestSheet.cls ≠ "java/lang/invoke/VarHandle" ∧ (parseMethodDescriptor yX12_finestSheet.desc).map (fun d => d.parameters.length) = some 0) ∧ Cond.code yX12_finestSheet cX12_finestSheet 1 (some .int) ∈ bg_L ∧ Cond.initialized yX12_finestSheet.cls ∈ bg_L ∧ plainName yX12_finestSheet.cls = true := ⟨⟨by decide +kernel, by decide +kernel, by decide +kernel⟩, bg_in 1506 (by decide +kernel) rfl, bg_in 85 (by decide +kernel) rfl, by decide +kernel⟩
theorem kt_X12_finestSheet : Cond.instanceMethod yX12_finestSheet ∈ bg_L := bg_in 1504 (by decide +kernel) rfl
theorem ke_X12_finestSheet : Cond.selects RX12 yX12_finestSheet yX12_finestSheet ∈ bg_L := bg_in 1505 (by decide +kernel) rfl
theorem kc_L_layerCount : (yL_layerCount.cls ≠ "java/lang/invoke/MethodHandle" ∧ yL_layerCount.cls ≠ "java/lang/invoke/VarHandle" ∧ (parseMethodDescriptor yL_layerCount.desc).map (fun d => d.parameters.length) = some 3) ∧ Cond.codeWith yL_layerCount cL_layerCount 4 (some .int) [(0, 9, 12, 18)] ∈ bg_L ∧ Cond.initialized yL_layerCount.cls ∈ bg_L ∧ plainName yL_layerCount.cls = true := ⟨⟨by decide +kernel, by decide +kernel, by decide +kernel⟩, bg_in 664 (by decide +kernel) rfl, bg_in 74 (by decide +kernel) rfl, by decide +kernel⟩
theorem kt_L_layerCount : Cond.static yL_layerCount ∈ bg_L := bg_in 663 (by decide +kernel) rfl
theorem kc_X12_layerCount : (yX12_layerCount.cls ≠ "java/lang/invoke/MethodHandle" ∧ yX12_layerCount.cls ≠ "java/lang/invoke/VarHandle" ∧ (parseMethodDescriptor yX12_layerCount.desc).map (fun d => d.parameters.length) = some 1) ∧ Cond.code yX12_layerCount cX12_layerCount 2 (some .int) ∈ bg_L ∧ Cond.initialized yX12_layerCount.cls ∈ bg_L ∧ plainName yX12_layerCount.cls = true := ⟨⟨by decide +kernel, by decide +kernel, by decide +kernel⟩, bg_in 1510 (by decide +kernel) rfl, bg_in 85 (by decide +kernel) rfl, by decide +kernel⟩
theorem kt_X12_layerCount : Cond.instanceMethod yX12_layerCount ∈ bg_L := bg_in 1508 (by decide +kernel) rfl
theorem ke_X12_layerCount : Cond.selects RX12 yX12_layerCount yX12_layerCount ∈ bg_L := bg_in 1509 (by decide +kernel) rfl
theorem kc_L_butterLayerCount : (yL_butterLayerCount.cls ≠ "java/lang/invoke/MethodHandle" ∧ yL_butterLayerCount.cls ≠ "java/lang/invoke/VarHandle" ∧ (parseMethodDescriptor yL_butterLayerCount.desc).map (fun d => d.parameters.length) = some 3) ∧ Cond.codeWith yL_butterLayerCount cL_butterLayerCount 4 (some .int) [(0, 9, 12, 18)] ∈ bg_L ∧ Cond.initialized yL_butterLayerCount.cls ∈ bg_L ∧ plainName yL_butterLayerCount.cls = true := ⟨⟨by decide +kernel, by decide +kernel, by decide +kernel⟩, bg_in 696 (by decide +kernel) rfl, bg_in 74 (by decide +kernel) rfl, by decide +kernel⟩
theorem kt_L_butterLayerCount : Cond.static yL_butterLayerCount ∈ bg_L := bg_in 695 (by decide +kernel) rfl
theorem kc_X12_butterLayerCount : (yX12_butterLayerCount.cls ≠ "java/lang/invoke/MethodHandle" ∧ yX12_butterLayerCount.cls ≠ "java/lang/invoke/VarHandle" ∧ (parseMethodDescriptor yX12_butterLayerCount.desc).map (fun d => d.parameters.length) = some 1) ∧ Cond.code yX12_butterLayerCount cX12_butterLayerCount 4 (some .int) ∈ bg_L ∧ Cond.initialized yX12_butterLayerCount.cls ∈ bg_L ∧ plainName yX12_butterLayerCount.cls = true := ⟨⟨by decide +kernel, by decide +kernel, by decide +kernel⟩, bg_in 1529 (by decide +kernel) rfl, bg_in 85 (by decide +kernel) rfl, by decide +kernel⟩
theorem kt_X12_butterLayerCount : Cond.instanceMethod yX12_butterLayerCount ∈ bg_L := bg_in 1527 (by decide +kernel) rfl
theorem ke_X12_butterLayerCount : Cond.selects RX12 yX12_butterLayerCount yX12_butterLayerCount ∈ bg_L := bg_in 1528 (by decide +kernel) rfl
theorem kc_L_isButter : (yL_isButter.cls ≠ "java/lang/invoke/MethodHandle" ∧ yL_isButter.cls ≠ "java/lang/invoke/VarHandle" ∧ (parseMethodDescriptor yL_isButter.desc).map (fun d => d.parameters.length) = some 4) ∧ Cond.codeWith yL_isButter cL_isButter 5 (some .int) [(0, 17, 20, 18)] ∈ bg_L ∧ Cond.initialized yL_isButter.cls ∈ bg_L ∧ plainName yL_isButter.cls = true := ⟨⟨by decide +kernel, by decide +kernel, by decide +kernel⟩, bg_in 707 (by decide +kernel) rfl, bg_in 74 (by decide +kernel) rfl, by decide +kernel⟩
theorem kt_L_isButter : Cond.static yL_isButter ∈ bg_L := bg_in 706 (by decide +kernel) rfl
theorem kc_X12_isButter : (yX12_isButter.cls ≠ "java/lang/invoke/MethodHandle" ∧ yX12_isButter.cls ≠ "java/lang/invoke/VarHandle" ∧ (parseMethodDescriptor yX12_isButter.desc).map (fun d => d.parameters.length) = some 2) ∧ Cond.code yX12_isButter cX12_isButter 3 (some .boolean) ∈ bg_L ∧ Cond.initialized yX12_isButter.cls ∈ bg_L ∧ plainName yX12_isButter.cls = true := ⟨⟨by decide +kernel, by decide +kernel, by decide +kernel⟩, bg_in 1537 (by decide +kernel) rfl, bg_in 85 (by decide +kernel) rfl, by decide +kernel⟩
theorem kt_X12_isButter : Cond.instanceMethod yX12_isButter ∈ bg_L := bg_in 1535 (by decide +kernel) rfl
theorem ke_X12_isButter : Cond.selects RX12 yX12_isButter yX12_isButter ∈ bg_L := bg_in 1536 (by decide +kernel) rfl
theorem kc_L_thickness : (yL_thickness.cls ≠ "java/lang/invoke/MethodHandle" ∧ yL_thickness.cls ≠ "java/lang/invoke/VarHandle" ∧ (parseMethodDescriptor yL_thickness.desc).map (fun d => d.parameters.length) = some 4) ∧ Cond.codeWith yL_thickness cL_thickness 5 (some .int) [(0, 10, 13, 18)] ∈ bg_L ∧ Cond.initialized yL_thickness.cls ∈ bg_L ∧ plainName yL_thickness.cls = true := ⟨⟨by decide +kernel, by decide +kernel, by decide +kernel⟩, bg_in 718 (by decide +kernel) rfl, bg_in 74 (by decide +kernel) rfl, by decide +kernel⟩
theorem kt_L_thickness : Cond.static yL_thickness ∈ bg_L := bg_in 717 (by decide +kernel) rfl
theorem kc_X12_thickness : (yX12_thickness.cls ≠ "java/lang/invoke/MethodHandle" ∧ yX12_thickness.cls ≠ "java/lang/invoke/VarHandle" ∧ (parseMethodDescriptor yX12_thickness.desc).map (fun d => d.parameters.length) = some 2) ∧ Cond.code yX12_thickness cX12_thickness 3 (some .int) ∈ bg_L ∧ Cond.initialized yX12_thickness.cls ∈ bg_L ∧ plainName yX12_thickness.cls = true := ⟨⟨by decide +kernel, by decide +kernel, by decide +kernel⟩, bg_in 1545 (by decide +kernel) rfl, bg_in 85 (by decide +kernel) rfl, by decide +kernel⟩
theorem kt_X12_thickness : Cond.instanceMethod yX12_thickness ∈ bg_L := bg_in 1543 (by decide +kernel) rfl
theorem ke_X12_thickness : Cond.selects RX12 yX12_thickness yX12_thickness ∈ bg_L := bg_in 1544 (by decide +kernel) rfl
theorem kc_L_height : (yL_height.cls ≠ "java/lang/invoke/MethodHandle" ∧ yL_height.cls ≠ "java/lang/invoke/VarHandle" ∧ (parseMethodDescriptor yL_height.desc).map (fun d => d.parameters.length) = some 3) ∧ Cond.codeWith yL_height cL_height 4 (some .int) [(0, 9, 12, 18)] ∈ bg_L ∧ Cond.initialized yL_height.cls ∈ bg_L ∧ plainName yL_height.cls = true := ⟨⟨by decide +kernel, by decide +kernel, by decide +kernel⟩, bg_in 725 (by decide +kernel) rfl, bg_in 74 (by decide +kernel) rfl, by decide +kernel⟩
theorem kt_L_height : Cond.static yL_height ∈ bg_L := bg_in 724 (by decide +kernel) rfl
theorem kc_X12_height : (yX12_height.cls ≠ "java/lang/invoke/MethodHandle" ∧ yX12_height.cls ≠ "java/lang/invoke/VarHandle" ∧ (parseMethodDescriptor yX12_height.desc).map (fun d => d.parameters.length) = some 1) ∧ Cond.code yX12_height cX12_height 2 (some .int) ∈ bg_L ∧ Cond.initialized yX12_height.cls ∈ bg_L ∧ plainName yX12_height.cls = true := ⟨⟨by decide +kernel, by decide +kernel, by decide +kernel⟩, bg_in 1552 (by decide +kernel) rfl, bg_in 85 (by decide +kernel) rfl, by decide +kernel⟩
theorem kt_X12_height : Cond.instanceMethod yX12_height ∈ bg_L := bg_in 1550 (by decide +kernel) rfl
theorem ke_X12_height : Cond.selects RX12 yX12_height yX12_height ∈ bg_L := bg_in 1551 (by decide +kernel) rfl
theorem kc_L_butterHeight : (yL_butterHeight.cls ≠ "java/lang/invoke/MethodHandle" ∧ yL_butterHeight.cls ≠ "java/lang/invoke/VarHandle" ∧ (parseMethodDescriptor yL_butterHeight.desc).map (fun d => d.parameters.length) = some 3) ∧ Cond.codeWith yL_butterHeight cL_butterHeight 4 (some .int) [(0, 9, 12, 18)] ∈ bg_L ∧ Cond.initialized yL_butterHeight.cls ∈ bg_L ∧ plainName yL_butterHeight.cls = true := ⟨⟨by decide +kernel, by decide +kernel, by decide +kernel⟩, bg_in 736 (by decide +kernel) rfl, bg_in 74 (by decide +kernel) rfl, by decide +kernel⟩
theorem kt_L_butterHeight : Cond.static yL_butterHeight ∈ bg_L := bg_in 735 (by decide +kernel) rfl
theorem kc_X12_butterHeight : (yX12_butterHeight.cls ≠ "java/lang/invoke/MethodHandle" ∧ yX12_butterHeight.cls ≠ "java/lang/invoke/VarHandle" ∧ (parseMethodDescriptor yX12_butterHeight.desc).map (fun d => d.parameters.length) = some 1) ∧ Cond.code yX12_butterHeight cX12_butterHeight 2 (some .int) ∈ bg_L ∧ Cond.initialized yX12_butterHeight.cls ∈ bg_L ∧ plainName yX12_butterHeight.cls = true := ⟨⟨by decide +kernel, by decide +kernel, by decide +kernel⟩, bg_in 1560 (by decide +kernel) rfl, bg_in 85 (by decide +kernel) rfl, by decide +kernel⟩
theorem kt_X12_butterHeight : Cond.instanceMethod yX12_butterHeight ∈ bg_L := bg_in 1558 (by decide +kernel) rfl
theorem ke_X12_butterHeight : Cond.selects RX12 yX12_butterHeight yX12_butterHeight ∈ bg_L := bg_in 1559 (by decide +kernel) rfl
theorem kc_L_thinnestLayer : (yL_thinnestLayer.cls ≠ "java/lang/invoke/MethodHandle" ∧ yL_thinnestLayer.cls ≠ "java/lang/invoke/VarHandle" ∧ (parseMethodDescriptor yL_thinnestLayer.desc).map (fun d => d.parameters.length) = some 3) ∧ Cond.codeWith yL_thinnestLayer cL_thinnestLayer 4 (some .int) [(0, 9, 12, 18)] ∈ bg_L ∧ Cond.initialized yL_thinnestLayer.cls ∈ bg_L ∧ plainName yL_thinnestLayer.cls = true := ⟨⟨by decide +kernel, by decide +kernel, by decide +kernel⟩, bg_in 747 (by decide +kernel) rfl, bg_in 74 (by decide +kernel) rfl, by decide +kernel⟩
theorem kt_L_thinnestLayer : Cond.static yL_thinnestLayer ∈ bg_L := bg_in 746 (by decide +kernel) rfl
theorem kc_X12_thinnestLayer : (yX12_thinnestLayer.cls ≠ "java/lang/invoke/MethodHandle" ∧ yX12_thinnestLayer.cls ≠ "java/lang/invoke/VarHandle" ∧ (parseMethodDescriptor yX12_thinnestLayer.desc).map (fun d => d.parameters.length) = some 1) ∧ Cond.code yX12_thinnestLayer cX12_thinnestLayer 2 (some .int) ∈ bg_L ∧ Cond.initialized yX12_thinnestLayer.cls ∈ bg_L ∧ plainName yX12_thinnestLayer.cls = true := ⟨⟨by decide +kernel, by decide +kernel, by decide +kernel⟩, bg_in 1568 (by decide +kernel) rfl, bg_in 85 (by decide +kernel) rfl, by decide +kernel⟩
theorem kt_X12_thinnestLayer : Cond.instanceMethod yX12_thinnestLayer ∈ bg_L := bg_in 1566 (by decide +kernel) rfl
theorem ke_X12_thinnestLayer : Cond.selects RX12 yX12_thinnestLayer yX12_thinnestLayer ∈ bg_L := bg_in 1567 (by decide +kernel) rfl
theorem kc_L_thickestLayer : (yL_thickestLayer.cls ≠ "java/lang/invoke/MethodHandle" ∧ yL_thickestLayer.cls ≠ "java/lang/invoke/VarHandle" ∧ (parseMethodDescriptor yL_thickestLayer.desc).map (fun d => d.parameters.length) = some 3) ∧ Cond.codeWith yL_thickestLayer cL_thickestLayer 4 (some .int) [(0, 9, 12, 18)] ∈ bg_L ∧ Cond.initialized yL_thickestLayer.cls ∈ bg_L ∧ plainName yL_thickestLayer.cls = true := ⟨⟨by decide +kernel, by decide +kernel, by decide +kernel⟩, bg_in 758 (by decide +kernel) rfl, bg_in 74 (by decide +kernel) rfl, by decide +kernel⟩
theorem kt_L_thickestLayer : Cond.static yL_thickestLayer ∈ bg_L := bg_in 757 (by decide +kernel) rfl
theorem kc_X12_thickestLayer : (yX12_thickestLayer.cls ≠ "java/lang/invoke/MethodHandle" ∧ yX12_thickestLayer.cls ≠ "java/lang/invoke/VarHandle" ∧ (parseMethodDescriptor yX12_thickestLayer.desc).map (fun d => d.parameters.length) = some 1) ∧ Cond.code yX12_thickestLayer cX12_thickestLayer 2 (some .int) ∈ bg_L ∧ Cond.initialized yX12_thickestLayer.cls ∈ bg_L ∧ plainName yX12_thickestLayer.cls = true := ⟨⟨by decide +kernel, by decide +kernel, by decide +kernel⟩, bg_in 1576 (by decide +kernel) rfl, bg_in 85 (by decide +kernel) rfl, by decide +kernel⟩
theorem kt_X12_thickestLayer : Cond.instanceMethod yX12_thickestLayer ∈ bg_L := bg_in 1574 (by decide +kernel) rfl
theorem ke_X12_thickestLayer : Cond.selects RX12 yX12_thickestLayer yX12_thickestLayer ∈ bg_L := bg_in 1575 (by decide +kernel) rfl
theorem kc_L_seamCount : (yL_seamCount.cls ≠ "java/lang/invoke/MethodHandle" ∧ yL_seamCount.cls ≠ "java/lang/invoke/VarHandle" ∧ (parseMethodDescriptor yL_seamCount.desc).map (fun d => d.parameters.length) = some 3) ∧ Cond.codeWith yL_seamCount cL_seamCount 4 (some .int) [(0, 9, 12, 18)] ∈ bg_L ∧ Cond.initialized yL_seamCount.cls ∈ bg_L ∧ plainName yL_seamCount.cls = true := ⟨⟨by decide +kernel, by decide +kernel, by decide +kernel⟩, bg_in 769 (by decide +kernel) rfl, bg_in 74 (by decide +kernel) rfl, by decide +kernel⟩
theorem kt_L_seamCount : Cond.static yL_seamCount ∈ bg_L := bg_in 768 (by decide +kernel) rfl
theorem kc_X12_seamCount : (yX12_seamCount.cls ≠ "java/lang/invoke/MethodHandle" ∧ yX12_seamCount.cls ≠ "java/lang/invoke/VarHandle" ∧ (parseMethodDescriptor yX12_seamCount.desc).map (fun d => d.parameters.length) = some 1) ∧ Cond.code yX12_seamCount cX12_seamCount 4 (some .int) ∈ bg_L ∧ Cond.initialized yX12_seamCount.cls ∈ bg_L ∧ plainName yX12_seamCount.cls = true := ⟨⟨by decide +kernel, by decide +kernel, by decide +kernel⟩, bg_in 1580 (by decide +kernel) rfl, bg_in 85 (by decide +kernel) rfl, by decide +kernel⟩
theorem kt_X12_seamCount : Cond.instanceMethod yX12_seamCount ∈ bg_L := bg_in 1578 (by decide +kernel) rfl
theorem ke_X12_seamCount : Cond.selects RX12 yX12_seamCount yX12_seamCount ∈ bg_L := bg_in 1579 (by decide +kernel) rfl
theorem kc_L_isSymmetric : (yL_isSymmetric.cls ≠ "java/lang/invoke/MethodHandle" ∧ yL_isSymmetric.cls ≠ "java/lang/invoke/VarHandle" ∧ (parseMethodDescriptor yL_isSymmetric.desc).map (fun d => d.parameters.length) = some 3) ∧ Cond.codeWith yL_isSymmetric cL_isSymmetric 4 (some .int) [(0, 16, 19, 18)] ∈ bg_L ∧ Cond.initialized yL_isSymmetric.cls ∈ bg_L ∧ plainName yL_isSymmetric.cls = true := ⟨⟨by decide +kernel, by decide +kernel, by decide +kernel⟩, bg_in 780 (by decide +kernel) rfl, bg_in 74 (by decide +kernel) rfl, by decide +kernel⟩
theorem kt_L_isSymmetric : Cond.static yL_isSymmetric ∈ bg_L := bg_in 779 (by decide +kernel) rfl
theorem kc_X12_isSymmetric : (yX12_isSymmetric.cls ≠ "java/lang/invoke/MethodHandle" ∧ yX12_isSymmetric.cls ≠ "java/lang/invoke/VarHandle" ∧ (parseMethodDescriptor yX12_isSymmetric.desc).map (fun d => d.parameters.length) = some 1) ∧ Cond.code yX12_isSymmetric cX12_isSymmetric 3 (some .boolean) ∈ bg_L ∧ Cond.initialized yX12_isSymmetric.cls ∈ bg_L ∧ plainName yX12_isSymmetric.cls = true := ⟨⟨by decide +kernel, by decide +kernel, by decide +kernel⟩, bg_in 1587 (by decide +kernel) rfl, bg_in 85 (by decide +kernel) rfl, by decide +kernel⟩
theorem kt_X12_isSymmetric : Cond.instanceMethod yX12_isSymmetric ∈ bg_L := bg_in 1585 (by decide +kernel) rfl
theorem ke_X12_isSymmetric : Cond.selects RX12 yX12_isSymmetric yX12_isSymmetric ∈ bg_L := bg_in 1586 (by decide +kernel) rfl
theorem kc_L_temperature : (yL_temperature.cls ≠ "java/lang/invoke/MethodHandle" ∧ yL_temperature.cls ≠ "java/lang/invoke/VarHandle" ∧ (parseMethodDescriptor yL_temperature.desc).map (fun d => d.parameters.length) = some 3) ∧ Cond.codeWith yL_temperature cL_temperature 4 (some .int) [(0, 9, 12, 18)] ∈ bg_L ∧ Cond.initialized yL_temperature.cls ∈ bg_L ∧ plainName yL_temperature.cls = true := ⟨⟨by decide +kernel, by decide +kernel, by decide +kernel⟩, bg_in 791 (by decide +kernel) rfl, bg_in 74 (by decide +kernel) rfl, by decide +kernel⟩
theorem kt_L_temperature : Cond.static yL_temperature ∈ bg_L := bg_in 790 (by decide +kernel) rfl
theorem kc_X12_temperature : (yX12_temperature.cls ≠ "java/lang/invoke/MethodHandle" ∧ yX12_temperature.cls ≠ "java/lang/invoke/VarHandle" ∧ (parseMethodDescriptor yX12_temperature.desc).map (fun d => d.parameters.length) = some 1) ∧ Cond.code yX12_temperature cX12_temperature 2 (some .int) ∈ bg_L ∧ Cond.initialized yX12_temperature.cls ∈ bg_L ∧ plainName yX12_temperature.cls = true := ⟨⟨by decide +kernel, by decide +kernel, by decide +kernel⟩, bg_in 1591 (by decide +kernel) rfl, bg_in 85 (by decide +kernel) rfl, by decide +kernel⟩
theorem kt_X12_temperature : Cond.instanceMethod yX12_temperature ∈ bg_L := bg_in 1589 (by decide +kernel) rfl
theorem ke_X12_temperature : Cond.selects RX12 yX12_temperature yX12_temperature ∈ bg_L := bg_in 1590 (by decide +kernel) rfl
theorem kc_L_isDusted : (yL_isDusted.cls ≠ "java/lang/invoke/MethodHandle" ∧ yL_isDusted.cls ≠ "java/lang/invoke/VarHandle" ∧ (parseMethodDescriptor yL_isDusted.desc).map (fun d => d.parameters.length) = some 3) ∧ Cond.codeWith yL_isDusted cL_isDusted 4 (some .int) [(0, 16, 19, 18)] ∈ bg_L ∧ Cond.initialized yL_isDusted.cls ∈ bg_L ∧ plainName yL_isDusted.cls = true := ⟨⟨by decide +kernel, by decide +kernel, by decide +kernel⟩, bg_in 798 (by decide +kernel) rfl, bg_in 74 (by decide +kernel) rfl, by decide +kernel⟩
theorem kt_L_isDusted : Cond.static yL_isDusted ∈ bg_L := bg_in 797 (by decide +kernel) rfl
theorem kc_X12_isDusted : (yX12_isDusted.cls ≠ "java/lang/invoke/MethodHandle" ∧ yX12_isDusted.cls ≠ "java/lang/invoke/VarHandle" ∧ (parseMethodDescriptor yX12_isDusted.desc).map (fun d => d.parameters.length) = some 1) ∧ Cond.code yX12_isDusted cX12_isDusted 2 (some .boolean) ∈ bg_L ∧ Cond.initialized yX12_isDusted.cls ∈ bg_L ∧ plainName yX12_isDusted.cls = true := ⟨⟨by decide +kernel, by decide +kernel, by decide +kernel⟩, bg_in 1595 (by decide +kernel) rfl, bg_in 85 (by decide +kernel) rfl, by decide +kernel⟩
theorem kt_X12_isDusted : Cond.instanceMethod yX12_isDusted ∈ bg_L := bg_in 1593 (by decide +kernel) rfl
theorem ke_X12_isDusted : Cond.selects RX12 yX12_isDusted yX12_isDusted ∈ bg_L := bg_in 1594 (by decide +kernel) rfl
theorem kc_L_isSealed : (yL_isSealed.cls ≠ "java/lang/invoke/MethodHandle" ∧ yL_isSealed.cls ≠ "java/lang/invoke/VarHandle" ∧ (parseMethodDescriptor yL_isSealed.desc).map (fun d => d.parameters.length) = some 3) ∧ Cond.codeWith yL_isSealed cL_isSealed 4 (some .int) [(0, 16, 19, 18)] ∈ bg_L ∧ Cond.initialized yL_isSealed.cls ∈ bg_L ∧ plainName yL_isSealed.cls = true := ⟨⟨by decide +kernel, by decide +kernel, by decide +kernel⟩, bg_in 805 (by decide +kernel) rfl, bg_in 74 (by decide +kernel) rfl, by decide +kernel⟩
theorem kt_L_isSealed : Cond.static yL_isSealed ∈ bg_L := bg_in 804 (by decide +kernel) rfl
theorem kc_X12_isSealed : (yX12_isSealed.cls ≠ "java/lang/invoke/MethodHandle" ∧ yX12_isSealed.cls ≠ "java/lang/invoke/VarHandle" ∧ (parseMethodDescriptor yX12_isSealed.desc).map (fun d => d.parameters.length) = some 1) ∧ Cond.code yX12_isSealed cX12_isSealed 2 (some .boolean) ∈ bg_L ∧ Cond.initialized yX12_isSealed.cls ∈ bg_L ∧ plainName yX12_isSealed.cls = true := ⟨⟨by decide +kernel, by decide +kernel, by decide +kernel⟩, bg_in 1607 (by decide +kernel) rfl, bg_in 85 (by decide +kernel) rfl, by decide +kernel⟩
theorem kt_X12_isSealed : Cond.instanceMethod yX12_isSealed ∈ bg_L := bg_in 1605 (by decide +kernel) rfl
theorem ke_X12_isSealed : Cond.selects RX12 yX12_isSealed yX12_isSealed ∈ bg_L := bg_in 1606 (by decide +kernel) rfl
theorem kc_L_isCooling : (yL_isCooling.cls ≠ "java/lang/invoke/MethodHandle" ∧ yL_isCooling.cls ≠ "java/lang/invoke/VarHandle" ∧ (parseMethodDescriptor yL_isCooling.desc).map (fun d => d.parameters.length) = some 3) ∧ Cond.codeWith yL_isCooling cL_isCooling 4 (some .int) [(0, 16, 19, 18)] ∈ bg_L ∧ Cond.initialized yL_isCooling.cls ∈ bg_L ∧ plainName yL_isCooling.cls = true := ⟨⟨by decide +kernel, by decide +kernel, by decide +kernel⟩, bg_in 812 (by decide +kernel) rfl, bg_in 74 (by decide +kernel) rfl, by decide +kernel⟩
theorem kt_L_isCooling : Cond.static yL_isCooling ∈ bg_L := bg_in 811 (by decide +kernel) rfl
theorem kc_X12_isCooling : (yX12_isCooling.cls ≠ "java/lang/invoke/MethodHandle" ∧ yX12_isCooling.cls ≠ "java/lang/invoke/VarHandle" ∧ (parseMethodDescriptor yX12_isCooling.desc).map (fun d => d.parameters.length) = some 1) ∧ Cond.code yX12_isCooling cX12_isCooling 2 (some .boolean) ∈ bg_L ∧ Cond.initialized yX12_isCooling.cls ∈ bg_L ∧ plainName yX12_isCooling.cls = true := ⟨⟨by decide +kernel, by decide +kernel, by decide +kernel⟩, bg_in 1611 (by decide +kernel) rfl, bg_in 85 (by decide +kernel) rfl, by decide +kernel⟩
theorem kt_X12_isCooling : Cond.instanceMethod yX12_isCooling ∈ bg_L := bg_in 1609 (by decide +kernel) rfl
theorem ke_X12_isCooling : Cond.selects RX12 yX12_isCooling yX12_isCooling ∈ bg_L := bg_in 1610 (by decide +kernel) rfl
theorem kc_L_foldCount : (yL_foldCount.cls ≠ "java/lang/invoke/MethodHandle" ∧ yL_foldCount.cls ≠ "java/lang/invoke/VarHandle" ∧ (parseMethodDescriptor yL_foldCount.desc).map (fun d => d.parameters.length) = some 3) ∧ Cond.codeWith yL_foldCount cL_foldCount 4 (some .int) [(0, 9, 12, 18)] ∈ bg_L ∧ Cond.initialized yL_foldCount.cls ∈ bg_L ∧ plainName yL_foldCount.cls = true := ⟨⟨by decide +kernel, by decide +kernel, by decide +kernel⟩, bg_in 819 (by decide +kernel) rfl, bg_in 74 (by decide +kernel) rfl, by decide +kernel⟩
theorem kt_L_foldCount : Cond.static yL_foldCount ∈ bg_L := bg_in 818 (by decide +kernel) rfl
theorem kc_X12_foldCount : (yX12_foldCount.cls ≠ "java/lang/invoke/MethodHandle" ∧ yX12_foldCount.cls ≠ "java/lang/invoke/VarHandle" ∧ (parseMethodDescriptor yX12_foldCount.desc).map (fun d => d.parameters.length) = some 1) ∧ Cond.code yX12_foldCount cX12_foldCount 2 (some .int) ∈ bg_L ∧ Cond.initialized yX12_foldCount.cls ∈ bg_L ∧ plainName yX12_foldCount.cls = true := ⟨⟨by decide +kernel, by decide +kernel, by decide +kernel⟩, bg_in 1615 (by decide +kernel) rfl, bg_in 85 (by decide +kernel) rfl, by decide +kernel⟩
theorem kt_X12_foldCount : Cond.instanceMethod yX12_foldCount ∈ bg_L := bg_in 1613 (by decide +kernel) rfl
theorem ke_X12_foldCount : Cond.selects RX12 yX12_foldCount yX12_foldCount ∈ bg_L := bg_in 1614 (by decide +kernel) rfl
theorem kc_L_expectedLayers : (yL_expectedLayers.cls ≠ "java/lang/invoke/MethodHandle" ∧ yL_expectedLayers.cls ≠ "java/lang/invoke/VarHandle" ∧ (parseMethodDescriptor yL_expectedLayers.desc).map (fun d => d.parameters.length) = some 3) ∧ Cond.codeWith yL_expectedLayers cL_expectedLayers 4 (some .int) [(0, 9, 12, 18)] ∈ bg_L ∧ Cond.initialized yL_expectedLayers.cls ∈ bg_L ∧ plainName yL_expectedLayers.cls = true := ⟨⟨by decide +kernel, by decide +kernel, by decide +kernel⟩, bg_in 826 (by decide +kernel) rfl, bg_in 74 (by decide +kernel) rfl, by decide +kernel⟩
theorem kt_L_expectedLayers : Cond.static yL_expectedLayers ∈ bg_L := bg_in 825 (by decide +kernel) rfl
theorem kc_X12_expectedLayers : (yX12_expectedLayers.cls ≠ "java/lang/invoke/MethodHandle" ∧ yX12_expectedLayers.cls ≠ "java/lang/invoke/VarHandle" ∧ (parseMethodDescriptor yX12_expectedLayers.desc).map (fun d => d.parameters.length) = some 1) ∧ Cond.code yX12_expectedLayers cX12_expectedLayers 2 (some .int) ∈ bg_L ∧ Cond.initialized yX12_expectedLayers.cls ∈ bg_L ∧ plainName yX12_expectedLayers.cls = true := ⟨⟨by decide +kernel, by decide +kernel, by decide +kernel⟩, bg_in 1619 (by decide +kernel) rfl, bg_in 85 (by decide +kernel) rfl, by decide +kernel⟩
theorem kt_X12_expectedLayers : Cond.instanceMethod yX12_expectedLayers ∈ bg_L := bg_in 1617 (by decide +kernel) rfl
theorem ke_X12_expectedLayers : Cond.selects RX12 yX12_expectedLayers yX12_expectedLayers ∈ bg_L := bg_in 1618 (by decide +kernel) rfl
theorem kc_L_butterShare : (yL_butterShare.cls ≠ "java/lang/invoke/MethodHandle" ∧ yL_butterShare.cls ≠ "java/lang/invoke/VarHandle" ∧ (parseMethodDescriptor yL_butterShare.desc).map (fun d => d.parameters.length) = some 3) ∧ Cond.codeWith yL_butterShare cL_butterShare 4 (some .int) [(0, 9, 12, 18)] ∈ bg_L ∧ Cond.initialized yL_butterShare.cls ∈ bg_L ∧ plainName yL_butterShare.cls = true := ⟨⟨by decide +kernel, by decide +kernel, by decide +kernel⟩, bg_in 833 (by decide +kernel) rfl, bg_in 74 (by decide +kernel) rfl, by decide +kernel⟩
theorem kt_L_butterShare : Cond.static yL_butterShare ∈ bg_L := bg_in 832 (by decide +kernel) rfl
theorem kc_X12_butterShare : (yX12_butterShare.cls ≠ "java/lang/invoke/MethodHandle" ∧ yX12_butterShare.cls ≠ "java/lang/invoke/VarHandle" ∧ (parseMethodDescriptor yX12_butterShare.desc).map (fun d => d.parameters.length) = some 1) ∧ Cond.code yX12_butterShare cX12_butterShare 2 (some .float) ∈ bg_L ∧ Cond.initialized yX12_butterShare.cls ∈ bg_L ∧ plainName yX12_butterShare.cls = true := ⟨⟨by decide +kernel, by decide +kernel, by decide +kernel⟩, bg_in 1623 (by decide +kernel) rfl, bg_in 85 (by decide +kernel) rfl, by decide +kernel⟩
theorem kt_X12_butterShare : Cond.instanceMethod yX12_butterShare ∈ bg_L := bg_in 1621 (by decide +kernel) rfl
theorem ke_X12_butterShare : Cond.selects RX12 yX12_butterShare yX12_butterShare ∈ bg_L := bg_in 1622 (by decide +kernel) rfl
theorem kc_L_meanThickness : (yL_meanThickness.cls ≠ "java/lang/invoke/MethodHandle" ∧ yL_meanThickness.cls ≠ "java/lang/invoke/VarHandle" ∧ (parseMethodDescriptor yL_meanThickness.desc).map (fun d => d.parameters.length) = some 3) ∧ Cond.codeWith yL_meanThickness cL_meanThickness 4 (some .int) [(0, 8, 11, 18)] ∈ bg_L ∧ Cond.initialized yL_meanThickness.cls ∈ bg_L ∧ plainName yL_meanThickness.cls = true := ⟨⟨by decide +kernel, by decide +kernel, by decide +kernel⟩, bg_in 840 (by decide +kernel) rfl, bg_in 74 (by decide +kernel) rfl, by decide +kernel⟩
theorem kt_L_meanThickness : Cond.static yL_meanThickness ∈ bg_L := bg_in 839 (by decide +kernel) rfl
theorem kc_X12_meanThickness : (yX12_meanThickness.cls ≠ "java/lang/invoke/MethodHandle" ∧ yX12_meanThickness.cls ≠ "java/lang/invoke/VarHandle" ∧ (parseMethodDescriptor yX12_meanThickness.desc).map (fun d => d.parameters.length) = some 1) ∧ Cond.code yX12_meanThickness cX12_meanThickness 2 (some .double) ∈ bg_L ∧ Cond.initialized yX12_meanThickness.cls ∈ bg_L ∧ plainName yX12_meanThickness.cls = true := ⟨⟨by decide +kernel, by decide +kernel, by decide +kernel⟩, bg_in 1627 (by decide +kernel) rfl, bg_in 85 (by decide +kernel) rfl, by decide +kernel⟩
theorem kt_X12_meanThickness : Cond.instanceMethod yX12_meanThickness ∈ bg_L := bg_in 1625 (by decide +kernel) rfl
theorem ke_X12_meanThickness : Cond.selects RX12 yX12_meanThickness yX12_meanThickness ∈ bg_L := bg_in 1626 (by decide +kernel) rfl
theorem kc_L_foldObstacle : (yL_foldObstacle.cls ≠ "java/lang/invoke/MethodHandle" ∧ yL_foldObstacle.cls ≠ "java/lang/invoke/VarHandle" ∧ (parseMethodDescriptor yL_foldObstacle.desc).map (fun d => d.parameters.length) = some 4) ∧ Cond.codeWith yL_foldObstacle cL_foldObstacle 5 (some .int) [(0, 10, 13, 18), (0, 10, 17, 13)] ∈ bg_L ∧ Cond.initialized yL_foldObstacle.cls ∈ bg_L ∧ plainName yL_foldObstacle.cls = true := ⟨⟨by decide +kernel, by decide +kernel, by decide +kernel⟩, bg_in 847 (by decide +kernel) rfl, bg_in 74 (by decide +kernel) rfl, by decide +kernel⟩
theorem kt_L_foldObstacle : Cond.static yL_foldObstacle ∈ bg_L := bg_in 846 (by decide +kernel) rfl
theorem kc_X12_foldObstacle : (yX12_foldObstacle.cls ≠ "java/lang/invoke/MethodHandle" ∧ yX12_foldObstacle.cls ≠ "java/lang/invoke/VarHandle" ∧ (parseMethodDescriptor yX12_foldObstacle.desc).map (fun d => d.parameters.length) = some 2) ∧ Cond.code yX12_foldObstacle cX12_foldObstacle 3 (some .int) ∈ bg_L ∧ Cond.initialized yX12_foldObstacle.cls ∈ bg_L ∧ plainName yX12_foldObstacle.cls = true := ⟨⟨by decide +kernel, by decide +kernel, by decide +kernel⟩, bg_in 1631 (by decide +kernel) rfl, bg_in 85 (by decide +kernel) rfl, by decide +kernel⟩
theorem kt_X12_foldObstacle : Cond.instanceMethod yX12_foldObstacle ∈ bg_L := bg_in 1629 (by decide +kernel) rfl
theorem ke_X12_foldObstacle : Cond.selects RX12 yX12_foldObstacle yX12_foldObstacle ∈ bg_L := bg_in 1630 (by decide +kernel) rfl
theorem kc_L_layersAfterFold : (yL_layersAfterFold.cls ≠ "java/lang/invoke/MethodHandle" ∧ yL_layersAfterFold.cls ≠ "java/lang/invoke/VarHandle" ∧ (parseMethodDescriptor yL_layersAfterFold.desc).map (fun d => d.parameters.length) = some 4) ∧ Cond.codeWith yL_layersAfterFold cL_layersAfterFold 5 (some .int) [(0, 10, 13, 18), (0, 10, 17, 13)] ∈ bg_L ∧ Cond.initialized yL_layersAfterFold.cls ∈ bg_L ∧ plainName yL_layersAfterFold.cls = true := ⟨⟨by decide +kernel, by decide +kernel, by decide +kernel⟩, bg_in 869 (by decide +kernel) rfl, bg_in 74 (by decide +kernel) rfl, by decide +kernel⟩
theorem kt_L_layersAfterFold : Cond.static yL_layersAfterFold ∈ bg_L := bg_in 868 (by decide +kernel) rfl
theorem kc_X12_layersAfterFold : (yX12_layersAfterFold.cls ≠ "java/lang/invoke/MethodHandle" ∧ yX12_layersAfterFold.cls ≠ "java/lang/invoke/VarHandle" ∧ (parseMethodDescriptor yX12_layersAfterFold.desc).map (fun d => d.parameters.length) = some 2) ∧ Cond.code yX12_layersAfterFold cX12_layersAfterFold 3 (some .int) ∈ bg_L ∧ Cond.initialized yX12_layersAfterFold.cls ∈ bg_L ∧ plainName yX12_layersAfterFold.cls = true := ⟨⟨by decide +kernel, by decide +kernel, by decide +kernel⟩, bg_in 1653 (by decide +kernel) rfl, bg_in 85 (by decide +kernel) rfl, by decide +kernel⟩
theorem kt_X12_layersAfterFold : Cond.instanceMethod yX12_layersAfterFold ∈ bg_L := bg_in 1651 (by decide +kernel) rfl
theorem ke_X12_layersAfterFold : Cond.selects RX12 yX12_layersAfterFold yX12_layersAfterFold ∈ bg_L := bg_in 1652 (by decide +kernel) rfl
theorem kc_L_foldsPossible : (yL_foldsPossible.cls ≠ "java/lang/invoke/MethodHandle" ∧ yL_foldsPossible.cls ≠ "java/lang/invoke/VarHandle" ∧ (parseMethodDescriptor yL_foldsPossible.desc).map (fun d => d.parameters.length) = some 4) ∧ Cond.codeWith yL_foldsPossible cL_foldsPossible 5 (some .int) [(0, 10, 13, 18), (0, 10, 17, 13)] ∈ bg_L ∧ Cond.initialized yL_foldsPossible.cls ∈ bg_L ∧ plainName yL_foldsPossible.cls = true := ⟨⟨by decide +kernel, by decide +kernel, by decide +kernel⟩, bg_in 877 (by decide +kernel) rfl, bg_in 74 (by decide +kernel) rfl, by decide +kernel⟩
theorem kt_L_foldsPossible : Cond.static yL_foldsPossible ∈ bg_L := bg_in 876 (by decide +kernel) rfl
theorem kc_X12_foldsPossible : (yX12_foldsPossible.cls ≠ "java/lang/invoke/MethodHandle" ∧ yX12_foldsPossible.cls ≠ "java/lang/invoke/VarHandle" ∧ (parseMethodDescriptor yX12_foldsPossible.desc).map (fun d => d.parameters.length) = some 2) ∧ Cond.code yX12_foldsPossible cX12_foldsPossible 6 (some .int) ∈ bg_L ∧ Cond.initialized yX12_foldsPossible.cls ∈ bg_L ∧ plainName yX12_foldsPossible.cls = true := ⟨⟨by decide +kernel, by decide +kernel, by decide +kernel⟩, bg_in 1657 (by decide +kernel) rfl, bg_in 85 (by decide +kernel) rfl, by decide +kernel⟩
theorem kt_X12_foldsPossible : Cond.instanceMethod yX12_foldsPossible ∈ bg_L := bg_in 1655 (by decide +kernel) rfl
theorem ke_X12_foldsPossible : Cond.selects RX12 yX12_foldsPossible yX12_foldsPossible ∈ bg_L := bg_in 1656 (by decide +kernel) rfl
theorem kc_L_butterAtRisk : (yL_butterAtRisk.cls ≠ "java/lang/invoke/MethodHandle" ∧ yL_butterAtRisk.cls ≠ "java/lang/invoke/VarHandle" ∧ (parseMethodDescriptor yL_butterAtRisk.desc).map (fun d => d.parameters.length) = some 3) ∧ Cond.codeWith yL_butterAtRisk cL_butterAtRisk 4 (some .int) [(0, 9, 12, 18)] ∈ bg_L ∧ Cond.initialized yL_butterAtRisk.cls ∈ bg_L ∧ plainName yL_butterAtRisk.cls = true := ⟨⟨by decide +kernel, by decide +kernel, by decide +kernel⟩, bg_in 888 (by decide +kernel) rfl, bg_in 74 (by decide +kernel) rfl, by decide +kernel⟩
theorem kt_L_butterAtRisk : Cond.static yL_butterAtRisk ∈ bg_L := bg_in 887 (by decide +kernel) rfl
theorem kc_X12_butterAtRisk : (yX12_butterAtRisk.cls ≠ "java/lang/invoke/MethodHandle" ∧ yX12_butterAtRisk.cls ≠ "java/lang/invoke/VarHandle" ∧ (parseMethodDescriptor yX12_butterAtRisk.desc).map (fun d => d.parameters.length) = some 1) ∧ Cond.code yX12_butterAtRisk cX12_butterAtRisk 2 (some .int) ∈ bg_L ∧ Cond.initialized yX12_butterAtRisk.cls ∈ bg_L ∧ plainName yX12_butterAtRisk.cls = true := ⟨⟨by decide +kernel, by decide +kernel, by decide +kernel⟩, bg_in 1661 (by decide +kernel) rfl, bg_in 85 (by decide +kernel) rfl, by decide +kernel⟩
theorem kt_X12_butterAtRisk : Cond.instanceMethod yX12_butterAtRisk ∈ bg_L := bg_in 1659 (by decide +kernel) rfl
theorem ke_X12_butterAtRisk : Cond.selects RX12 yX12_butterAtRisk yX12_butterAtRisk ∈ bg_L := bg_in 1660 (by decide +kernel) rfl
theorem kc_L_layersAtRisk : (yL_layersAtRisk.cls ≠ "java/lang/invoke/MethodHandle" ∧ yL_layersAtRisk.cls ≠ "java/lang/invoke/VarHandle" ∧ (parseMethodDescriptor yL_layersAtRisk.desc).map (fun d => d.parameters.length) = some 4) ∧ Cond.codeWith yL_layersAtRisk cL_layersAtRisk 5 (some .int) [(0, 10, 13, 18), (0, 10, 17, 13)] ∈ bg_L ∧ Cond.initialized yL_layersAtRisk.cls ∈ bg_L ∧ plainName yL_layersAtRisk.cls = true := ⟨⟨by decide +kernel, by decide +kernel, by decide +kernel⟩, bg_in 907 (by decide +kernel) rfl, bg_in 74 (by decide +kernel) rfl, by decide +kernel⟩
theorem kt_L_layersAtRisk : Cond.static yL_layersAtRisk ∈ bg_L := bg_in 906 (by decide +kernel) rfl
theorem kc_X12_layersAtRisk : (yX12_layersAtRisk.cls ≠ "java/lang/invoke/MethodHandle" ∧ yX12_layersAtRisk.cls ≠ "java/lang/invoke/VarHandle" ∧ (parseMethodDescriptor yX12_layersAtRisk.desc).map (fun d => d.parameters.length) = some 2) ∧ Cond.code yX12_layersAtRisk cX12_layersAtRisk 3 (some .int) ∈ bg_L ∧ Cond.initialized yX12_layersAtRisk.cls ∈ bg_L ∧ plainName yX12_layersAtRisk.cls = true := ⟨⟨by decide +kernel, by decide +kernel, by decide +kernel⟩, bg_in 1683 (by decide +kernel) rfl, bg_in 85 (by decide +kernel) rfl, by decide +kernel⟩
theorem kt_X12_layersAtRisk : Cond.instanceMethod yX12_layersAtRisk ∈ bg_L := bg_in 1681 (by decide +kernel) rfl
theorem ke_X12_layersAtRisk : Cond.selects RX12 yX12_layersAtRisk yX12_layersAtRisk ∈ bg_L := bg_in 1682 (by decide +kernel) rfl
theorem kc_L_heightAfterRoll : (yL_heightAfterRoll.cls ≠ "java/lang/invoke/MethodHandle" ∧ yL_heightAfterRoll.cls ≠ "java/lang/invoke/VarHandle" ∧ (parseMethodDescriptor yL_heightAfterRoll.desc).map (fun d => d.parameters.length) = some 4) ∧ Cond.codeWith yL_heightAfterRoll cL_heightAfterRoll 5 (some .int) [(0, 10, 13, 18), (0, 10, 17, 13)] ∈ bg_L ∧ Cond.initialized yL_heightAfterRoll.cls ∈ bg_L ∧ plainName yL_heightAfterRoll.cls = true := ⟨⟨by decide +kernel, by decide +kernel, by decide +kernel⟩, bg_in 922 (by decide +kernel) rfl, bg_in 74 (by decide +kernel) rfl, by decide +kernel⟩
theorem kt_L_heightAfterRoll : Cond.static yL_heightAfterRoll ∈ bg_L := bg_in 921 (by decide +kernel) rfl
theorem kc_X12_heightAfterRoll : (yX12_heightAfterRoll.cls ≠ "java/lang/invoke/MethodHandle" ∧ yX12_heightAfterRoll.cls ≠ "java/lang/invoke/VarHandle" ∧ (parseMethodDescriptor yX12_heightAfterRoll.desc).map (fun d => d.parameters.length) = some 2) ∧ Cond.code yX12_heightAfterRoll cX12_heightAfterRoll 3 (some .int) ∈ bg_L ∧ Cond.initialized yX12_heightAfterRoll.cls ∈ bg_L ∧ plainName yX12_heightAfterRoll.cls = true := ⟨⟨by decide +kernel, by decide +kernel, by decide +kernel⟩, bg_in 1687 (by decide +kernel) rfl, bg_in 85 (by decide +kernel) rfl, by decide +kernel⟩
theorem kt_X12_heightAfterRoll : Cond.instanceMethod yX12_heightAfterRoll ∈ bg_L := bg_in 1685 (by decide +kernel) rfl
theorem ke_X12_heightAfterRoll : Cond.selects RX12 yX12_heightAfterRoll yX12_heightAfterRoll ∈ bg_L := bg_in 1686 (by decide +kernel) rfl
theorem kc_L_temperatureAfter : (yL_temperatureAfter.cls ≠ "java/lang/invoke/MethodHandle" ∧ yL_temperatureAfter.cls ≠ "java/lang/invoke/VarHandle" ∧ (parseMethodDescriptor yL_temperatureAfter.desc).map (fun d => d.parameters.length) = some 4) ∧ Cond.codeWith yL_temperatureAfter cL_temperatureAfter 5 (some .int) [(0, 10, 13, 18), (0, 10, 17, 13)] ∈ bg_L ∧ Cond.initialized yL_temperatureAfter.cls ∈ bg_L ∧ plainName yL_temperatureAfter.cls = true := ⟨⟨by decide +kernel, by decide +kernel, by decide +kernel⟩, bg_in 933 (by decide +kernel) rfl, bg_in 74 (by decide +kernel) rfl, by decide +kernel⟩
theorem kt_L_temperatureAfter : Cond.static yL_temperatureAfter ∈ bg_L := bg_in 932 (by decide +kernel) rfl
theorem kc_X12_temperatureAfter : (yX12_temperatureAfter.cls ≠ "java/lang/invoke/MethodHandle" ∧ yX12_temperatureAfter.cls ≠ "java/lang/invoke/VarHandle" ∧ (parseMethodDescriptor yX12_temperatureAfter.desc).map (fun d => d.parameters.length) = some 2) ∧ Cond.code yX12_temperatureAfter cX12_temperatureAfter 5 (some .int) ∈ bg_L ∧ Cond.initialized yX12_temperatureAfter.cls ∈ bg_L ∧ plainName yX12_temperatureAfter.cls = true := ⟨⟨by decide +kernel, by decide +kernel, by decide +kernel⟩, bg_in 1691 (by decide +kernel) rfl, bg_in 85 (by decide +kernel) rfl, by decide +kernel⟩
theorem kt_X12_temperatureAfter : Cond.instanceMethod yX12_temperatureAfter ∈ bg_L := bg_in 1689 (by decide +kernel) rfl
theorem ke_X12_temperatureAfter : Cond.selects RX12 yX12_temperatureAfter yX12_temperatureAfter ∈ bg_L := bg_in 1690 (by decide +kernel) rfl
theorem kc_L_hoursToSafety : (yL_hoursToSafety.cls ≠ "java/lang/invoke/MethodHandle" ∧ yL_hoursToSafety.cls ≠ "java/lang/invoke/VarHandle" ∧ (parseMethodDescriptor yL_hoursToSafety.desc).map (fun d => d.parameters.length) = some 3) ∧ Cond.codeWith yL_hoursToSafety cL_hoursToSafety 4 (some .int) [(0, 9, 12, 18)] ∈ bg_L ∧ Cond.initialized yL_hoursToSafety.cls ∈ bg_L ∧ plainName yL_hoursToSafety.cls = true := ⟨⟨by decide +kernel, by decide +kernel, by decide +kernel⟩, bg_in 952 (by decide +kernel) rfl, bg_in 74 (by decide +kernel) rfl, by decide +kernel⟩
theorem kt_L_hoursToSafety : Cond.static yL_hoursToSafety ∈ bg_L := bg_in 951 (by decide +kernel) rfl
theorem kc_X12_hoursToSafety : (yX12_hoursToSafety.cls ≠ "java/lang/invoke/MethodHandle" ∧ yX12_hoursToSafety.cls ≠ "java/lang/invoke/VarHandle" ∧ (parseMethodDescriptor yX12_hoursToSafety.desc).map (fun d => d.parameters.length) = some 1) ∧ Cond.code yX12_hoursToSafety cX12_hoursToSafety 4 (some .int) ∈ bg_L ∧ Cond.initialized yX12_hoursToSafety.cls ∈ bg_L ∧ plainName yX12_hoursToSafety.cls = true := ⟨⟨by decide +kernel, by decide +kernel, by decide +kernel⟩, bg_in 1702 (by decide +kernel) rfl, bg_in 85 (by decide +kernel) rfl, by decide +kernel⟩
theorem kt_X12_hoursToSafety : Cond.instanceMethod yX12_hoursToSafety ∈ bg_L := bg_in 1700 (by decide +kernel) rfl
theorem ke_X12_hoursToSafety : Cond.selects RX12 yX12_hoursToSafety yX12_hoursToSafety ∈ bg_L := bg_in 1701 (by decide +kernel) rfl
theorem kc_L_fold : (yL_fold.cls ≠ "java/lang/invoke/MethodHandle" ∧ yL_fold.cls ≠ "java/lang/invoke/VarHandle" ∧ (parseMethodDescriptor yL_fold.desc).map (fun d => d.parameters.length) = some 4) ∧ Cond.codeWith yL_fold cL_fold 5 (some .int) [(0, 10, 13, 18), (0, 10, 17, 13), (0, 10, 21, 103)] ∈ bg_L ∧ Cond.initialized yL_fold.cls ∈ bg_L ∧ plainName yL_fold.cls = true := ⟨⟨by decide +kernel, by decide +kernel, by decide +kernel⟩, bg_in 963 (by decide +kernel) rfl, bg_in 74 (by decide +kernel) rfl, by decide +kernel⟩
theorem kt_L_fold : Cond.static yL_fold ∈ bg_L := bg_in 962 (by decide +kernel) rfl
theorem kc_X12_fold : (yX12_fold.cls ≠ "java/lang/invoke/MethodHandle" ∧ yX12_fold.cls ≠ "java/lang/invoke/VarHandle" ∧ (parseMethodDescriptor yX12_fold.desc).map (fun d => d.parameters.length) = some 2) ∧ Cond.code yX12_fold cX12_fold 3 (some .int) ∈ bg_L ∧ Cond.initialized yX12_fold.cls ∈ bg_L ∧ plainName yX12_fold.cls = true := ⟨⟨by decide +kernel, by decide +kernel, by decide +kernel⟩, bg_in 1706 (by decide +kernel) rfl, bg_in 85 (by decide +kernel) rfl, by decide +kernel⟩
theorem kt_X12_fold : Cond.instanceMethod yX12_fold ∈ bg_L := bg_in 1704 (by decide +kernel) rfl
theorem ke_X12_fold : Cond.selects RX12 yX12_fold yX12_fold ∈ bg_L := bg_in 1705 (by decide +kernel) rfl
theorem kc_L_roll : (yL_roll.cls ≠ "java/lang/invoke/MethodHandle" ∧ yL_roll.cls ≠ "java/lang/invoke/VarHandle" ∧ (parseMethodDescriptor yL_roll.desc).map (fun d => d.parameters.length) = some 4) ∧ Cond.codeWith yL_roll cL_roll 5 (some .int) [(0, 10, 13, 18), (0, 10, 17, 13), (0, 10, 21, 103)] ∈ bg_L ∧ Cond.initialized yL_roll.cls ∈ bg_L ∧ plainName yL_roll.cls = true := ⟨⟨by decide +kernel, by decide +kernel, by decide +kernel⟩, bg_in 1033 (by decide +kernel) rfl, bg_in 74 (by decide +kernel) rfl, by decide +kernel⟩
theorem kt_L_roll : Cond.static yL_roll ∈ bg_L := bg_in 1032 (by decide +kernel) rfl
theorem kc_X12_roll : (yX12_roll.cls ≠ "java/lang/invoke/MethodHandle" ∧ yX12_roll.cls ≠ "java/lang/invoke/VarHandle" ∧ (parseMethodDescriptor yX12_roll.desc).map (fun d => d.parameters.length) = some 2) ∧ Cond.code yX12_roll cX12_roll 3 (some .int) ∈ bg_L ∧ Cond.initialized yX12_roll.cls ∈ bg_L ∧ plainName yX12_roll.cls = true := ⟨⟨by decide +kernel, by decide +kernel, by decide +kernel⟩, bg_in 1744 (by decide +kernel) rfl, bg_in 85 (by decide +kernel) rfl, by decide +kernel⟩
theorem kt_X12_roll : Cond.instanceMethod yX12_roll ∈ bg_L := bg_in 1742 (by decide +kernel) rfl
theorem ke_X12_roll : Cond.selects RX12 yX12_roll yX12_roll ∈ bg_L := bg_in 1743 (by decide +kernel) rfl
theorem kc_L_dust : (yL_dust.cls ≠ "java/lang/invoke/MethodHandle" ∧ yL_dust.cls ≠ "java/lang/invoke/VarHandle" ∧ (parseMethodDescriptor yL_dust.desc).map (fun d => d.parameters.length) = some 3) ∧ Cond.codeWith yL_dust cL_dust 4 (some .int) [(0, 9, 12, 18), (0, 9, 15, 103)] ∈ bg_L ∧ Cond.initialized yL_dust.cls ∈ bg_L ∧ plainName yL_dust.cls = true := ⟨⟨by decide +kernel, by decide +kernel, by decide +kernel⟩, bg_in 1054 (by decide +kernel) rfl, bg_in 74 (by decide +kernel) rfl, by decide +kernel⟩
theorem kt_L_dust : Cond.static yL_dust ∈ bg_L := bg_in 1053 (by decide +kernel) rfl
theorem kc_X12_dust : (yX12_dust.cls ≠ "java/lang/invoke/MethodHandle" ∧ yX12_dust.cls ≠ "java/lang/invoke/VarHandle" ∧ (parseMethodDescriptor yX12_dust.desc).map (fun d => d.parameters.length) = some 1) ∧ Cond.code yX12_dust cX12_dust 2 (some .int) ∈ bg_L ∧ Cond.initialized yX12_dust.cls ∈ bg_L ∧ plainName yX12_dust.cls = true := ⟨⟨by decide +kernel, by decide +kernel, by decide +kernel⟩, bg_in 1752 (by decide +kernel) rfl, bg_in 85 (by decide +kernel) rfl, by decide +kernel⟩
theorem kt_X12_dust : Cond.instanceMethod yX12_dust ∈ bg_L := bg_in 1750 (by decide +kernel) rfl
theorem ke_X12_dust : Cond.selects RX12 yX12_dust yX12_dust ∈ bg_L := bg_in 1751 (by decide +kernel) rfl
theorem kc_L_seal : (yL_seal.cls ≠ "java/lang/invoke/MethodHandle" ∧ yL_seal.cls ≠ "java/lang/invoke/VarHandle" ∧ (parseMethodDescriptor yL_seal.desc).map (fun d => d.parameters.length) = some 3) ∧ Cond.codeWith yL_seal cL_seal 4 (some .int) [(0, 9, 12, 18), (0, 9, 15, 103)] ∈ bg_L ∧ Cond.initialized yL_seal.cls ∈ bg_L ∧ plainName yL_seal.cls = true := ⟨⟨by decide +kernel, by decide +kernel, by decide +kernel⟩, bg_in 1069 (by decide +kernel) rfl, bg_in 74 (by decide +kernel) rfl, by decide +kernel⟩
theorem kt_L_seal : Cond.static yL_seal ∈ bg_L := bg_in 1068 (by decide +kernel) rfl
theorem kc_X12_seal : (yX12_seal.cls ≠ "java/lang/invoke/MethodHandle" ∧ yX12_seal.cls ≠ "java/lang/invoke/VarHandle" ∧ (parseMethodDescriptor yX12_seal.desc).map (fun d => d.parameters.length) = some 1) ∧ Cond.code yX12_seal cX12_seal 2 (some .int) ∈ bg_L ∧ Cond.initialized yX12_seal.cls ∈ bg_L ∧ plainName yX12_seal.cls = true := ⟨⟨by decide +kernel, by decide +kernel, by decide +kernel⟩, bg_in 1760 (by decide +kernel) rfl, bg_in 85 (by decide +kernel) rfl, by decide +kernel⟩
theorem kt_X12_seal : Cond.instanceMethod yX12_seal ∈ bg_L := bg_in 1758 (by decide +kernel) rfl
theorem ke_X12_seal : Cond.selects RX12 yX12_seal yX12_seal ∈ bg_L := bg_in 1759 (by decide +kernel) rfl
theorem kc_L_cool : (yL_cool.cls ≠ "java/lang/invoke/MethodHandle" ∧ yL_cool.cls ≠ "java/lang/invoke/VarHandle" ∧ (parseMethodDescriptor yL_cool.desc).map (fun d => d.parameters.length) = some 3) ∧ Cond.codeWith yL_cool cL_cool 4 (some .int) [(0, 9, 12, 18), (0, 9, 15, 103)] ∈ bg_L ∧ Cond.initialized yL_cool.cls ∈ bg_L ∧ plainName yL_cool.cls = true := ⟨⟨by decide +kernel, by decide +kernel, by decide +kernel⟩, bg_in 1088 (by decide +kernel) rfl, bg_in 74 (by decide +kernel) rfl, by decide +kernel⟩
theorem kt_L_cool : Cond.static yL_cool ∈ bg_L := bg_in 1087 (by decide +kernel) rfl
theorem kc_X12_cool : (yX12_cool.cls ≠ "java/lang/invoke/MethodHandle" ∧ yX12_cool.cls ≠ "java/lang/invoke/VarHandle" ∧ (parseMethodDescriptor yX12_cool.desc).map (fun d => d.parameters.length) = some 1) ∧ Cond.code yX12_cool cX12_cool 2 (some .int) ∈ bg_L ∧ Cond.initialized yX12_cool.cls ∈ bg_L ∧ plainName yX12_cool.cls = true := ⟨⟨by decide +kernel, by decide +kernel, by decide +kernel⟩, bg_in 1772 (by decide +kernel) rfl, bg_in 85 (by decide +kernel) rfl, by decide +kernel⟩
theorem kt_X12_cool : Cond.instanceMethod yX12_cool ∈ bg_L := bg_in 1770 (by decide +kernel) rfl
theorem ke_X12_cool : Cond.selects RX12 yX12_cool yX12_cool ∈ bg_L := bg_in 1771 (by decide +kernel) rfl
theorem kc_L_takeOut : (yL_takeOut.cls ≠ "java/lang/invoke/MethodHandle" ∧ yL_takeOut.cls ≠ "java/lang/invoke/VarHandle" ∧ (parseMethodDescriptor yL_takeOut.desc).map (fun d => d.parameters.length) = some 3) ∧ Cond.codeWith yL_takeOut cL_takeOut 4 (some .int) [(0, 9, 12, 18), (0, 9, 15, 103)] ∈ bg_L ∧ Cond.initialized yL_takeOut.cls ∈ bg_L ∧ plainName yL_takeOut.cls = true := ⟨⟨by decide +kernel, by decide +kernel, by decide +kernel⟩, bg_in 1107 (by decide +kernel) rfl, bg_in 74 (by decide +kernel) rfl, by decide +kernel⟩
theorem kt_L_takeOut : Cond.static yL_takeOut ∈ bg_L := bg_in 1106 (by decide +kernel) rfl
theorem kc_X12_takeOut : (yX12_takeOut.cls ≠ "java/lang/invoke/MethodHandle" ∧ yX12_takeOut.cls ≠ "java/lang/invoke/VarHandle" ∧ (parseMethodDescriptor yX12_takeOut.desc).map (fun d => d.parameters.length) = some 1) ∧ Cond.code yX12_takeOut cX12_takeOut 2 (some .int) ∈ bg_L ∧ Cond.initialized yX12_takeOut.cls ∈ bg_L ∧ plainName yX12_takeOut.cls = true := ⟨⟨by decide +kernel, by decide +kernel, by decide +kernel⟩, bg_in 1780 (by decide +kernel) rfl, bg_in 85 (by decide +kernel) rfl, by decide +kernel⟩
theorem kt_X12_takeOut : Cond.instanceMethod yX12_takeOut ∈ bg_L := bg_in 1778 (by decide +kernel) rfl
theorem ke_X12_takeOut : Cond.selects RX12 yX12_takeOut yX12_takeOut ∈ bg_L := bg_in 1779 (by decide +kernel) rfl
theorem kc_L_passHours : (yL_passHours.cls ≠ "java/lang/invoke/MethodHandle" ∧ yL_passHours.cls ≠ "java/lang/invoke/VarHandle" ∧ (parseMethodDescriptor yL_passHours.desc).map (fun d => d.parameters.length) = some 3) ∧ Cond.codeWith yL_passHours cL_passHours 4 (some .int) [(0, 9, 12, 13), (0, 9, 15, 103)] ∈ bg_L ∧ Cond.initialized yL_passHours.cls ∈ bg_L ∧ plainName yL_passHours.cls = true := ⟨⟨by decide +kernel, by decide +kernel, by decide +kernel⟩, bg_in 1122 (by decide +kernel) rfl, bg_in 74 (by decide +kernel) rfl, by decide +kernel⟩
theorem kt_L_passHours : Cond.static yL_passHours ∈ bg_L := bg_in 1121 (by decide +kernel) rfl
theorem kc_X12_passHours : (yX12_passHours.cls ≠ "java/lang/invoke/MethodHandle" ∧ yX12_passHours.cls ≠ "java/lang/invoke/VarHandle" ∧ (parseMethodDescriptor yX12_passHours.desc).map (fun d => d.parameters.length) = some 1) ∧ Cond.code yX12_passHours cX12_passHours 2 (some .int) ∈ bg_L ∧ Cond.initialized yX12_passHours.cls ∈ bg_L ∧ plainName yX12_passHours.cls = true := ⟨⟨by decide +kernel, by decide +kernel, by decide +kernel⟩, bg_in 1788 (by decide +kernel) rfl, bg_in 85 (by decide +kernel) rfl, by decide +kernel⟩
theorem kt_X12_passHours : Cond.instanceMethod yX12_passHours ∈ bg_L := bg_in 1786 (by decide +kernel) rfl
theorem ke_X12_passHours : Cond.selects RX12 yX12_passHours yX12_passHours ∈ bg_L := bg_in 1787 (by decide +kernel) rfl
theorem kc_L_cut : (yL_cut.cls ≠ "java/lang/invoke/MethodHandle" ∧ yL_cut.cls ≠ "java/lang/invoke/VarHandle" ∧ (parseMethodDescriptor yL_cut.desc).map (fun d => d.parameters.length) = some 3) ∧ Cond.codeWith yL_cut cL_cut 4 (some .int) [(0, 9, 12, 18), (0, 9, 15, 103)] ∈ bg_L ∧ Cond.initialized yL_cut.cls ∈ bg_L ∧ plainName yL_cut.cls = true := ⟨⟨by decide +kernel, by decide +kernel, by decide +kernel⟩, bg_in 1142 (by decide +kernel) rfl, bg_in 74 (by decide +kernel) rfl, by decide +kernel⟩
theorem kt_L_cut : Cond.static yL_cut ∈ bg_L := bg_in 1141 (by decide +kernel) rfl
theorem kc_X12_cut : (yX12_cut.cls ≠ "java/lang/invoke/MethodHandle" ∧ yX12_cut.cls ≠ "java/lang/invoke/VarHandle" ∧ (parseMethodDescriptor yX12_cut.desc).map (fun d => d.parameters.length) = some 1) ∧ Cond.code yX12_cut cX12_cut 2 (some .int) ∈ bg_L ∧ Cond.initialized yX12_cut.cls ∈ bg_L ∧ plainName yX12_cut.cls = true := ⟨⟨by decide +kernel, by decide +kernel, by decide +kernel⟩, bg_in 1800 (by decide +kernel) rfl, bg_in 85 (by decide +kernel) rfl, by decide +kernel⟩
theorem kt_X12_cut : Cond.instanceMethod yX12_cut ∈ bg_L := bg_in 1798 (by decide +kernel) rfl
theorem ke_X12_cut : Cond.selects RX12 yX12_cut yX12_cut ∈ bg_L := bg_in 1799 (by decide +kernel) rfl
theorem kc_L_stack : (yL_stack.cls ≠ "java/lang/invoke/MethodHandle" ∧ yL_stack.cls ≠ "java/lang/invoke/VarHandle" ∧ (parseMethodDescriptor yL_stack.desc).map (fun d => d.parameters.length) = some 4) ∧ Cond.codeWith yL_stack cL_stack 5 (some .int) [(0, 10, 13, 18), (0, 10, 17, 13), (0, 10, 21, 103)] ∈ bg_L ∧ Cond.initialized yL_stack.cls ∈ bg_L ∧ plainName yL_stack.cls = true := ⟨⟨by decide +kernel, by decide +kernel, by decide +kernel⟩, bg_in 1157 (by decide +kernel) rfl, bg_in 74 (by decide +kernel) rfl, by decide +kernel⟩
theorem kt_L_stack : Cond.static yL_stack ∈ bg_L := bg_in 1156 (by decide +kernel) rfl
theorem kc_X12_stack : (yX12_stack.cls ≠ "java/lang/invoke/MethodHandle" ∧ yX12_stack.cls ≠ "java/lang/invoke/VarHandle" ∧ (parseMethodDescriptor yX12_stack.desc).map (fun d => d.parameters.length) = some 2) ∧ Cond.code yX12_stack cX12_stack 3 (some .int) ∈ bg_L ∧ Cond.initialized yX12_stack.cls ∈ bg_L ∧ plainName yX12_stack.cls = true := ⟨⟨by decide +kernel, by decide +kernel, by decide +kernel⟩, bg_in 1808 (by decide +kernel) rfl, bg_in 85 (by decide +kernel) rfl, by decide +kernel⟩
theorem kt_X12_stack : Cond.instanceMethod yX12_stack ∈ bg_L := bg_in 1806 (by decide +kernel) rfl
theorem ke_X12_stack : Cond.selects RX12 yX12_stack yX12_stack ∈ bg_L := bg_in 1807 (by decide +kernel) rfl
theorem kc_L_addButter : (yL_addButter.cls ≠ "java/lang/invoke/MethodHandle" ∧ yL_addButter.cls ≠ "java/lang/invoke/VarHandle" ∧ (parseMethodDescriptor yL_addButter.desc).map (fun d => d.parameters.length) = some 4) ∧ Cond.codeWith yL_addButter cL_addButter 5 (some .int) [(0, 10, 13, 18), (0, 10, 17, 13), (0, 10, 21, 103)] ∈ bg_L ∧ Cond.initialized yL_addButter.cls ∈ bg_L ∧ plainName yL_addButter.cls = true := ⟨⟨by decide +kernel, by decide +kernel, by decide +kernel⟩, bg_in 1189 (by decide +kernel) rfl, bg_in 74 (by decide +kernel) rfl, by decide +kernel⟩
theorem kt_L_addButter : Cond.static yL_addButter ∈ bg_L := bg_in 1188 (by decide +kernel) rfl
theorem kc_X12_addButter : (yX12_addButter.cls ≠ "java/lang/invoke/MethodHandle" ∧ yX12_addButter.cls ≠ "java/lang/invoke/VarHandle" ∧ (parseMethodDescriptor yX12_addButter.desc).map (fun d => d.parameters.length) = some 2) ∧ Cond.code yX12_addButter cX12_addButter 3 (some .int) ∈ bg_L ∧ Cond.initialized yX12_addButter.cls ∈ bg_L ∧ plainName yX12_addButter.cls = true := ⟨⟨by decide +kernel, by decide +kernel, by decide +kernel⟩, bg_in 1824 (by decide +kernel) rfl, bg_in 85 (by decide +kernel) rfl, by decide +kernel⟩
theorem kt_X12_addButter : Cond.instanceMethod yX12_addButter ∈ bg_L := bg_in 1822 (by decide +kernel) rfl
theorem ke_X12_addButter : Cond.selects RX12 yX12_addButter yX12_addButter ∈ bg_L := bg_in 1823 (by decide +kernel) rfl
theorem kc_L_buyFlour : (yL_buyFlour.cls ≠ "java/lang/invoke/MethodHandle" ∧ yL_buyFlour.cls ≠ "java/lang/invoke/VarHandle" ∧ (parseMethodDescriptor yL_buyFlour.desc).map (fun d => d.parameters.length) = some 3) ∧ Cond.codeWith yL_buyFlour cL_buyFlour 4 (some .int) [(0, 9, 12, 13), (0, 9, 15, 103)] ∈ bg_L ∧ Cond.initialized yL_buyFlour.cls ∈ bg_L ∧ plainName yL_buyFlour.cls = true := ⟨⟨by decide +kernel, by decide +kernel, by decide +kernel⟩, bg_in 1208 (by decide +kernel) rfl, bg_in 74 (by decide +kernel) rfl, by decide +kernel⟩
theorem kt_L_buyFlour : Cond.static yL_buyFlour ∈ bg_L := bg_in 1207 (by decide +kernel) rfl
theorem kc_X12_buyFlour : (yX12_buyFlour.cls ≠ "java/lang/invoke/MethodHandle" ∧ yX12_buyFlour.cls ≠ "java/lang/invoke/VarHandle" ∧ (parseMethodDescriptor yX12_buyFlour.desc).map (fun d => d.parameters.length) = some 1) ∧ Cond.code yX12_buyFlour cX12_buyFlour 2 (some .int) ∈ bg_L ∧ Cond.initialized yX12_buyFlour.cls ∈ bg_L ∧ plainName yX12_buyFlour.cls = true := ⟨⟨by decide +kernel, by decide +kernel, by decide +kernel⟩, bg_in 1832 (by decide +kernel) rfl, bg_in 85 (by decide +kernel) rfl, by decide +kernel⟩
theorem kt_X12_buyFlour : Cond.instanceMethod yX12_buyFlour ∈ bg_L := bg_in 1830 (by decide +kernel) rfl
theorem ke_X12_buyFlour : Cond.selects RX12 yX12_buyFlour yX12_buyFlour ∈ bg_L := bg_in 1831 (by decide +kernel) rfl
theorem kc_L_runScript : (yL_runScript.cls ≠ "java/lang/invoke/MethodHandle" ∧ yL_runScript.cls ≠ "java/lang/invoke/VarHandle" ∧ (parseMethodDescriptor yL_runScript.desc).map (fun d => d.parameters.length) = some 3) ∧ Cond.codeWith yL_runScript cL_runScript 4 (some .int) [(0, 9, 12, 13)] ∈ bg_L ∧ Cond.initialized yL_runScript.cls ∈ bg_L ∧ plainName yL_runScript.cls = true := ⟨⟨by decide +kernel, by decide +kernel, by decide +kernel⟩, bg_in 1223 (by decide +kernel) rfl, bg_in 74 (by decide +kernel) rfl, by decide +kernel⟩
theorem kt_L_runScript : Cond.static yL_runScript ∈ bg_L := bg_in 1222 (by decide +kernel) rfl
theorem kc_X12_runScript : (yX12_runScript.cls ≠ "java/lang/invoke/MethodHandle" ∧ yX12_runScript.cls ≠ "java/lang/invoke/VarHandle" ∧ (parseMethodDescriptor yX12_runScript.desc).map (fun d => d.parameters.length) = some 1) ∧ Cond.code yX12_runScript cX12_runScript 3 (some .int) ∈ bg_L ∧ Cond.initialized yX12_runScript.cls ∈ bg_L ∧ plainName yX12_runScript.cls = true := ⟨⟨by decide +kernel, by decide +kernel, by decide +kernel⟩, bg_in 1971 (by decide +kernel) rfl, bg_in 85 (by decide +kernel) rfl, by decide +kernel⟩
theorem kt_X12_runScript : Cond.instanceMethod yX12_runScript ∈ bg_L := bg_in 1969 (by decide +kernel) rfl
theorem ke_X12_runScript : Cond.selects RX12 yX12_runScript yX12_runScript ∈ bg_L := bg_in 1970 (by decide +kernel) rfl
theorem kc_L_writeSheet : (yL_writeSheet.cls ≠ "java/lang/invoke/MethodHandle" ∧ yL_writeSheet.cls ≠ "java/lang/invoke/VarHandle" ∧ (parseMethodDescriptor yL_writeSheet.desc).map (fun d => d.parameters.length) = some 3) ∧ Cond.codeWith yL_writeSheet cL_writeSheet 4 (some .int) [(0, 9, 12, 18)] ∈ bg_L ∧ Cond.initialized yL_writeSheet.cls ∈ bg_L ∧ plainName yL_writeSheet.cls = true := ⟨⟨by decide +kernel, by decide +kernel, by decide +kernel⟩, bg_in 1286 (by decide +kernel) rfl, bg_in 74 (by decide +kernel) rfl, by decide +kernel⟩
theorem kt_L_writeSheet : Cond.static yL_writeSheet ∈ bg_L := bg_in 1285 (by decide +kernel) rfl
theorem kc_X12_writeSheet : (yX12_writeSheet.cls ≠ "java/lang/invoke/MethodHandle" ∧ yX12_writeSheet.cls ≠ "java/lang/invoke/VarHandle" ∧ (parseMethodDescriptor yX12_writeSheet.desc).map (fun d => d.parameters.length) = some 1) ∧ Cond.code yX12_writeSheet cX12_writeSheet 3 (some .int) ∈ bg_L ∧ Cond.initialized yX12_writeSheet.cls ∈ bg_L ∧ plainName yX12_writeSheet.cls = true := ⟨⟨by decide +kernel, by decide +kernel, by decide +kernel⟩, bg_in 1836 (by decide +kernel) rfl, bg_in 85 (by decide +kernel) rfl, by decide +kernel⟩
theorem kt_X12_writeSheet : Cond.instanceMethod yX12_writeSheet ∈ bg_L := bg_in 1834 (by decide +kernel) rfl
theorem ke_X12_writeSheet : Cond.selects RX12 yX12_writeSheet yX12_writeSheet ∈ bg_L := bg_in 1835 (by decide +kernel) rfl
theorem kc_L_outputByte : (yL_outputByte.cls ≠ "java/lang/invoke/MethodHandle" ∧ yL_outputByte.cls ≠ "java/lang/invoke/VarHandle" ∧ (parseMethodDescriptor yL_outputByte.desc).map (fun d => d.parameters.length) = some 3) ∧ Cond.codeWith yL_outputByte cL_outputByte 4 (some .int) [(0, 9, 12, 18)] ∈ bg_L ∧ Cond.initialized yL_outputByte.cls ∈ bg_L ∧ plainName yL_outputByte.cls = true := ⟨⟨by decide +kernel, by decide +kernel, by decide +kernel⟩, bg_in 1305 (by decide +kernel) rfl, bg_in 74 (by decide +kernel) rfl, by decide +kernel⟩
theorem kt_L_outputByte : Cond.static yL_outputByte ∈ bg_L := bg_in 1304 (by decide +kernel) rfl
theorem kc_X12_outputByte : (yX12_outputByte.cls ≠ "java/lang/invoke/MethodHandle" ∧ yX12_outputByte.cls ≠ "java/lang/invoke/VarHandle" ∧ (parseMethodDescriptor yX12_outputByte.desc).map (fun d => d.parameters.length) = some 1) ∧ Cond.code yX12_outputByte cX12_outputByte 2 (some .int) ∈ bg_L ∧ Cond.initialized yX12_outputByte.cls ∈ bg_L ∧ plainName yX12_outputByte.cls = true := ⟨⟨by decide +kernel, by decide +kernel, by decide +kernel⟩, bg_in 1848 (by decide +kernel) rfl, bg_in 85 (by decide +kernel) rfl, by decide +kernel⟩
theorem kt_X12_outputByte : Cond.instanceMethod yX12_outputByte ∈ bg_L := bg_in 1846 (by decide +kernel) rfl
theorem ke_X12_outputByte : Cond.selects RX12 yX12_outputByte yX12_outputByte ∈ bg_L := bg_in 1847 (by decide +kernel) rfl
theorem kc_X11_undoableCount : (yX11_undoableCount.cls ≠ "java/lang/invoke/MethodHandle" ∧ yX11_undoableCount.cls ≠ "java/lang/invoke/VarHandle" ∧ (parseMethodDescriptor yX11_undoableCount.desc).map (fun d => d.parameters.length) = some 0) ∧ Cond.code yX11_undoableCount cX11_undoableCount 1 (some .int) ∈ bg_L ∧ Cond.initialized yX11_undoableCount.cls ∈ bg_L ∧ plainName yX11_undoableCount.cls = true := ⟨⟨by decide +kernel, by decide +kernel, by decide +kernel⟩, bg_in 433 (by decide +kernel) rfl, bg_in 75 (by decide +kernel) rfl, by decide +kernel⟩
theorem kt_X11_undoableCount : Cond.instanceMethod yX11_undoableCount ∈ bg_L := bg_in 431 (by decide +kernel) rfl
theorem ke_X11_undoableCount : Cond.selects RX11 yX11_undoableCount yX11_undoableCount ∈ bg_L := bg_in 432 (by decide +kernel) rfl
theorem kc_X12_undoableCount : (yX12_undoableCount.cls ≠ "java/lang/invoke/MethodHandle" ∧ yX12_undoableCount.cls ≠ "java/lang/invoke/VarHandle" ∧ (parseMethodDescriptor yX12_undoableCount.desc).map (fun d => d.parameters.length) = some 0) ∧ Cond.code yX12_undoableCount cX12_undoableCount 1 (some .int) ∈ bg_L ∧ Cond.initialized yX12_undoableCount.cls ∈ bg_L ∧ plainName yX12_undoableCount.cls = true := ⟨⟨by decide +kernel, by decide +kernel, by decide +kernel⟩, bg_in 1852 (by decide +kernel) rfl, bg_in 85 (by decide +kernel) rfl, by decide +kernel⟩
theorem kt_X12_undoableCount : Cond.instanceMethod yX12_undoableCount ∈ bg_L := bg_in 1850 (by decide +kernel) rfl
theorem ke_X12_undoableCount : Cond.selects RX12 yX12_undoableCount yX12_undoableCount ∈ bg_L := bg_in 1851 (by decide +kernel) rfl
theorem kc_L_undo : (yL_undo.cls ≠ "java/lang/invoke/MethodHandle" ∧ yL_undo.cls ≠ "java/lang/invoke/VarHandle" ∧ (parseMethodDescriptor yL_undo.desc).map (fun d => d.parameters.length) = some 2) ∧ Cond.codeWith yL_undo cL_undo 3 (some .int) [(0, 8, 11, 103)] ∈ bg_L ∧ Cond.initialized yL_undo.cls ∈ bg_L ∧ plainName yL_undo.cls = true := ⟨⟨by decide +kernel, by decide +kernel, by decide +kernel⟩, bg_in 1313 (by decide +kernel) rfl, bg_in 74 (by decide +kernel) rfl, by decide +kernel⟩
theorem kt_L_undo : Cond.static yL_undo ∈ bg_L := bg_in 1312 (by decide +kernel) rfl
theorem kc_X12_undo : (yX12_undo.cls ≠ "java/lang/invoke/MethodHandle" ∧ yX12_undo.cls ≠ "java/lang/invoke/VarHandle" ∧ (parseMethodDescriptor yX12_undo.desc).map (fun d => d.parameters.length) = some 0) ∧ Cond.code yX12_undo cX12_undo 1 (some .int) ∈ bg_L ∧ Cond.initialized yX12_undo.cls ∈ bg_L ∧ plainName yX12_undo.cls = true := ⟨⟨by decide +kernel, by decide +kernel, by decide +kernel⟩, bg_in 1856 (by decide +kernel) rfl, bg_in 85 (by decide +kernel) rfl, by decide +kernel⟩
theorem kt_X12_undo : Cond.instanceMethod yX12_undo ∈ bg_L := bg_in 1854 (by decide +kernel) rfl
theorem ke_X12_undo : Cond.selects RX12 yX12_undo yX12_undo ∈ bg_L := bg_in 1855 (by decide +kernel) rfl
theorem kc_X11_saveSnapshot : (yX11_saveSnapshot.cls ≠ "java/lang/invoke/MethodHandle" ∧ yX11_saveSnapshot.cls ≠ "java/lang/invoke/VarHandle" ∧ (parseMethodDescriptor yX11_saveSnapshot.desc).map (fun d => d.parameters.length) = some 0) ∧ Cond.code yX11_saveSnapshot cX11_saveSnapshot 1 none ∈ bg_L ∧ Cond.initialized yX11_saveSnapshot.cls ∈ bg_L ∧ plainName yX11_saveSnapshot.cls = true := ⟨⟨by decide +kernel, by decide +kernel, by decide +kernel⟩, bg_in 437 (by decide +kernel) rfl, bg_in 75 (by decide +kernel) rfl, by decide +kernel⟩
theorem kt_X11_saveSnapshot : Cond.instanceMethod yX11_saveSnapshot ∈ bg_L := bg_in 435 (by decide +kernel) rfl
theorem ke_X11_saveSnapshot : Cond.selects RX11 yX11_saveSnapshot yX11_saveSnapshot ∈ bg_L := bg_in 436 (by decide +kernel) rfl
theorem kc_X12_saveSnapshot : (yX12_saveSnapshot.cls ≠ "java/lang/invoke/MethodHandle" ∧ yX12_saveSnapshot.cls ≠ "java/lang/invoke/VarHandle" ∧ (parseMethodDescriptor yX12_saveSnapshot.desc).map (fun d => d.parameters.length) = some 0) ∧ Cond.code yX12_saveSnapshot cX12_saveSnapshot 1 none ∈ bg_L ∧ Cond.initialized yX12_saveSnapshot.cls ∈ bg_L ∧ plainName yX12_saveSnapshot.cls = true := ⟨⟨by decide +kernel, by decide +kernel, by decide +kernel⟩, bg_in 1860 (by decide +kernel) rfl, bg_in 85 (by decide +kernel) rfl, by decide +kernel⟩
theorem kt_X12_saveSnapshot : Cond.instanceMethod yX12_saveSnapshot ∈ bg_L := bg_in 1858 (by decide +kernel) rfl
theorem ke_X12_saveSnapshot : Cond.selects RX12 yX12_saveSnapshot yX12_saveSnapshot ∈ bg_L := bg_in 1859 (by decide +kernel) rfl
theorem kc_L_restoreSnapshot : (yL_restoreSnapshot.cls ≠ "java/lang/invoke/MethodHandle" ∧ yL_restoreSnapshot.cls ≠ "java/lang/invoke/VarHandle" ∧ (parseMethodDescriptor yL_restoreSnapshot.desc).map (fun d => d.parameters.length) = some 2) ∧ Cond.codeWith yL_restoreSnapshot cL_restoreSnapshot 3 (some .int) [(0, 8, 11, 103)] ∈ bg_L ∧ Cond.initialized yL_restoreSnapshot.cls ∈ bg_L ∧ plainName yL_restoreSnapshot.cls = true := ⟨⟨by decide +kernel, by decide +kernel, by decide +kernel⟩, bg_in 1325 (by decide +kernel) rfl, bg_in 74 (by decide +kernel) rfl, by decide +kernel⟩
theorem kt_L_restoreSnapshot : Cond.static yL_restoreSnapshot ∈ bg_L := bg_in 1324 (by decide +kernel) rfl
theorem kc_X12_restoreSnapshot : (yX12_restoreSnapshot.cls ≠ "java/lang/invoke/MethodHandle" ∧ yX12_restoreSnapshot.cls ≠ "java/lang/invoke/VarHandle" ∧ (parseMethodDescriptor yX12_restoreSnapshot.desc).map (fun d => d.parameters.length) = some 0) ∧ Cond.code yX12_restoreSnapshot cX12_restoreSnapshot 1 (some .int) ∈ bg_L ∧ Cond.initialized yX12_restoreSnapshot.cls ∈ bg_L ∧ plainName yX12_restoreSnapshot.cls = true := ⟨⟨by decide +kernel, by decide +kernel, by decide +kernel⟩, bg_in 1864 (by decide +kernel) rfl, bg_in 85 (by decide +kernel) rfl, by decide +kernel⟩
theorem kt_X12_restoreSnapshot : Cond.instanceMethod yX12_restoreSnapshot ∈ bg_L := bg_in 1862 (by decide +kernel) rfl
theorem ke_X12_restoreSnapshot : Cond.selects RX12 yX12_restoreSnapshot yX12_restoreSnapshot ∈ bg_L := bg_in 1863 (by decide +kernel) rfl
theorem km_X8_3 : Cond.methodLink RX8 3 Lib.objectInit ∈ bg_L := bg_in 197 (by decide +kernel) rfl
theorem km_X1_3 : Cond.methodLink RX1 3 Lib.objectInit ∈ bg_L := bg_in 190 (by decide +kernel) rfl
theorem km_X1_53 : Cond.methodLink RX1 53 yX8_begin ∈ bg_L := bg_in 285 (by decide +kernel) rfl
theorem km_X8_46 : Cond.methodLink RX8 46 yX8_wouldJoin ∈ bg_L := bg_in 301 (by decide +kernel) rfl
theorem km_X8_42 : Cond.methodLink RX8 42 yX8_putLayer ∈ bg_L := bg_in 297 (by decide +kernel) rfl
theorem km_X1_55 : Cond.methodLink RX1 55 yX8_load ∈ bg_L := bg_in 293 (by decide +kernel) rfl
theorem km_X1_18 : Cond.methodLink RX1 18 yX1_init ∈ bg_L := bg_in 187 (by decide +kernel) rfl
theorem km_X1_19 : Cond.methodLink RX1 19 yX1_begin ∈ bg_L := bg_in 277 (by decide +kernel) rfl
theorem km_X1_23 : Cond.methodLink RX1 23 yX1_addSheet ∈ bg_L := bg_in 281 (by decide +kernel) rfl
theorem km_X1_27 : Cond.methodLink RX1 27 yX1_addLayer ∈ bg_L := bg_in 289 (by decide +kernel) rfl
theorem km_X1_58 : Cond.methodLink RX1 58 yX8_copyFrom ∈ bg_L := bg_in 442 (by decide +kernel) rfl
theorem km_X8_54 : Cond.methodLink RX8 54 yX8_totalHeight ∈ bg_L := bg_in 866 (by decide +kernel) rfl
theorem km_X1_84 : Cond.methodLink RX1 84 yX1_hasSheet ∈ bg_L := bg_in 973 (by decide +kernel) rfl
theorem km_X1_97 : Cond.methodLink RX1 97 yX8_findFoldObstacle ∈ bg_L := bg_in 979 (by decide +kernel) rfl
theorem km_X1_101 : Cond.methodLink RX1 101 yX1_stateRefusal ∈ bg_L := bg_in 980 (by decide +kernel) rfl
theorem km_X11_359 : Cond.methodLink RX11 359 Lib.Math.min.name ∈ bg_L := bg_in 1030 (by decide +kernel) rfl
theorem km_X1_105 : Cond.methodLink RX1 105 yX8_foldUp ∈ bg_L := bg_in 1023 (by decide +kernel) rfl
theorem km_X8_62 : Cond.methodLink RX8 62 Lib.Math.max.name ∈ bg_L := bg_in 901 (by decide +kernel) rfl
theorem km_X8_68 : Cond.methodLink RX8 68 yX8_lossPerLayer ∈ bg_L := bg_in 897 (by decide +kernel) rfl
theorem km_X8_74 : Cond.methodLink RX8 74 yX8_thicknessRolled ∈ bg_L := bg_in 916 (by decide +kernel) rfl
theorem km_X1_108 : Cond.methodLink RX1 108 yX8_sumRolled ∈ bg_L := bg_in 1042 (by decide +kernel) rfl
theorem km_X8_71 : Cond.methodLink RX8 71 Lib.Math.min.name ∈ bg_L := bg_in 904 (by decide +kernel) rfl
theorem km_X1_112 : Cond.methodLink RX1 112 yX8_sumEscaping ∈ bg_L := bg_in 1047 (by decide +kernel) rfl
theorem km_X1_115 : Cond.methodLink RX1 115 yX8_rollOut ∈ bg_L := bg_in 1048 (by decide +kernel) rfl
theorem km_X1_121 : Cond.methodLink RX1 121 yX1_countSealed ∈ bg_L := bg_in 1082 (by decide +kernel) rfl
theorem km_X1_125 : Cond.methodLink RX1 125 yX1_countCooling ∈ bg_L := bg_in 1097 (by decide +kernel) rfl
theorem km_X11_364 : Cond.methodLink RX11 364 Lib.Math.max.name ∈ bg_L := bg_in 946 (by decide +kernel) rfl
theorem km_X1_128 : Cond.methodLink RX1 128 yX8_warmthAfter ∈ bg_L := bg_in 1135 (by decide +kernel) rfl
theorem km_X1_131 : Cond.methodLink RX1 131 yX1_countUnsafe ∈ bg_L := bg_in 1136 (by decide +kernel) rfl
theorem km_X8_84 : Cond.methodLink RX8 84 yX8_joinsWith ∈ bg_L := bg_in 1170 (by decide +kernel) rfl
theorem km_X1_134 : Cond.methodLink RX1 134 yX8_layersWith ∈ bg_L := bg_in 1166 (by decide +kernel) rfl
theorem km_X1_138 : Cond.methodLink RX1 138 yX8_totalHeight ∈ bg_L := bg_in 1174 (by decide +kernel) rfl
theorem km_X1_141 : Cond.methodLink RX1 141 yX8_carry ∈ bg_L := bg_in 1179 (by decide +kernel) rfl
theorem km_X1_144 : Cond.methodLink RX1 144 yX1_removeSheet ∈ bg_L := bg_in 1183 (by decide +kernel) rfl
theorem km_X1_147 : Cond.methodLink RX1 147 yX8_butterTop ∈ bg_L := bg_in 1202 (by decide +kernel) rfl
theorem km_X3_3 : Cond.methodLink RX3 3 Lib.objectInit ∈ bg_L := bg_in 312 (by decide +kernel) rfl
theorem km_X3_17 : Cond.methodLink RX3 17 yX1_init ∈ bg_L := bg_in 315 (by decide +kernel) rfl
theorem km_X3_22 : Cond.methodLink RX3 22 yX3_dropOldest ∈ bg_L := bg_in 1014 (by decide +kernel) rfl
theorem km_X3_25 : Cond.methodLink RX3 25 yX1_copyFrom ∈ bg_L := bg_in 1018 (by decide +kernel) rfl
theorem km_X4_3 : Cond.methodLink RX4 3 Lib.objectInit ∈ bg_L := bg_in 329 (by decide +kernel) rfl
theorem km_X4_19 : Cond.methodLink RX4 19 yX4_put ∈ bg_L := bg_in 1295 (by decide +kernel) rfl
theorem km_X4_35 : Cond.methodLink RX4 35 yX4_putNumber ∈ bg_L := bg_in 1299 (by decide +kernel) rfl
theorem km_X10_3 : Cond.methodLink RX10 3 Lib.objectInit ∈ bg_L := bg_in 119 (by decide +kernel) rfl
theorem km_X5_3 : Cond.methodLink RX5 3 Lib.objectInit ∈ bg_L := bg_in 113 (by decide +kernel) rfl
theorem km_X10_40 : Cond.methodLink RX10 40 yX10_isSeparator ∈ bg_L := bg_in 545 (by decide +kernel) rfl
theorem km_X10_47 : Cond.methodLink RX10 47 yX10_isLetter ∈ bg_L := bg_in 548 (by decide +kernel) rfl
theorem km_X10_53 : Cond.methodLink RX10 53 yX10_isDigit ∈ bg_L := bg_in 553 (by decide +kernel) rfl
theorem km_X10_24 : Cond.methodLink RX10 24 Lib.Math.min.name ∈ bg_L := bg_in 538 (by decide +kernel) rfl
theorem km_X10_37 : Cond.methodLink RX10 37 yX10_advance ∈ bg_L := bg_in 541 (by decide +kernel) rfl
theorem km_X5_25 : Cond.methodLink RX5 25 yX10_begin ∈ bg_L := bg_in 534 (by decide +kernel) rfl
theorem km_J0_335 : Cond.methodLink RJ0 335 yJ0_coder_7d493 ∈ bg_L := bg_in 580 (by decide +kernel) rfl
theorem km_J0_1059 : Cond.methodLink RJ0 1059 yJ3_checkIndex_8e157 ∈ bg_L := bg_in 602 (by decide +kernel) rfl
theorem km_J1_9 : Cond.methodLink RJ1 9 yJ0_checkIndex_df160 ∈ bg_L := bg_in 597 (by decide +kernel) rfl
theorem km_J2_48 : Cond.methodLink RJ2 48 yJ2_length_9d52b ∈ bg_L := bg_in 611 (by decide +kernel) rfl
theorem km_J2_414 : Cond.methodLink RJ2 414 yJ0_checkIndex_df160 ∈ bg_L := bg_in 614 (by decide +kernel) rfl
theorem km_J2_67 : Cond.methodLink RJ2 67 yJ2_checkIndex_2214a ∈ bg_L := bg_in 608 (by decide +kernel) rfl
theorem km_J2_71 : Cond.methodLink RJ2 71 yJ2_getChar_3b067 ∈ bg_L := bg_in 615 (by decide +kernel) rfl
theorem km_J0_492 : Cond.methodLink RJ0 492 yJ0_isLatin1_aae02 ∈ bg_L := bg_in 590 (by decide +kernel) rfl
theorem km_J0_495 : Cond.methodLink RJ0 495 yJ1_charAt_3b067 ∈ bg_L := bg_in 594 (by decide +kernel) rfl
theorem km_J0_498 : Cond.methodLink RJ0 498 yJ2_charAt_3b067 ∈ bg_L := bg_in 605 (by decide +kernel) rfl
theorem km_X10_69 : Cond.methodLink RX10 69 yJ0_length_8abf5 ∈ bg_L := bg_in 576 (by decide +kernel) rfl
theorem km_X10_74 : Cond.methodLink RX10 74 yJ0_charAt_5068e ∈ bg_L := bg_in 586 (by decide +kernel) rfl
theorem km_X5_32 : Cond.methodLink RX5 32 yX10_isWord ∈ bg_L := bg_in 572 (by decide +kernel) rfl
theorem km_X5_36 : Cond.methodLink RX5 36 yX5_fail ∈ bg_L := bg_in 624 (by decide +kernel) rfl
theorem km_X5_40 : Cond.methodLink RX5 40 yX10_advance ∈ bg_L := bg_in 628 (by decide +kernel) rfl
theorem km_X5_76 : Cond.methodLink RX5 76 yX5_takeWord ∈ bg_L := bg_in 568 (by decide +kernel) rfl
theorem km_X5_79 : Cond.methodLink RX5 79 yX5_takeNumber ∈ bg_L := bg_in 629 (by decide +kernel) rfl
theorem km_X5_83 : Cond.methodLink RX5 83 yX1_begin ∈ bg_L := bg_in 634 (by decide +kernel) rfl
theorem km_X5_88 : Cond.methodLink RX5 88 yX5_takeSemicolon ∈ bg_L := bg_in 635 (by decide +kernel) rfl
theorem km_X5_99 : Cond.methodLink RX5 99 yX5_isLayerWord ∈ bg_L := bg_in 651 (by decide +kernel) rfl
theorem km_X5_106 : Cond.methodLink RX5 106 yX1_addLayer ∈ bg_L := bg_in 657 (by decide +kernel) rfl
theorem km_X5_92 : Cond.methodLink RX5 92 yX1_addSheet ∈ bg_L := bg_in 646 (by decide +kernel) rfl
theorem km_X5_96 : Cond.methodLink RX5 96 yX5_readLayer ∈ bg_L := bg_in 647 (by decide +kernel) rfl
theorem km_X5_61 : Cond.methodLink RX5 61 yX5_begin ∈ bg_L := bg_in 530 (by decide +kernel) rfl
theorem km_X5_62 : Cond.methodLink RX5 62 yX5_readHeader ∈ bg_L := bg_in 563 (by decide +kernel) rfl
theorem km_X5_69 : Cond.methodLink RX5 69 yX5_readSheet ∈ bg_L := bg_in 641 (by decide +kernel) rfl
theorem km_X5_119 : Cond.methodLink RX5 119 yX5_findCommand ∈ bg_L := bg_in 1236 (by decide +kernel) rfl
theorem km_X5_149 : Cond.methodLink RX5 149 yX7_add ∈ bg_L := bg_in 1242 (by decide +kernel) rfl
theorem km_X5_115 : Cond.methodLink RX5 115 yX5_readCommand ∈ bg_L := bg_in 1232 (by decide +kernel) rfl
theorem km_X7_3 : Cond.methodLink RX7 3 Lib.objectInit ∈ bg_L := bg_in 165 (by decide +kernel) rfl
theorem km_X7_54 : Cond.methodLink RX7 54 yX1_refusalOfFold ∈ bg_L := bg_in 1262 (by decide +kernel) rfl
theorem km_X7_60 : Cond.methodLink RX7 60 yX1_refusalOfRoll ∈ bg_L := bg_in 1263 (by decide +kernel) rfl
theorem km_X7_63 : Cond.methodLink RX7 63 yX1_refusalOfDust ∈ bg_L := bg_in 1264 (by decide +kernel) rfl
theorem km_X7_67 : Cond.methodLink RX7 67 yX1_refusalOfSeal ∈ bg_L := bg_in 1265 (by decide +kernel) rfl
theorem km_X7_70 : Cond.methodLink RX7 70 yX1_refusalOfCool ∈ bg_L := bg_in 1266 (by decide +kernel) rfl
theorem km_X7_73 : Cond.methodLink RX7 73 yX1_refusalOfTakeOut ∈ bg_L := bg_in 1267 (by decide +kernel) rfl
theorem km_X7_76 : Cond.methodLink RX7 76 yX1_refusalOfHours ∈ bg_L := bg_in 1268 (by decide +kernel) rfl
theorem km_X7_79 : Cond.methodLink RX7 79 yX1_refusalOfCut ∈ bg_L := bg_in 1269 (by decide +kernel) rfl
theorem km_X7_82 : Cond.methodLink RX7 82 yX1_refusalOfStack ∈ bg_L := bg_in 1270 (by decide +kernel) rfl
theorem km_X7_85 : Cond.methodLink RX7 85 yX1_applyFold ∈ bg_L := bg_in 1275 (by decide +kernel) rfl
theorem km_X7_89 : Cond.methodLink RX7 89 yX1_applyRoll ∈ bg_L := bg_in 1276 (by decide +kernel) rfl
theorem km_X7_92 : Cond.methodLink RX7 92 yX1_applyDust ∈ bg_L := bg_in 1277 (by decide +kernel) rfl
theorem km_X7_96 : Cond.methodLink RX7 96 yX1_applySeal ∈ bg_L := bg_in 1278 (by decide +kernel) rfl
theorem km_X7_99 : Cond.methodLink RX7 99 yX1_applyCool ∈ bg_L := bg_in 1279 (by decide +kernel) rfl
theorem km_X7_102 : Cond.methodLink RX7 102 yX1_applyTakeOut ∈ bg_L := bg_in 1280 (by decide +kernel) rfl
theorem km_X7_105 : Cond.methodLink RX7 105 yX1_applyHours ∈ bg_L := bg_in 1281 (by decide +kernel) rfl
theorem km_X7_108 : Cond.methodLink RX7 108 yX1_applyCut ∈ bg_L := bg_in 1282 (by decide +kernel) rfl
theorem km_X7_111 : Cond.methodLink RX7 111 yX1_applyStack ∈ bg_L := bg_in 1283 (by decide +kernel) rfl
theorem km_X7_28 : Cond.methodLink RX7 28 yX7_refusalOf ∈ bg_L := bg_in 1250 (by decide +kernel) rfl
theorem km_X7_38 : Cond.methodLink RX7 38 yX7_execute ∈ bg_L := bg_in 1272 (by decide +kernel) rfl
theorem km_X11_1 : Cond.methodLink RX11 1 Lib.objectInit ∈ bg_L := bg_in 105 (by decide +kernel) rfl
theorem km_X11_27 : Cond.methodLink RX11 27 yX1_first ∈ bg_L := bg_in 182 (by decide +kernel) rfl
theorem km_X11_37 : Cond.methodLink RX11 37 yX1_init ∈ bg_L := bg_in 306 (by decide +kernel) rfl
theorem km_X11_46 : Cond.methodLink RX11 46 yX3_init ∈ bg_L := bg_in 309 (by decide +kernel) rfl
theorem km_X11_62 : Cond.methodLink RX11 62 yX11_appendWord ∈ bg_L := bg_in 374 (by decide +kernel) rfl
theorem km_X11_66 : Cond.methodLink RX11 66 yX11_requireLength ∈ bg_L := bg_in 454 (by decide +kernel) rfl
theorem km_X11_69 : Cond.methodLink RX11 69 yX5_readBench ∈ bg_L := bg_in 526 (by decide +kernel) rfl
theorem km_X11_73 : Cond.methodLink RX11 73 yX1_copyFrom ∈ bg_L := bg_in 438 (by decide +kernel) rfl
theorem km_X11_77 : Cond.methodLink RX11 77 yX3_forget ∈ bg_L := bg_in 658 (by decide +kernel) rfl
theorem km_X11_111 : Cond.methodLink RX11 111 yX1_findWarmest ∈ bg_L := bg_in 418 (by decide +kernel) rfl
theorem km_X11_115 : Cond.methodLink RX11 115 yX1_findFinest ∈ bg_L := bg_in 426 (by decide +kernel) rfl
theorem km_X11_326 : Cond.methodLink RX11 326 yX1_hasSheet ∈ bg_L := bg_in 674 (by decide +kernel) rfl
theorem km_X11_118 : Cond.methodLink RX11 118 yX11_sheetAt ∈ bg_L := bg_in 670 (by decide +kernel) rfl
theorem km_X11_127 : Cond.methodLink RX11 127 yX8_countButterLayers ∈ bg_L := bg_in 701 (by decide +kernel) rfl
theorem km_X11_130 : Cond.methodLink RX11 130 yX11_requireLayer ∈ bg_L := bg_in 712 (by decide +kernel) rfl
theorem km_X11_141 : Cond.methodLink RX11 141 yX8_totalHeight ∈ bg_L := bg_in 730 (by decide +kernel) rfl
theorem km_X11_144 : Cond.methodLink RX11 144 yX8_totalButter ∈ bg_L := bg_in 741 (by decide +kernel) rfl
theorem km_X11_147 : Cond.methodLink RX11 147 yX8_findThinnest ∈ bg_L := bg_in 752 (by decide +kernel) rfl
theorem km_X11_150 : Cond.methodLink RX11 150 yX8_findThickest ∈ bg_L := bg_in 763 (by decide +kernel) rfl
theorem km_X11_153 : Cond.methodLink RX11 153 yX8_countSeams ∈ bg_L := bg_in 774 (by decide +kernel) rfl
theorem km_X11_156 : Cond.methodLink RX11 156 yX8_sameFromBothSides ∈ bg_L := bg_in 785 (by decide +kernel) rfl
theorem km_X11_338 : Cond.methodLink RX11 338 yX11_isFactor ∈ bg_L := bg_in 855 (by decide +kernel) rfl
theorem km_X11_178 : Cond.methodLink RX11 178 yX11_requireFactor ∈ bg_L := bg_in 852 (by decide +kernel) rfl
theorem km_X11_181 : Cond.methodLink RX11 181 yX8_findFoldObstacle ∈ bg_L := bg_in 859 (by decide +kernel) rfl
theorem km_X11_185 : Cond.methodLink RX11 185 yX11_layersFolded ∈ bg_L := bg_in 874 (by decide +kernel) rfl
theorem km_X11_189 : Cond.methodLink RX11 189 yX8_countPossibleFolds ∈ bg_L := bg_in 882 (by decide +kernel) rfl
theorem km_X11_192 : Cond.methodLink RX11 192 yX8_sumEscaping ∈ bg_L := bg_in 893 (by decide +kernel) rfl
theorem km_X11_195 : Cond.methodLink RX11 195 yX8_countBreaking ∈ bg_L := bg_in 912 (by decide +kernel) rfl
theorem km_X11_199 : Cond.methodLink RX11 199 yX8_sumRolled ∈ bg_L := bg_in 927 (by decide +kernel) rfl
theorem km_X11_209 : Cond.methodLink RX11 209 yX8_warmthAfter ∈ bg_L := bg_in 939 (by decide +kernel) rfl
theorem km_X11_212 : Cond.methodLink RX11 212 yX8_countHoursToSafety ∈ bg_L := bg_in 957 (by decide +kernel) rfl
theorem km_X11_215 : Cond.methodLink RX11 215 yX1_refusalOfFold ∈ bg_L := bg_in 969 (by decide +kernel) rfl
theorem km_X11_219 : Cond.methodLink RX11 219 yX11_throwIfRefused ∈ bg_L := bg_in 987 (by decide +kernel) rfl
theorem km_X11_223 : Cond.methodLink RX11 223 yX3_remember ∈ bg_L := bg_in 1010 (by decide +kernel) rfl
theorem km_X11_226 : Cond.methodLink RX11 226 yX1_applyFold ∈ bg_L := bg_in 1019 (by decide +kernel) rfl
theorem km_X11_229 : Cond.methodLink RX11 229 yX1_refusalOfRoll ∈ bg_L := bg_in 1038 (by decide +kernel) rfl
theorem km_X11_232 : Cond.methodLink RX11 232 yX1_applyRoll ∈ bg_L := bg_in 1043 (by decide +kernel) rfl
theorem km_X11_235 : Cond.methodLink RX11 235 yX1_refusalOfDust ∈ bg_L := bg_in 1059 (by decide +kernel) rfl
theorem km_X11_239 : Cond.methodLink RX11 239 yX1_applyDust ∈ bg_L := bg_in 1063 (by decide +kernel) rfl
theorem km_X11_242 : Cond.methodLink RX11 242 yX1_refusalOfSeal ∈ bg_L := bg_in 1074 (by decide +kernel) rfl
theorem km_X11_245 : Cond.methodLink RX11 245 yX1_applySeal ∈ bg_L := bg_in 1078 (by decide +kernel) rfl
theorem km_X11_248 : Cond.methodLink RX11 248 yX1_refusalOfCool ∈ bg_L := bg_in 1093 (by decide +kernel) rfl
theorem km_X11_251 : Cond.methodLink RX11 251 yX1_applyCool ∈ bg_L := bg_in 1101 (by decide +kernel) rfl
theorem km_X11_254 : Cond.methodLink RX11 254 yX1_refusalOfTakeOut ∈ bg_L := bg_in 1112 (by decide +kernel) rfl
theorem km_X11_257 : Cond.methodLink RX11 257 yX1_applyTakeOut ∈ bg_L := bg_in 1116 (by decide +kernel) rfl
theorem km_X11_260 : Cond.methodLink RX11 260 yX1_refusalOfHours ∈ bg_L := bg_in 1127 (by decide +kernel) rfl
theorem km_X11_263 : Cond.methodLink RX11 263 yX1_applyHours ∈ bg_L := bg_in 1131 (by decide +kernel) rfl
theorem km_X11_266 : Cond.methodLink RX11 266 yX1_refusalOfCut ∈ bg_L := bg_in 1147 (by decide +kernel) rfl
theorem km_X11_269 : Cond.methodLink RX11 269 yX1_applyCut ∈ bg_L := bg_in 1151 (by decide +kernel) rfl
theorem km_X11_272 : Cond.methodLink RX11 272 yX1_refusalOfStack ∈ bg_L := bg_in 1162 (by decide +kernel) rfl
theorem km_X11_275 : Cond.methodLink RX11 275 yX1_applyStack ∈ bg_L := bg_in 1175 (by decide +kernel) rfl
theorem km_X11_278 : Cond.methodLink RX11 278 yX1_refusalOfButter ∈ bg_L := bg_in 1194 (by decide +kernel) rfl
theorem km_X11_281 : Cond.methodLink RX11 281 yX1_applyButter ∈ bg_L := bg_in 1198 (by decide +kernel) rfl
theorem km_X11_284 : Cond.methodLink RX11 284 yX1_refusalOfFlour ∈ bg_L := bg_in 1213 (by decide +kernel) rfl
theorem km_X11_287 : Cond.methodLink RX11 287 yX1_applyFlour ∈ bg_L := bg_in 1217 (by decide +kernel) rfl
theorem km_X11_290 : Cond.methodLink RX11 290 yX5_readScript ∈ bg_L := bg_in 1228 (by decide +kernel) rfl
theorem km_X11_294 : Cond.methodLink RX11 294 yX7_executeOn ∈ bg_L := bg_in 1246 (by decide +kernel) rfl
theorem km_X11_298 : Cond.methodLink RX11 298 yX4_replaceBy ∈ bg_L := bg_in 1291 (by decide +kernel) rfl
theorem km_X11_319 : Cond.methodLink RX11 319 yX3_takeBack ∈ bg_L := bg_in 1319 (by decide +kernel) rfl
theorem km_X12_86 : Cond.methodLink RX12 86 yX12_at ∈ bg_L := bg_in 1360 (by decide +kernel) rfl
theorem km_X12_90 : Cond.methodLink RX12 90 yX12_lay ∈ bg_L := bg_in 1356 (by decide +kernel) rfl
theorem km_X12_93 : Cond.methodLink RX12 93 yX12_of ∈ bg_L := bg_in 1367 (by decide +kernel) rfl
theorem km_X12_1 : Cond.methodLink RX12 1 Lib.objectInit ∈ bg_L := bg_in 1336 (by decide +kernel) rfl
theorem km_X12_65 : Cond.methodLink RX12 65 yX12_begin ∈ bg_L := bg_in 1348 (by decide +kernel) rfl
theorem km_X12_69 : Cond.methodLink RX12 69 yX12_startSheet ∈ bg_L := bg_in 1352 (by decide +kernel) rfl
theorem km_X12_73 : Cond.methodLink RX12 73 yX12_addLayer ∈ bg_L := bg_in 1363 (by decide +kernel) rfl
theorem km_X12_76 : Cond.methodLink RX12 76 yX12_expectLayers ∈ bg_L := bg_in 1371 (by decide +kernel) rfl
theorem km_X12_82 : Cond.methodLink RX12 82 yX12_lacks ∈ bg_L := bg_in 1522 (by decide +kernel) rfl
theorem km_X12_97 : Cond.methodLink RX12 97 yX12_layer ∈ bg_L := bg_in 1530 (by decide +kernel) rfl
theorem km_X12_100 : Cond.methodLink RX12 100 yX12_areAlike ∈ bg_L := bg_in 1581 (by decide +kernel) rfl
theorem km_X12_107 : Cond.methodLink RX12 107 yX12_inRange ∈ bg_L := bg_in 1519 (by decide +kernel) rfl
theorem km_X12_111 : Cond.methodLink RX12 111 yX12_isSheet ∈ bg_L := bg_in 1515 (by decide +kernel) rfl
theorem km_X12_115 : Cond.methodLink RX12 115 arraycopyName ∈ bg_L := bg_in 1714 (by decide +kernel) rfl
theorem km_X12_121 : Cond.methodLink RX12 121 yX12_sizeOf ∈ bg_L := bg_in 1546 (by decide +kernel) rfl
theorem km_X12_124 : Cond.methodLink RX12 124 yX12_is ∈ bg_L := bg_in 1600 (by decide +kernel) rfl
theorem km_X12_127 : Cond.methodLink RX12 127 yX12_greatest ∈ bg_L := bg_in 1499 (by decide +kernel) rfl
theorem km_X12_130 : Cond.methodLink RX12 130 yX12_told ∈ bg_L := bg_in 1511 (by decide +kernel) rfl
theorem km_X12_133 : Cond.methodLink RX12 133 yX12_isLayer ∈ bg_L := bg_in 1538 (by decide +kernel) rfl
theorem km_X12_136 : Cond.methodLink RX12 136 yX12_heightOf ∈ bg_L := bg_in 1553 (by decide +kernel) rfl
theorem km_X12_139 : Cond.methodLink RX12 139 yX12_butterOf ∈ bg_L := bg_in 1561 (by decide +kernel) rfl
theorem km_X12_142 : Cond.methodLink RX12 142 yX12_extreme ∈ bg_L := bg_in 1569 (by decide +kernel) rfl
theorem km_X12_145 : Cond.methodLink RX12 145 yX12_toldIs ∈ bg_L := bg_in 1596 (by decide +kernel) rfl
theorem km_X12_148 : Cond.methodLink RX12 148 yX12_foldedLayers ∈ bg_L := bg_in 1647 (by decide +kernel) rfl
theorem km_X12_152 : Cond.methodLink RX12 152 yX12_areParts ∈ bg_L := bg_in 1636 (by decide +kernel) rfl
theorem km_X12_155 : Cond.methodLink RX12 155 yX12_lacksBoth ∈ bg_L := bg_in 1639 (by decide +kernel) rfl
theorem km_X12_159 : Cond.methodLink RX12 159 yX12_lacksParts ∈ bg_L := bg_in 1632 (by decide +kernel) rfl
theorem km_X12_162 : Cond.methodLink RX12 162 yX12_whyNotFold ∈ bg_L := bg_in 1643 (by decide +kernel) rfl
theorem km_X12_165 : Cond.methodLink RX12 165 yX12_least ∈ bg_L := bg_in 1673 (by decide +kernel) rfl
theorem km_X12_168 : Cond.methodLink RX12 168 yX12_copySheet ∈ bg_L := bg_in 1725 (by decide +kernel) rfl
theorem km_X12_171 : Cond.methodLink RX12 171 yX12_putLayer ∈ bg_L := bg_in 1676 (by decide +kernel) rfl
theorem km_X12_175 : Cond.methodLink RX12 175 yX12_warm ∈ bg_L := bg_in 1729 (by decide +kernel) rfl
theorem km_X12_179 : Cond.methodLink RX12 179 yX12_most ∈ bg_L := bg_in 1670 (by decide +kernel) rfl
theorem km_X12_182 : Cond.methodLink RX12 182 yX12_escapes ∈ bg_L := bg_in 1666 (by decide +kernel) rfl
theorem km_X12_191 : Cond.methodLink RX12 191 yX12_rollOut ∈ bg_L := bg_in 1662 (by decide +kernel) rfl
theorem km_X12_194 : Cond.methodLink RX12 194 yX12_cooled ∈ bg_L := bg_in 1696 (by decide +kernel) rfl
theorem km_X12_197 : Cond.methodLink RX12 197 yX12_later ∈ bg_L := bg_in 1692 (by decide +kernel) rfl
theorem km_X12_201 : Cond.methodLink RX12 201 yX12_foldUp ∈ bg_L := bg_in 1721 (by decide +kernel) rfl
theorem km_X12_207 : Cond.methodLink RX12 207 yX12_countWith ∈ bg_L := bg_in 1765 (by decide +kernel) rfl
theorem km_X12_210 : Cond.methodLink RX12 210 yX12_countWarm ∈ bg_L := bg_in 1793 (by decide +kernel) rfl
theorem km_X12_214 : Cond.methodLink RX12 214 yX12_wouldJoin ∈ bg_L := bg_in 1817 (by decide +kernel) rfl
theorem km_X12_217 : Cond.methodLink RX12 217 yX12_areTooMuch ∈ bg_L := bg_in 1813 (by decide +kernel) rfl
theorem km_X12_220 : Cond.methodLink RX12 220 yX12_copy ∈ bg_L := bg_in 1711 (by decide +kernel) rfl
theorem km_X12_227 : Cond.methodLink RX12 227 yX12_record ∈ bg_L := bg_in 1737 (by decide +kernel) rfl
theorem km_X12_230 : Cond.methodLink RX12 230 yX12_keep ∈ bg_L := bg_in 1707 (by decide +kernel) rfl
theorem km_X12_233 : Cond.methodLink RX12 233 yX12_doFold ∈ bg_L := bg_in 1717 (by decide +kernel) rfl
theorem km_X12_236 : Cond.methodLink RX12 236 yX12_ends ∈ bg_L := bg_in 1733 (by decide +kernel) rfl
theorem km_X12_239 : Cond.methodLink RX12 239 yX12_doRoll ∈ bg_L := bg_in 1745 (by decide +kernel) rfl
theorem km_X12_242 : Cond.methodLink RX12 242 yX12_doDust ∈ bg_L := bg_in 1753 (by decide +kernel) rfl
theorem km_X12_245 : Cond.methodLink RX12 245 yX12_doSeal ∈ bg_L := bg_in 1761 (by decide +kernel) rfl
theorem km_X12_248 : Cond.methodLink RX12 248 yX12_doCool ∈ bg_L := bg_in 1773 (by decide +kernel) rfl
theorem km_X12_251 : Cond.methodLink RX12 251 yX12_doTakeOut ∈ bg_L := bg_in 1781 (by decide +kernel) rfl
theorem km_X12_254 : Cond.methodLink RX12 254 yX12_doHours ∈ bg_L := bg_in 1789 (by decide +kernel) rfl
theorem km_X12_257 : Cond.methodLink RX12 257 yX12_doCut ∈ bg_L := bg_in 1801 (by decide +kernel) rfl
theorem km_X12_260 : Cond.methodLink RX12 260 yX12_doStack ∈ bg_L := bg_in 1809 (by decide +kernel) rfl
theorem km_X12_263 : Cond.methodLink RX12 263 yX12_doButter ∈ bg_L := bg_in 1825 (by decide +kernel) rfl
theorem km_X12_269 : Cond.methodLink RX12 269 yX12_write ∈ bg_L := bg_in 1837 (by decide +kernel) rfl
theorem km_X12_272 : Cond.methodLink RX12 272 yX12_writeNumber ∈ bg_L := bg_in 1841 (by decide +kernel) rfl
theorem km_X12_285 : Cond.methodLink RX12 285 yX12_byteAt ∈ bg_L := bg_in 1893 (by decide +kernel) rfl
theorem km_X12_297 : Cond.methodLink RX12 297 yX12_isLetter ∈ bg_L := bg_in 1897 (by decide +kernel) rfl
theorem km_X12_300 : Cond.methodLink RX12 300 yX12_isDigit ∈ bg_L := bg_in 1901 (by decide +kernel) rfl
theorem km_X12_309 : Cond.methodLink RX12 309 yX12_scan ∈ bg_L := bg_in 1889 (by decide +kernel) rfl
theorem km_X12_315 : Cond.methodLink RX12 315 yJ0_length_8abf5 ∈ bg_L := bg_in 1914 (by decide +kernel) rfl
theorem km_X12_318 : Cond.methodLink RX12 318 yJ0_charAt_5068e ∈ bg_L := bg_in 1915 (by decide +kernel) rfl
theorem km_X12_326 : Cond.methodLink RX12 326 yX12_isSymbol ∈ bg_L := bg_in 1941 (by decide +kernel) rfl
theorem km_X12_329 : Cond.methodLink RX12 329 yX12_check ∈ bg_L := bg_in 1916 (by decide +kernel) rfl
theorem km_X12_333 : Cond.methodLink RX12 333 yX12_advance ∈ bg_L := bg_in 1920 (by decide +kernel) rfl
theorem km_X12_337 : Cond.methodLink RX12 337 yX12_value ∈ bg_L := bg_in 1932 (by decide +kernel) rfl
theorem km_X12_340 : Cond.methodLink RX12 340 yX12_look ∈ bg_L := bg_in 1928 (by decide +kernel) rfl
theorem km_X12_346 : Cond.methodLink RX12 346 yX12_finish ∈ bg_L := bg_in 1964 (by decide +kernel) rfl
theorem km_X12_322 : Cond.methodLink RX12 322 yX12_isWord ∈ bg_L := bg_in 1910 (by decide +kernel) rfl
theorem km_X12_353 : Cond.methodLink RX12 353 yX12_isLayerHere ∈ bg_L := bg_in 1954 (by decide +kernel) rfl
theorem km_X12_357 : Cond.methodLink RX12 357 yX12_readNumber ∈ bg_L := bg_in 1924 (by decide +kernel) rfl
theorem km_X12_362 : Cond.methodLink RX12 362 yX12_readLayer ∈ bg_L := bg_in 1950 (by decide +kernel) rfl
theorem km_X12_365 : Cond.methodLink RX12 365 yX12_expect ∈ bg_L := bg_in 1937 (by decide +kernel) rfl
theorem km_X12_370 : Cond.methodLink RX12 370 yX12_readSheet ∈ bg_L := bg_in 1945 (by decide +kernel) rfl
theorem km_X12_373 : Cond.methodLink RX12 373 yX12_isLength ∈ bg_L := bg_in 1881 (by decide +kernel) rfl
theorem km_X12_376 : Cond.methodLink RX12 376 yX12_startText ∈ bg_L := bg_in 1885 (by decide +kernel) rfl
theorem km_X12_379 : Cond.methodLink RX12 379 yX12_readBench ∈ bg_L := bg_in 1905 (by decide +kernel) rfl
theorem km_X12_382 : Cond.methodLink RX12 382 yX12_isFaulty ∈ bg_L := bg_in 1960 (by decide +kernel) rfl
theorem km_X12_385 : Cond.methodLink RX12 385 yX12_orderHere ∈ bg_L := bg_in 1976 (by decide +kernel) rfl
theorem km_X12_391 : Cond.methodLink RX12 391 yX12_readSecond ∈ bg_L := bg_in 1980 (by decide +kernel) rfl
theorem km_X12_394 : Cond.methodLink RX12 394 yX12_readOrder ∈ bg_L := bg_in 1972 (by decide +kernel) rfl
theorem km_X12_397 : Cond.methodLink RX12 397 yX12_does ∈ bg_L := bg_in 1984 (by decide +kernel) rfl
theorem km_L_7 : Cond.methodLink RL 7 yX11_loadBench ∈ bg_L := bg_in 450 (by decide +kernel) rfl
theorem km_L_15 : Cond.methodLink RL 15 yX11_layerCount ∈ bg_L := bg_in 666 (by decide +kernel) rfl
theorem km_L_20 : Cond.methodLink RL 20 yX11_butterLayerCount ∈ bg_L := bg_in 697 (by decide +kernel) rfl
theorem km_L_23 : Cond.methodLink RL 23 yX11_isButter ∈ bg_L := bg_in 708 (by decide +kernel) rfl
theorem km_L_27 : Cond.methodLink RL 27 yX11_thickness ∈ bg_L := bg_in 719 (by decide +kernel) rfl
theorem km_L_31 : Cond.methodLink RL 31 yX11_height ∈ bg_L := bg_in 726 (by decide +kernel) rfl
theorem km_L_34 : Cond.methodLink RL 34 yX11_butterHeight ∈ bg_L := bg_in 737 (by decide +kernel) rfl
theorem km_L_37 : Cond.methodLink RL 37 yX11_thinnestLayer ∈ bg_L := bg_in 748 (by decide +kernel) rfl
theorem km_L_40 : Cond.methodLink RL 40 yX11_thickestLayer ∈ bg_L := bg_in 759 (by decide +kernel) rfl
theorem km_L_43 : Cond.methodLink RL 43 yX11_seamCount ∈ bg_L := bg_in 770 (by decide +kernel) rfl
theorem km_L_46 : Cond.methodLink RL 46 yX11_isSymmetric ∈ bg_L := bg_in 781 (by decide +kernel) rfl
theorem km_L_50 : Cond.methodLink RL 50 yX11_temperature ∈ bg_L := bg_in 792 (by decide +kernel) rfl
theorem km_L_53 : Cond.methodLink RL 53 yX11_isDusted ∈ bg_L := bg_in 799 (by decide +kernel) rfl
theorem km_L_56 : Cond.methodLink RL 56 yX11_isSealed ∈ bg_L := bg_in 806 (by decide +kernel) rfl
theorem km_L_59 : Cond.methodLink RL 59 yX11_isCooling ∈ bg_L := bg_in 813 (by decide +kernel) rfl
theorem km_L_62 : Cond.methodLink RL 62 yX11_foldCount ∈ bg_L := bg_in 820 (by decide +kernel) rfl
theorem km_L_65 : Cond.methodLink RL 65 yX11_expectedLayers ∈ bg_L := bg_in 827 (by decide +kernel) rfl
theorem km_L_68 : Cond.methodLink RL 68 yX11_butterShare ∈ bg_L := bg_in 834 (by decide +kernel) rfl
theorem km_L_72 : Cond.methodLink RL 72 yX11_meanThickness ∈ bg_L := bg_in 841 (by decide +kernel) rfl
theorem km_L_76 : Cond.methodLink RL 76 yX11_foldObstacle ∈ bg_L := bg_in 848 (by decide +kernel) rfl
theorem km_L_79 : Cond.methodLink RL 79 yX11_layersAfterFold ∈ bg_L := bg_in 870 (by decide +kernel) rfl
theorem km_L_82 : Cond.methodLink RL 82 yX11_foldsPossible ∈ bg_L := bg_in 878 (by decide +kernel) rfl
theorem km_L_85 : Cond.methodLink RL 85 yX11_butterAtRisk ∈ bg_L := bg_in 889 (by decide +kernel) rfl
theorem km_L_88 : Cond.methodLink RL 88 yX11_layersAtRisk ∈ bg_L := bg_in 908 (by decide +kernel) rfl
theorem km_L_91 : Cond.methodLink RL 91 yX11_heightAfterRoll ∈ bg_L := bg_in 923 (by decide +kernel) rfl
theorem km_L_94 : Cond.methodLink RL 94 yX11_temperatureAfter ∈ bg_L := bg_in 934 (by decide +kernel) rfl
theorem km_L_97 : Cond.methodLink RL 97 yX11_hoursToSafety ∈ bg_L := bg_in 953 (by decide +kernel) rfl
theorem km_L_100 : Cond.methodLink RL 100 yX11_fold ∈ bg_L := bg_in 965 (by decide +kernel) rfl
theorem km_L_105 : Cond.methodLink RL 105 yX11_roll ∈ bg_L := bg_in 1034 (by decide +kernel) rfl
theorem km_L_108 : Cond.methodLink RL 108 yX11_dust ∈ bg_L := bg_in 1055 (by decide +kernel) rfl
theorem km_L_111 : Cond.methodLink RL 111 yX11_seal ∈ bg_L := bg_in 1070 (by decide +kernel) rfl
theorem km_L_114 : Cond.methodLink RL 114 yX11_cool ∈ bg_L := bg_in 1089 (by decide +kernel) rfl
theorem km_L_117 : Cond.methodLink RL 117 yX11_takeOut ∈ bg_L := bg_in 1108 (by decide +kernel) rfl
theorem km_L_120 : Cond.methodLink RL 120 yX11_passHours ∈ bg_L := bg_in 1123 (by decide +kernel) rfl
theorem km_L_123 : Cond.methodLink RL 123 yX11_cut ∈ bg_L := bg_in 1143 (by decide +kernel) rfl
theorem km_L_126 : Cond.methodLink RL 126 yX11_stack ∈ bg_L := bg_in 1158 (by decide +kernel) rfl
theorem km_L_129 : Cond.methodLink RL 129 yX11_addButter ∈ bg_L := bg_in 1190 (by decide +kernel) rfl
theorem km_L_132 : Cond.methodLink RL 132 yX11_buyFlour ∈ bg_L := bg_in 1209 (by decide +kernel) rfl
theorem km_L_135 : Cond.methodLink RL 135 yX11_runScript ∈ bg_L := bg_in 1224 (by decide +kernel) rfl
theorem km_L_138 : Cond.methodLink RL 138 yX11_writeSheet ∈ bg_L := bg_in 1287 (by decide +kernel) rfl
theorem km_L_141 : Cond.methodLink RL 141 yX11_outputByte ∈ bg_L := bg_in 1306 (by decide +kernel) rfl
theorem km_L_144 : Cond.methodLink RL 144 yX11_undo ∈ bg_L := bg_in 1314 (by decide +kernel) rfl
theorem km_L_148 : Cond.methodLink RL 148 yX11_restoreSnapshot ∈ bg_L := bg_in 1326 (by decide +kernel) rfl
theorem km_L_151 : Cond.methodLink RL 151 yX11_init ∈ bg_L := bg_in 102 (by decide +kernel) rfl
theorem km_L_154 : Cond.methodLink RL 154 yX12_init ∈ bg_L := bg_in 1333 (by decide +kernel) rfl
theorem km_L_155 : Cond.methodLink RL 155 yX11_appendText ∈ bg_L := bg_in 370 (by decide +kernel) rfl
theorem km_L_159 : Cond.methodLink RL 159 yX12_appendText ∈ bg_L := bg_in 1865 (by decide +kernel) rfl
theorem km_L_160 : Cond.methodLink RL 160 yL_loadBench ∈ bg_L := bg_in 446 (by decide +kernel) rfl
theorem km_L_165 : Cond.methodLink RL 165 yX12_loadBench ∈ bg_L := bg_in 1877 (by decide +kernel) rfl
theorem km_L_166 : Cond.methodLink RL 166 yX12_thrown ∈ bg_L := bg_in 1463 (by decide +kernel) rfl
theorem km_L_169 : Cond.methodLink RL 169 yX11_errorCode ∈ bg_L := bg_in 378 (by decide +kernel) rfl
theorem km_L_172 : Cond.methodLink RL 172 yX12_errorCode ∈ bg_L := bg_in 1873 (by decide +kernel) rfl
theorem km_L_173 : Cond.methodLink RL 173 yX11_errorOffset ∈ bg_L := bg_in 382 (by decide +kernel) rfl
theorem km_L_176 : Cond.methodLink RL 176 yX12_errorOffset ∈ bg_L := bg_in 1869 (by decide +kernel) rfl
theorem km_L_177 : Cond.methodLink RL 177 yX11_sheetCount ∈ bg_L := bg_in 386 (by decide +kernel) rfl
theorem km_L_180 : Cond.methodLink RL 180 yX12_sheetCount ∈ bg_L := bg_in 1467 (by decide +kernel) rfl
theorem km_L_181 : Cond.methodLink RL 181 yX11_roomTemperature ∈ bg_L := bg_in 390 (by decide +kernel) rfl
theorem km_L_184 : Cond.methodLink RL 184 yX12_roomTemperature ∈ bg_L := bg_in 1471 (by decide +kernel) rfl
theorem km_L_185 : Cond.methodLink RL 185 yX11_meltingPoint ∈ bg_L := bg_in 394 (by decide +kernel) rfl
theorem km_L_188 : Cond.methodLink RL 188 yX12_meltingPoint ∈ bg_L := bg_in 1475 (by decide +kernel) rfl
theorem km_L_189 : Cond.methodLink RL 189 yX11_flour ∈ bg_L := bg_in 398 (by decide +kernel) rfl
theorem km_L_192 : Cond.methodLink RL 192 yX12_flour ∈ bg_L := bg_in 1479 (by decide +kernel) rfl
theorem km_L_193 : Cond.methodLink RL 193 yX11_hoursPassed ∈ bg_L := bg_in 402 (by decide +kernel) rfl
theorem km_L_196 : Cond.methodLink RL 196 yX12_hoursPassed ∈ bg_L := bg_in 1483 (by decide +kernel) rfl
theorem km_L_197 : Cond.methodLink RL 197 yX11_escapedButter ∈ bg_L := bg_in 406 (by decide +kernel) rfl
theorem km_L_200 : Cond.methodLink RL 200 yX12_escapedButter ∈ bg_L := bg_in 1487 (by decide +kernel) rfl
theorem km_L_201 : Cond.methodLink RL 201 yX11_brokenLayers ∈ bg_L := bg_in 410 (by decide +kernel) rfl
theorem km_L_204 : Cond.methodLink RL 204 yX12_brokenLayers ∈ bg_L := bg_in 1491 (by decide +kernel) rfl
theorem km_L_205 : Cond.methodLink RL 205 yX11_warmestSheet ∈ bg_L := bg_in 414 (by decide +kernel) rfl
theorem km_L_208 : Cond.methodLink RL 208 yX12_warmestSheet ∈ bg_L := bg_in 1495 (by decide +kernel) rfl
theorem km_L_209 : Cond.methodLink RL 209 yX11_finestSheet ∈ bg_L := bg_in 422 (by decide +kernel) rfl
theorem km_L_212 : Cond.methodLink RL 212 yX12_finestSheet ∈ bg_L := bg_in 1503 (by decide +kernel) rfl
theorem km_L_213 : Cond.methodLink RL 213 yL_layerCount ∈ bg_L := bg_in 662 (by decide +kernel) rfl
theorem km_L_215 : Cond.methodLink RL 215 yX12_layerCount ∈ bg_L := bg_in 1507 (by decide +kernel) rfl
theorem km_L_216 : Cond.methodLink RL 216 yL_butterLayerCount ∈ bg_L := bg_in 694 (by decide +kernel) rfl
theorem km_L_218 : Cond.methodLink RL 218 yX12_butterLayerCount ∈ bg_L := bg_in 1526 (by decide +kernel) rfl
theorem km_L_219 : Cond.methodLink RL 219 yL_isButter ∈ bg_L := bg_in 705 (by decide +kernel) rfl
theorem km_L_222 : Cond.methodLink RL 222 yX12_isButter ∈ bg_L := bg_in 1534 (by decide +kernel) rfl
theorem km_L_223 : Cond.methodLink RL 223 yL_thickness ∈ bg_L := bg_in 716 (by decide +kernel) rfl
theorem km_L_225 : Cond.methodLink RL 225 yX12_thickness ∈ bg_L := bg_in 1542 (by decide +kernel) rfl
theorem km_L_226 : Cond.methodLink RL 226 yL_height ∈ bg_L := bg_in 723 (by decide +kernel) rfl
theorem km_L_228 : Cond.methodLink RL 228 yX12_height ∈ bg_L := bg_in 1549 (by decide +kernel) rfl
theorem km_L_229 : Cond.methodLink RL 229 yL_butterHeight ∈ bg_L := bg_in 734 (by decide +kernel) rfl
theorem km_L_231 : Cond.methodLink RL 231 yX12_butterHeight ∈ bg_L := bg_in 1557 (by decide +kernel) rfl
theorem km_L_232 : Cond.methodLink RL 232 yL_thinnestLayer ∈ bg_L := bg_in 745 (by decide +kernel) rfl
theorem km_L_234 : Cond.methodLink RL 234 yX12_thinnestLayer ∈ bg_L := bg_in 1565 (by decide +kernel) rfl
theorem km_L_235 : Cond.methodLink RL 235 yL_thickestLayer ∈ bg_L := bg_in 756 (by decide +kernel) rfl
theorem km_L_237 : Cond.methodLink RL 237 yX12_thickestLayer ∈ bg_L := bg_in 1573 (by decide +kernel) rfl
theorem km_L_238 : Cond.methodLink RL 238 yL_seamCount ∈ bg_L := bg_in 767 (by decide +kernel) rfl
theorem km_L_240 : Cond.methodLink RL 240 yX12_seamCount ∈ bg_L := bg_in 1577 (by decide +kernel) rfl
theorem km_L_241 : Cond.methodLink RL 241 yL_isSymmetric ∈ bg_L := bg_in 778 (by decide +kernel) rfl
theorem km_L_243 : Cond.methodLink RL 243 yX12_isSymmetric ∈ bg_L := bg_in 1584 (by decide +kernel) rfl
theorem km_L_244 : Cond.methodLink RL 244 yL_temperature ∈ bg_L := bg_in 789 (by decide +kernel) rfl
theorem km_L_246 : Cond.methodLink RL 246 yX12_temperature ∈ bg_L := bg_in 1588 (by decide +kernel) rfl
theorem km_L_247 : Cond.methodLink RL 247 yL_isDusted ∈ bg_L := bg_in 796 (by decide +kernel) rfl
theorem km_L_249 : Cond.methodLink RL 249 yX12_isDusted ∈ bg_L := bg_in 1592 (by decide +kernel) rfl
theorem km_L_250 : Cond.methodLink RL 250 yL_isSealed ∈ bg_L := bg_in 803 (by decide +kernel) rfl
theorem km_L_252 : Cond.methodLink RL 252 yX12_isSealed ∈ bg_L := bg_in 1604 (by decide +kernel) rfl
theorem km_L_253 : Cond.methodLink RL 253 yL_isCooling ∈ bg_L := bg_in 810 (by decide +kernel) rfl
theorem km_L_255 : Cond.methodLink RL 255 yX12_isCooling ∈ bg_L := bg_in 1608 (by decide +kernel) rfl
theorem km_L_256 : Cond.methodLink RL 256 yL_foldCount ∈ bg_L := bg_in 817 (by decide +kernel) rfl
theorem km_L_258 : Cond.methodLink RL 258 yX12_foldCount ∈ bg_L := bg_in 1612 (by decide +kernel) rfl
theorem km_L_259 : Cond.methodLink RL 259 yL_expectedLayers ∈ bg_L := bg_in 824 (by decide +kernel) rfl
theorem km_L_261 : Cond.methodLink RL 261 yX12_expectedLayers ∈ bg_L := bg_in 1616 (by decide +kernel) rfl
theorem km_L_262 : Cond.methodLink RL 262 yL_butterShare ∈ bg_L := bg_in 831 (by decide +kernel) rfl
theorem km_L_265 : Cond.methodLink RL 265 yX12_butterShare ∈ bg_L := bg_in 1620 (by decide +kernel) rfl
theorem km_L_266 : Cond.methodLink RL 266 yL_meanThickness ∈ bg_L := bg_in 838 (by decide +kernel) rfl
theorem km_L_268 : Cond.methodLink RL 268 yX12_meanThickness ∈ bg_L := bg_in 1624 (by decide +kernel) rfl
theorem km_L_269 : Cond.methodLink RL 269 yL_foldObstacle ∈ bg_L := bg_in 845 (by decide +kernel) rfl
theorem km_L_271 : Cond.methodLink RL 271 yX12_foldObstacle ∈ bg_L := bg_in 1628 (by decide +kernel) rfl
theorem km_L_272 : Cond.methodLink RL 272 yL_layersAfterFold ∈ bg_L := bg_in 867 (by decide +kernel) rfl
theorem km_L_274 : Cond.methodLink RL 274 yX12_layersAfterFold ∈ bg_L := bg_in 1650 (by decide +kernel) rfl
theorem km_L_275 : Cond.methodLink RL 275 yL_foldsPossible ∈ bg_L := bg_in 875 (by decide +kernel) rfl
theorem km_L_277 : Cond.methodLink RL 277 yX12_foldsPossible ∈ bg_L := bg_in 1654 (by decide +kernel) rfl
theorem km_L_278 : Cond.methodLink RL 278 yL_butterAtRisk ∈ bg_L := bg_in 886 (by decide +kernel) rfl
theorem km_L_280 : Cond.methodLink RL 280 yX12_butterAtRisk ∈ bg_L := bg_in 1658 (by decide +kernel) rfl
theorem km_L_281 : Cond.methodLink RL 281 yL_layersAtRisk ∈ bg_L := bg_in 905 (by decide +kernel) rfl
theorem km_L_283 : Cond.methodLink RL 283 yX12_layersAtRisk ∈ bg_L := bg_in 1680 (by decide +kernel) rfl
theorem km_L_284 : Cond.methodLink RL 284 yL_heightAfterRoll ∈ bg_L := bg_in 920 (by decide +kernel) rfl
theorem km_L_286 : Cond.methodLink RL 286 yX12_heightAfterRoll ∈ bg_L := bg_in 1684 (by decide +kernel) rfl
theorem km_L_287 : Cond.methodLink RL 287 yL_temperatureAfter ∈ bg_L := bg_in 931 (by decide +kernel) rfl
theorem km_L_289 : Cond.methodLink RL 289 yX12_temperatureAfter ∈ bg_L := bg_in 1688 (by decide +kernel) rfl
theorem km_L_290 : Cond.methodLink RL 290 yL_hoursToSafety ∈ bg_L := bg_in 950 (by decide +kernel) rfl
theorem km_L_292 : Cond.methodLink RL 292 yX12_hoursToSafety ∈ bg_L := bg_in 1699 (by decide +kernel) rfl
theorem km_L_293 : Cond.methodLink RL 293 yL_fold ∈ bg_L := bg_in 961 (by decide +kernel) rfl
theorem km_L_295 : Cond.methodLink RL 295 yX12_fold ∈ bg_L := bg_in 1703 (by decide +kernel) rfl
theorem km_L_296 : Cond.methodLink RL 296 yL_roll ∈ bg_L := bg_in 1031 (by decide +kernel) rfl
theorem km_L_298 : Cond.methodLink RL 298 yX12_roll ∈ bg_L := bg_in 1741 (by decide +kernel) rfl
theorem km_L_299 : Cond.methodLink RL 299 yL_dust ∈ bg_L := bg_in 1052 (by decide +kernel) rfl
theorem km_L_301 : Cond.methodLink RL 301 yX12_dust ∈ bg_L := bg_in 1749 (by decide +kernel) rfl
theorem km_L_302 : Cond.methodLink RL 302 yL_seal ∈ bg_L := bg_in 1067 (by decide +kernel) rfl
theorem km_L_304 : Cond.methodLink RL 304 yX12_seal ∈ bg_L := bg_in 1757 (by decide +kernel) rfl
theorem km_L_305 : Cond.methodLink RL 305 yL_cool ∈ bg_L := bg_in 1086 (by decide +kernel) rfl
theorem km_L_307 : Cond.methodLink RL 307 yX12_cool ∈ bg_L := bg_in 1769 (by decide +kernel) rfl
theorem km_L_308 : Cond.methodLink RL 308 yL_takeOut ∈ bg_L := bg_in 1105 (by decide +kernel) rfl
theorem km_L_310 : Cond.methodLink RL 310 yX12_takeOut ∈ bg_L := bg_in 1777 (by decide +kernel) rfl
theorem km_L_311 : Cond.methodLink RL 311 yL_passHours ∈ bg_L := bg_in 1120 (by decide +kernel) rfl
theorem km_L_313 : Cond.methodLink RL 313 yX12_passHours ∈ bg_L := bg_in 1785 (by decide +kernel) rfl
theorem km_L_314 : Cond.methodLink RL 314 yL_cut ∈ bg_L := bg_in 1140 (by decide +kernel) rfl
theorem km_L_316 : Cond.methodLink RL 316 yX12_cut ∈ bg_L := bg_in 1797 (by decide +kernel) rfl
theorem km_L_317 : Cond.methodLink RL 317 yL_stack ∈ bg_L := bg_in 1155 (by decide +kernel) rfl
theorem km_L_319 : Cond.methodLink RL 319 yX12_stack ∈ bg_L := bg_in 1805 (by decide +kernel) rfl
theorem km_L_320 : Cond.methodLink RL 320 yL_addButter ∈ bg_L := bg_in 1187 (by decide +kernel) rfl
theorem km_L_322 : Cond.methodLink RL 322 yX12_addButter ∈ bg_L := bg_in 1821 (by decide +kernel) rfl
theorem km_L_323 : Cond.methodLink RL 323 yL_buyFlour ∈ bg_L := bg_in 1206 (by decide +kernel) rfl
theorem km_L_325 : Cond.methodLink RL 325 yX12_buyFlour ∈ bg_L := bg_in 1829 (by decide +kernel) rfl
theorem km_L_326 : Cond.methodLink RL 326 yL_runScript ∈ bg_L := bg_in 1221 (by decide +kernel) rfl
theorem km_L_328 : Cond.methodLink RL 328 yX12_runScript ∈ bg_L := bg_in 1968 (by decide +kernel) rfl
theorem km_L_329 : Cond.methodLink RL 329 yL_writeSheet ∈ bg_L := bg_in 1284 (by decide +kernel) rfl
theorem km_L_331 : Cond.methodLink RL 331 yX12_writeSheet ∈ bg_L := bg_in 1833 (by decide +kernel) rfl
theorem km_L_332 : Cond.methodLink RL 332 yL_outputByte ∈ bg_L := bg_in 1303 (by decide +kernel) rfl
theorem km_L_334 : Cond.methodLink RL 334 yX12_outputByte ∈ bg_L := bg_in 1845 (by decide +kernel) rfl
theorem km_L_335 : Cond.methodLink RL 335 yX11_undoableCount ∈ bg_L := bg_in 430 (by decide +kernel) rfl
theorem km_L_338 : Cond.methodLink RL 338 yX12_undoableCount ∈ bg_L := bg_in 1849 (by decide +kernel) rfl
theorem km_L_339 : Cond.methodLink RL 339 yL_undo ∈ bg_L := bg_in 1311 (by decide +kernel) rfl
theorem km_L_342 : Cond.methodLink RL 342 yX12_undo ∈ bg_L := bg_in 1853 (by decide +kernel) rfl
theorem km_L_343 : Cond.methodLink RL 343 yX11_saveSnapshot ∈ bg_L := bg_in 434 (by decide +kernel) rfl
theorem km_L_346 : Cond.methodLink RL 346 yX12_saveSnapshot ∈ bg_L := bg_in 1857 (by decide +kernel) rfl
theorem km_L_347 : Cond.methodLink RL 347 yL_restoreSnapshot ∈ bg_L := bg_in 1323 (by decide +kernel) rfl
theorem km_L_349 : Cond.methodLink RL 349 yX12_restoreSnapshot ∈ bg_L := bg_in 1861 (by decide +kernel) rfl
theorem kv_X1_init_17 {G : xG} (hN : ∀ s : State, G.2.2.1 (x_A G) s s.heap → va_Nw (.methodLinkNest RX1 17 yX8_init "PastryBench") s) : x_LIN G MX1_init 17 MX8_init 0 "PastryBench" := ⟨⟨kc_X8_init.1, ⟨Nat.le_of_ble_eq_true rfl, Nat.le_of_ble_eq_true rfl⟩, kc_X8_init.2.1, kc_X8_init.2.2.1, kc_X8_init.2.2.2, rfl⟩, hN, kt_X8_init, rfl, rfl⟩
theorem kv_X1_addSheet_53 : x_LV MX1_addSheet 53 MX8_begin 1 := ⟨⟨kc_X8_begin.1, ⟨Nat.le_of_ble_eq_true rfl, Nat.le_of_ble_eq_true rfl⟩, kc_X8_begin.2.1, kc_X8_begin.2.2.1, kc_X8_begin.2.2.2, rfl⟩, km_X1_53, kt_X8_begin, ke_X8_begin⟩
theorem kv_X8_putLayer_46 : x_LV MX8_putLayer 46 MX8_wouldJoin 1 := ⟨⟨kc_X8_wouldJoin.1, ⟨Nat.le_of_ble_eq_true rfl, Nat.le_of_ble_eq_true rfl⟩, kc_X8_wouldJoin.2.1, kc_X8_wouldJoin.2.2.1, kc_X8_wouldJoin.2.2.2, rfl⟩, km_X8_46, kt_X8_wouldJoin, ke_X8_wouldJoin⟩
theorem kv_X8_load_42 : x_LV MX8_load 42 MX8_putLayer 3 := ⟨⟨kc_X8_putLayer.1, ⟨Nat.le_of_ble_eq_true rfl, Nat.le_of_ble_eq_true rfl⟩, kc_X8_putLayer.2.1, kc_X8_putLayer.2.2.1, kc_X8_putLayer.2.2.2, rfl⟩, km_X8_42, kt_X8_putLayer, ke_X8_putLayer⟩
theorem kv_X1_addLayer_55 : x_LV MX1_addLayer 55 MX8_load 2 := ⟨⟨kc_X8_load.1, ⟨Nat.le_of_ble_eq_true rfl, Nat.le_of_ble_eq_true rfl⟩, kc_X8_load.2.1, kc_X8_load.2.2.1, kc_X8_load.2.2.2, rfl⟩, km_X1_55, kt_X8_load, ke_X8_load⟩
theorem kv_X1_first_18 : x_LI MX1_first 18 MX1_init 0 := ⟨⟨kc_X1_init.1, ⟨Nat.le_of_ble_eq_true rfl, Nat.le_of_ble_eq_true rfl⟩, kc_X1_init.2.1, kc_X1_init.2.2.1, kc_X1_init.2.2.2, rfl⟩, km_X1_18, kt_X1_init, rfl, rfl⟩
theorem kv_X1_first_19 : x_LV MX1_first 19 MX1_begin 3 := ⟨⟨kc_X1_begin.1, ⟨Nat.le_of_ble_eq_true rfl, Nat.le_of_ble_eq_true rfl⟩, kc_X1_begin.2.1, kc_X1_begin.2.2.1, kc_X1_begin.2.2.2, rfl⟩, km_X1_19, kt_X1_begin, ke_X1_begin⟩
theorem kv_X1_first_23 : x_LV MX1_first 23 MX1_addSheet 1 := ⟨⟨kc_X1_addSheet.1, ⟨Nat.le_of_ble_eq_true rfl, Nat.le_of_ble_eq_true rfl⟩, kc_X1_addSheet.2.1, kc_X1_addSheet.2.2.1, kc_X1_addSheet.2.2.2, rfl⟩, km_X1_23, kt_X1_addSheet, ke_X1_addSheet⟩
theorem kv_X1_first_27 : x_LV MX1_first 27 MX1_addLayer 2 := ⟨⟨kc_X1_addLayer.1, ⟨Nat.le_of_ble_eq_true rfl, Nat.le_of_ble_eq_true rfl⟩, kc_X1_addLayer.2.1, kc_X1_addLayer.2.2.1, kc_X1_addLayer.2.2.2, rfl⟩, km_X1_27, kt_X1_addLayer, ke_X1_addLayer⟩
theorem kv_X1_copyFrom_58 : x_LV MX1_copyFrom 58 MX8_copyFrom 1 := ⟨⟨kc_X8_copyFrom.1, ⟨Nat.le_of_ble_eq_true rfl, Nat.le_of_ble_eq_true rfl⟩, kc_X8_copyFrom.2.1, kc_X8_copyFrom.2.2.1, kc_X8_copyFrom.2.2.2, rfl⟩, km_X1_58, kt_X8_copyFrom, ke_X8_copyFrom⟩
theorem kv_X8_findFoldObstacle_50 {G : xG} (hN : ∀ s : State, G.2.2.1 (x_A G) s s.heap → va_Nw (.methodLinkNest RX8 50 yX11_layersFolded "PastryBench") s) : x_LSN G MX8_findFoldObstacle 50 MX11_layersFolded 3 "PastryBench" := ⟨⟨kc_X11_layersFolded.1, ⟨Nat.le_of_ble_eq_true rfl, Nat.le_of_ble_eq_true rfl⟩, kc_X11_layersFolded.2.1, kc_X11_layersFolded.2.2.1, kc_X11_layersFolded.2.2.2, rfl⟩, hN, kt_X11_layersFolded⟩
theorem kv_X8_findFoldObstacle_54 : x_LV MX8_findFoldObstacle 54 MX8_totalHeight 0 := ⟨⟨kc_X8_totalHeight.1, ⟨Nat.le_of_ble_eq_true rfl, Nat.le_of_ble_eq_true rfl⟩, kc_X8_totalHeight.2.1, kc_X8_totalHeight.2.2.1, kc_X8_totalHeight.2.2.2, rfl⟩, km_X8_54, kt_X8_totalHeight, ke_X8_totalHeight⟩
theorem kv_X1_refusalOfFold_84 : x_LV MX1_refusalOfFold 84 MX1_hasSheet 1 := ⟨⟨kc_X1_hasSheet.1, ⟨Nat.le_of_ble_eq_true rfl, Nat.le_of_ble_eq_true rfl⟩, kc_X1_hasSheet.2.1, kc_X1_hasSheet.2.2.1, kc_X1_hasSheet.2.2.2, rfl⟩, km_X1_84, kt_X1_hasSheet, ke_X1_hasSheet⟩
theorem kv_X1_refusalOfFold_91 {G : xG} (hN : ∀ s : State, G.2.2.1 (x_A G) s s.heap → va_Nw (.methodLinkNest RX1 91 yX11_isFactor "PastryBench") s) : x_LSN G MX1_refusalOfFold 91 MX11_isFactor 1 "PastryBench" := ⟨⟨kc_X11_isFactor.1, ⟨Nat.le_of_ble_eq_true rfl, Nat.le_of_ble_eq_true rfl⟩, kc_X11_isFactor.2.1, kc_X11_isFactor.2.2.1, kc_X11_isFactor.2.2.2, rfl⟩, hN, kt_X11_isFactor⟩
theorem kv_X1_refusalOfFold_97 : x_LV MX1_refusalOfFold 97 MX8_findFoldObstacle 1 := ⟨⟨kc_X8_findFoldObstacle.1, ⟨Nat.le_of_ble_eq_true rfl, Nat.le_of_ble_eq_true rfl⟩, kc_X8_findFoldObstacle.2.1, kc_X8_findFoldObstacle.2.2.1, kc_X8_findFoldObstacle.2.2.2, rfl⟩, km_X1_97, kt_X8_findFoldObstacle, ke_X8_findFoldObstacle⟩
theorem kv_X1_refusalOfFold_101 : x_LS MX1_refusalOfFold 101 MX1_stateRefusal 1 := ⟨⟨kc_X1_stateRefusal.1, ⟨Nat.le_of_ble_eq_true rfl, Nat.le_of_ble_eq_true rfl⟩, kc_X1_stateRefusal.2.1, kc_X1_stateRefusal.2.2.1, kc_X1_stateRefusal.2.2.2, rfl⟩, km_X1_101, kt_X1_stateRefusal⟩
theorem kv_X11_warmedByWork_359 (n : Nat) (hn : n ≤ 8) : x_MN MX11_warmedByWork 359 n := ⟨km_X11_359, ks_min.1, ks_min.2.1, ks_min.2.2, Nat.le_of_ble_eq_true rfl, Nat.le_trans (Nat.add_le_add_right hn _) (by decide +kernel)⟩
theorem kv_X8_foldUp_42 : x_LV MX8_foldUp 42 MX8_putLayer 3 := ⟨⟨kc_X8_putLayer.1, ⟨Nat.le_of_ble_eq_true rfl, Nat.le_of_ble_eq_true rfl⟩, kc_X8_putLayer.2.1, kc_X8_putLayer.2.2.1, kc_X8_putLayer.2.2.2, rfl⟩, km_X8_42, kt_X8_putLayer, ke_X8_putLayer⟩
theorem kv_X8_foldUp_58 {G : xG} (hN : ∀ s : State, G.2.2.1 (x_A G) s s.heap → va_Nw (.methodLinkNest RX8 58 yX11_warmedByWork "PastryBench") s) : x_LSN G MX8_foldUp 58 MX11_warmedByWork 1 "PastryBench" := ⟨⟨kc_X11_warmedByWork.1, ⟨Nat.le_of_ble_eq_true rfl, Nat.le_of_ble_eq_true rfl⟩, kc_X11_warmedByWork.2.1, kc_X11_warmedByWork.2.2.1, kc_X11_warmedByWork.2.2.2, rfl⟩, hN, kt_X11_warmedByWork⟩
theorem kv_X1_applyFold_105 : x_LV MX1_applyFold 105 MX8_foldUp 1 := ⟨⟨kc_X8_foldUp.1, ⟨Nat.le_of_ble_eq_true rfl, Nat.le_of_ble_eq_true rfl⟩, kc_X8_foldUp.2.1, kc_X8_foldUp.2.2.1, kc_X8_foldUp.2.2.2, rfl⟩, km_X1_105, kt_X8_foldUp, ke_X8_foldUp⟩
theorem kv_X8_lossPerLayer_62 (n : Nat) (hn : n ≤ 8) : x_MX MX8_lossPerLayer 62 n := ⟨km_X8_62, ks_max.1, ks_max.2.1, ks_max.2.2, Nat.le_of_ble_eq_true rfl, Nat.le_trans (Nat.add_le_add_right hn _) (by decide +kernel)⟩
theorem kv_X8_thicknessRolled_62 (n : Nat) (hn : n ≤ 8) : x_MX MX8_thicknessRolled 62 n := ⟨km_X8_62, ks_max.1, ks_max.2.1, ks_max.2.2, Nat.le_of_ble_eq_true rfl, Nat.le_trans (Nat.add_le_add_right hn _) (by decide +kernel)⟩
theorem kv_X8_sumRolled_68 : x_LV MX8_sumRolled 68 MX8_lossPerLayer 1 := ⟨⟨kc_X8_lossPerLayer.1, ⟨Nat.le_of_ble_eq_true rfl, Nat.le_of_ble_eq_true rfl⟩, kc_X8_lossPerLayer.2.1, kc_X8_lossPerLayer.2.2.1, kc_X8_lossPerLayer.2.2.2, rfl⟩, km_X8_68, kt_X8_lossPerLayer, ke_X8_lossPerLayer⟩
theorem kv_X8_sumRolled_74 : x_LV MX8_sumRolled 74 MX8_thicknessRolled 3 := ⟨⟨kc_X8_thicknessRolled.1, ⟨Nat.le_of_ble_eq_true rfl, Nat.le_of_ble_eq_true rfl⟩, kc_X8_thicknessRolled.2.1, kc_X8_thicknessRolled.2.2.1, kc_X8_thicknessRolled.2.2.2, rfl⟩, km_X8_74, kt_X8_thicknessRolled, ke_X8_thicknessRolled⟩
theorem kv_X1_refusalOfRoll_84 : x_LV MX1_refusalOfRoll 84 MX1_hasSheet 1 := ⟨⟨kc_X1_hasSheet.1, ⟨Nat.le_of_ble_eq_true rfl, Nat.le_of_ble_eq_true rfl⟩, kc_X1_hasSheet.2.1, kc_X1_hasSheet.2.2.1, kc_X1_hasSheet.2.2.2, rfl⟩, km_X1_84, kt_X1_hasSheet, ke_X1_hasSheet⟩
theorem kv_X1_refusalOfRoll_91 {G : xG} (hN : ∀ s : State, G.2.2.1 (x_A G) s s.heap → va_Nw (.methodLinkNest RX1 91 yX11_isFactor "PastryBench") s) : x_LSN G MX1_refusalOfRoll 91 MX11_isFactor 1 "PastryBench" := ⟨⟨kc_X11_isFactor.1, ⟨Nat.le_of_ble_eq_true rfl, Nat.le_of_ble_eq_true rfl⟩, kc_X11_isFactor.2.1, kc_X11_isFactor.2.2.1, kc_X11_isFactor.2.2.2, rfl⟩, hN, kt_X11_isFactor⟩
theorem kv_X1_refusalOfRoll_108 : x_LV MX1_refusalOfRoll 108 MX8_sumRolled 2 := ⟨⟨kc_X8_sumRolled.1, ⟨Nat.le_of_ble_eq_true rfl, Nat.le_of_ble_eq_true rfl⟩, kc_X8_sumRolled.2.1, kc_X8_sumRolled.2.2.1, kc_X8_sumRolled.2.2.2, rfl⟩, km_X1_108, kt_X8_sumRolled, ke_X8_sumRolled⟩
theorem kv_X1_refusalOfRoll_101 : x_LS MX1_refusalOfRoll 101 MX1_stateRefusal 1 := ⟨⟨kc_X1_stateRefusal.1, ⟨Nat.le_of_ble_eq_true rfl, Nat.le_of_ble_eq_true rfl⟩, kc_X1_stateRefusal.2.1, kc_X1_stateRefusal.2.2.1, kc_X1_stateRefusal.2.2.2, rfl⟩, km_X1_101, kt_X1_stateRefusal⟩
theorem kv_X8_sumEscaping_68 : x_LV MX8_sumEscaping 68 MX8_lossPerLayer 1 := ⟨⟨kc_X8_lossPerLayer.1, ⟨Nat.le_of_ble_eq_true rfl, Nat.le_of_ble_eq_true rfl⟩, kc_X8_lossPerLayer.2.1, kc_X8_lossPerLayer.2.2.1, kc_X8_lossPerLayer.2.2.2, rfl⟩, km_X8_68, kt_X8_lossPerLayer, ke_X8_lossPerLayer⟩
theorem kv_X8_sumEscaping_71 (n : Nat) (hn : n ≤ 8) : x_MN MX8_sumEscaping 71 n := ⟨km_X8_71, ks_min.1, ks_min.2.1, ks_min.2.2, Nat.le_of_ble_eq_true rfl, Nat.le_trans (Nat.add_le_add_right hn _) (by decide +kernel)⟩
theorem kv_X8_rollOut_68 : x_LV MX8_rollOut 68 MX8_lossPerLayer 1 := ⟨⟨kc_X8_lossPerLayer.1, ⟨Nat.le_of_ble_eq_true rfl, Nat.le_of_ble_eq_true rfl⟩, kc_X8_lossPerLayer.2.1, kc_X8_lossPerLayer.2.2.1, kc_X8_lossPerLayer.2.2.2, rfl⟩, km_X8_68, kt_X8_lossPerLayer, ke_X8_lossPerLayer⟩
theorem kv_X8_rollOut_74 : x_LV MX8_rollOut 74 MX8_thicknessRolled 3 := ⟨⟨kc_X8_thicknessRolled.1, ⟨Nat.le_of_ble_eq_true rfl, Nat.le_of_ble_eq_true rfl⟩, kc_X8_thicknessRolled.2.1, kc_X8_thicknessRolled.2.2.1, kc_X8_thicknessRolled.2.2.2, rfl⟩, km_X8_74, kt_X8_thicknessRolled, ke_X8_thicknessRolled⟩
theorem kv_X8_rollOut_42 : x_LV MX8_rollOut 42 MX8_putLayer 3 := ⟨⟨kc_X8_putLayer.1, ⟨Nat.le_of_ble_eq_true rfl, Nat.le_of_ble_eq_true rfl⟩, kc_X8_putLayer.2.1, kc_X8_putLayer.2.2.1, kc_X8_putLayer.2.2.2, rfl⟩, km_X8_42, kt_X8_putLayer, ke_X8_putLayer⟩
theorem kv_X8_rollOut_58 {G : xG} (hN : ∀ s : State, G.2.2.1 (x_A G) s s.heap → va_Nw (.methodLinkNest RX8 58 yX11_warmedByWork "PastryBench") s) : x_LSN G MX8_rollOut 58 MX11_warmedByWork 1 "PastryBench" := ⟨⟨kc_X11_warmedByWork.1, ⟨Nat.le_of_ble_eq_true rfl, Nat.le_of_ble_eq_true rfl⟩, kc_X11_warmedByWork.2.1, kc_X11_warmedByWork.2.2.1, kc_X11_warmedByWork.2.2.2, rfl⟩, hN, kt_X11_warmedByWork⟩
theorem kv_X1_applyRoll_112 : x_LV MX1_applyRoll 112 MX8_sumEscaping 1 := ⟨⟨kc_X8_sumEscaping.1, ⟨Nat.le_of_ble_eq_true rfl, Nat.le_of_ble_eq_true rfl⟩, kc_X8_sumEscaping.2.1, kc_X8_sumEscaping.2.2.1, kc_X8_sumEscaping.2.2.2, rfl⟩, km_X1_112, kt_X8_sumEscaping, ke_X8_sumEscaping⟩
theorem kv_X1_applyRoll_115 : x_LV MX1_applyRoll 115 MX8_rollOut 2 := ⟨⟨kc_X8_rollOut.1, ⟨Nat.le_of_ble_eq_true rfl, Nat.le_of_ble_eq_true rfl⟩, kc_X8_rollOut.2.1, kc_X8_rollOut.2.2.1, kc_X8_rollOut.2.2.2, rfl⟩, km_X1_115, kt_X8_rollOut, ke_X8_rollOut⟩
theorem kv_X1_refusalOfDust_84 : x_LV MX1_refusalOfDust 84 MX1_hasSheet 1 := ⟨⟨kc_X1_hasSheet.1, ⟨Nat.le_of_ble_eq_true rfl, Nat.le_of_ble_eq_true rfl⟩, kc_X1_hasSheet.2.1, kc_X1_hasSheet.2.2.1, kc_X1_hasSheet.2.2.2, rfl⟩, km_X1_84, kt_X1_hasSheet, ke_X1_hasSheet⟩
theorem kv_X1_refusalOfDust_101 : x_LS MX1_refusalOfDust 101 MX1_stateRefusal 1 := ⟨⟨kc_X1_stateRefusal.1, ⟨Nat.le_of_ble_eq_true rfl, Nat.le_of_ble_eq_true rfl⟩, kc_X1_stateRefusal.2.1, kc_X1_stateRefusal.2.2.1, kc_X1_stateRefusal.2.2.2, rfl⟩, km_X1_101, kt_X1_stateRefusal⟩
theorem kv_X1_refusalOfSeal_84 : x_LV MX1_refusalOfSeal 84 MX1_hasSheet 1 := ⟨⟨kc_X1_hasSheet.1, ⟨Nat.le_of_ble_eq_true rfl, Nat.le_of_ble_eq_true rfl⟩, kc_X1_hasSheet.2.1, kc_X1_hasSheet.2.2.1, kc_X1_hasSheet.2.2.2, rfl⟩, km_X1_84, kt_X1_hasSheet, ke_X1_hasSheet⟩
theorem kv_X1_refusalOfSeal_101 : x_LS MX1_refusalOfSeal 101 MX1_stateRefusal 1 := ⟨⟨kc_X1_stateRefusal.1, ⟨Nat.le_of_ble_eq_true rfl, Nat.le_of_ble_eq_true rfl⟩, kc_X1_stateRefusal.2.1, kc_X1_stateRefusal.2.2.1, kc_X1_stateRefusal.2.2.2, rfl⟩, km_X1_101, kt_X1_stateRefusal⟩
theorem kv_X1_applySeal_121 : x_LV MX1_applySeal 121 MX1_countSealed 0 := ⟨⟨kc_X1_countSealed.1, ⟨Nat.le_of_ble_eq_true rfl, Nat.le_of_ble_eq_true rfl⟩, kc_X1_countSealed.2.1, kc_X1_countSealed.2.2.1, kc_X1_countSealed.2.2.2, rfl⟩, km_X1_121, kt_X1_countSealed, ke_X1_countSealed⟩
theorem kv_X1_refusalOfCool_84 : x_LV MX1_refusalOfCool 84 MX1_hasSheet 1 := ⟨⟨kc_X1_hasSheet.1, ⟨Nat.le_of_ble_eq_true rfl, Nat.le_of_ble_eq_true rfl⟩, kc_X1_hasSheet.2.1, kc_X1_hasSheet.2.2.1, kc_X1_hasSheet.2.2.2, rfl⟩, km_X1_84, kt_X1_hasSheet, ke_X1_hasSheet⟩
theorem kv_X1_refusalOfCool_125 : x_LV MX1_refusalOfCool 125 MX1_countCooling 0 := ⟨⟨kc_X1_countCooling.1, ⟨Nat.le_of_ble_eq_true rfl, Nat.le_of_ble_eq_true rfl⟩, kc_X1_countCooling.2.1, kc_X1_countCooling.2.2.1, kc_X1_countCooling.2.2.2, rfl⟩, km_X1_125, kt_X1_countCooling, ke_X1_countCooling⟩
theorem kv_X1_refusalOfCool_101 : x_LS MX1_refusalOfCool 101 MX1_stateRefusal 1 := ⟨⟨kc_X1_stateRefusal.1, ⟨Nat.le_of_ble_eq_true rfl, Nat.le_of_ble_eq_true rfl⟩, kc_X1_stateRefusal.2.1, kc_X1_stateRefusal.2.2.1, kc_X1_stateRefusal.2.2.2, rfl⟩, km_X1_101, kt_X1_stateRefusal⟩
theorem kv_X1_applyCool_125 : x_LV MX1_applyCool 125 MX1_countCooling 0 := ⟨⟨kc_X1_countCooling.1, ⟨Nat.le_of_ble_eq_true rfl, Nat.le_of_ble_eq_true rfl⟩, kc_X1_countCooling.2.1, kc_X1_countCooling.2.2.1, kc_X1_countCooling.2.2.2, rfl⟩, km_X1_125, kt_X1_countCooling, ke_X1_countCooling⟩
theorem kv_X1_refusalOfTakeOut_84 : x_LV MX1_refusalOfTakeOut 84 MX1_hasSheet 1 := ⟨⟨kc_X1_hasSheet.1, ⟨Nat.le_of_ble_eq_true rfl, Nat.le_of_ble_eq_true rfl⟩, kc_X1_hasSheet.2.1, kc_X1_hasSheet.2.2.1, kc_X1_hasSheet.2.2.2, rfl⟩, km_X1_84, kt_X1_hasSheet, ke_X1_hasSheet⟩
theorem kv_X1_refusalOfTakeOut_101 : x_LS MX1_refusalOfTakeOut 101 MX1_stateRefusal 1 := ⟨⟨kc_X1_stateRefusal.1, ⟨Nat.le_of_ble_eq_true rfl, Nat.le_of_ble_eq_true rfl⟩, kc_X1_stateRefusal.2.1, kc_X1_stateRefusal.2.2.1, kc_X1_stateRefusal.2.2.2, rfl⟩, km_X1_101, kt_X1_stateRefusal⟩
theorem kv_X1_refusalOfHours_101 : x_LS MX1_refusalOfHours 101 MX1_stateRefusal 1 := ⟨⟨kc_X1_stateRefusal.1, ⟨Nat.le_of_ble_eq_true rfl, Nat.le_of_ble_eq_true rfl⟩, kc_X1_stateRefusal.2.1, kc_X1_stateRefusal.2.2.1, kc_X1_stateRefusal.2.2.2, rfl⟩, km_X1_101, kt_X1_stateRefusal⟩
theorem kv_X11_cooledByFridge_364 (n : Nat) (hn : n ≤ 8) : x_MX MX11_cooledByFridge 364 n := ⟨km_X11_364, ks_max.1, ks_max.2.1, ks_max.2.2, Nat.le_of_ble_eq_true rfl, Nat.le_trans (Nat.add_le_add_right hn _) (by decide +kernel)⟩
theorem kv_X8_warmthAfter_78 {G : xG} (hN : ∀ s : State, G.2.2.1 (x_A G) s s.heap → va_Nw (.methodLinkNest RX8 78 yX11_cooledByFridge "PastryBench") s) : x_LSN G MX8_warmthAfter 78 MX11_cooledByFridge 1 "PastryBench" := ⟨⟨kc_X11_cooledByFridge.1, ⟨Nat.le_of_ble_eq_true rfl, Nat.le_of_ble_eq_true rfl⟩, kc_X11_cooledByFridge.2.1, kc_X11_cooledByFridge.2.2.1, kc_X11_cooledByFridge.2.2.2, rfl⟩, hN, kt_X11_cooledByFridge⟩
theorem kv_X8_warmthAfter_81 {G : xG} (hN : ∀ s : State, G.2.2.1 (x_A G) s s.heap → va_Nw (.methodLinkNest RX8 81 yX11_drawnToRoom "PastryBench") s) : x_LSN G MX8_warmthAfter 81 MX11_drawnToRoom 2 "PastryBench" := ⟨⟨kc_X11_drawnToRoom.1, ⟨Nat.le_of_ble_eq_true rfl, Nat.le_of_ble_eq_true rfl⟩, kc_X11_drawnToRoom.2.1, kc_X11_drawnToRoom.2.2.1, kc_X11_drawnToRoom.2.2.2, rfl⟩, hN, kt_X11_drawnToRoom⟩
theorem kv_X1_applyHours_128 : x_LV MX1_applyHours 128 MX8_warmthAfter 2 := ⟨⟨kc_X8_warmthAfter.1, ⟨Nat.le_of_ble_eq_true rfl, Nat.le_of_ble_eq_true rfl⟩, kc_X8_warmthAfter.2.1, kc_X8_warmthAfter.2.2.1, kc_X8_warmthAfter.2.2.2, rfl⟩, km_X1_128, kt_X8_warmthAfter, ke_X8_warmthAfter⟩
theorem kv_X1_applyHours_131 : x_LV MX1_applyHours 131 MX1_countUnsafe 0 := ⟨⟨kc_X1_countUnsafe.1, ⟨Nat.le_of_ble_eq_true rfl, Nat.le_of_ble_eq_true rfl⟩, kc_X1_countUnsafe.2.1, kc_X1_countUnsafe.2.2.1, kc_X1_countUnsafe.2.2.2, rfl⟩, km_X1_131, kt_X1_countUnsafe, ke_X1_countUnsafe⟩
theorem kv_X1_refusalOfCut_84 : x_LV MX1_refusalOfCut 84 MX1_hasSheet 1 := ⟨⟨kc_X1_hasSheet.1, ⟨Nat.le_of_ble_eq_true rfl, Nat.le_of_ble_eq_true rfl⟩, kc_X1_hasSheet.2.1, kc_X1_hasSheet.2.2.1, kc_X1_hasSheet.2.2.2, rfl⟩, km_X1_84, kt_X1_hasSheet, ke_X1_hasSheet⟩
theorem kv_X1_refusalOfCut_101 : x_LS MX1_refusalOfCut 101 MX1_stateRefusal 1 := ⟨⟨kc_X1_stateRefusal.1, ⟨Nat.le_of_ble_eq_true rfl, Nat.le_of_ble_eq_true rfl⟩, kc_X1_stateRefusal.2.1, kc_X1_stateRefusal.2.2.1, kc_X1_stateRefusal.2.2.2, rfl⟩, km_X1_101, kt_X1_stateRefusal⟩
theorem kv_X1_applyCut_58 : x_LV MX1_applyCut 58 MX8_copyFrom 1 := ⟨⟨kc_X8_copyFrom.1, ⟨Nat.le_of_ble_eq_true rfl, Nat.le_of_ble_eq_true rfl⟩, kc_X8_copyFrom.2.1, kc_X8_copyFrom.2.2.1, kc_X8_copyFrom.2.2.2, rfl⟩, km_X1_58, kt_X8_copyFrom, ke_X8_copyFrom⟩
theorem kv_X8_joinsWith_46 : x_LV MX8_joinsWith 46 MX8_wouldJoin 1 := ⟨⟨kc_X8_wouldJoin.1, ⟨Nat.le_of_ble_eq_true rfl, Nat.le_of_ble_eq_true rfl⟩, kc_X8_wouldJoin.2.1, kc_X8_wouldJoin.2.2.1, kc_X8_wouldJoin.2.2.2, rfl⟩, km_X8_46, kt_X8_wouldJoin, ke_X8_wouldJoin⟩
theorem kv_X8_layersWith_84 : x_LV MX8_layersWith 84 MX8_joinsWith 1 := ⟨⟨kc_X8_joinsWith.1, ⟨Nat.le_of_ble_eq_true rfl, Nat.le_of_ble_eq_true rfl⟩, kc_X8_joinsWith.2.1, kc_X8_joinsWith.2.2.1, kc_X8_joinsWith.2.2.2, rfl⟩, km_X8_84, kt_X8_joinsWith, ke_X8_joinsWith⟩
theorem kv_X1_refusalOfStack_84 : x_LV MX1_refusalOfStack 84 MX1_hasSheet 1 := ⟨⟨kc_X1_hasSheet.1, ⟨Nat.le_of_ble_eq_true rfl, Nat.le_of_ble_eq_true rfl⟩, kc_X1_hasSheet.2.1, kc_X1_hasSheet.2.2.1, kc_X1_hasSheet.2.2.2, rfl⟩, km_X1_84, kt_X1_hasSheet, ke_X1_hasSheet⟩
theorem kv_X1_refusalOfStack_134 : x_LV MX1_refusalOfStack 134 MX8_layersWith 1 := ⟨⟨kc_X8_layersWith.1, ⟨Nat.le_of_ble_eq_true rfl, Nat.le_of_ble_eq_true rfl⟩, kc_X8_layersWith.2.1, kc_X8_layersWith.2.2.1, kc_X8_layersWith.2.2.2, rfl⟩, km_X1_134, kt_X8_layersWith, ke_X8_layersWith⟩
theorem kv_X1_refusalOfStack_138 : x_LV MX1_refusalOfStack 138 MX8_totalHeight 0 := ⟨⟨kc_X8_totalHeight.1, ⟨Nat.le_of_ble_eq_true rfl, Nat.le_of_ble_eq_true rfl⟩, kc_X8_totalHeight.2.1, kc_X8_totalHeight.2.2.1, kc_X8_totalHeight.2.2.2, rfl⟩, km_X1_138, kt_X8_totalHeight, ke_X8_totalHeight⟩
theorem kv_X1_refusalOfStack_101 : x_LS MX1_refusalOfStack 101 MX1_stateRefusal 1 := ⟨⟨kc_X1_stateRefusal.1, ⟨Nat.le_of_ble_eq_true rfl, Nat.le_of_ble_eq_true rfl⟩, kc_X1_stateRefusal.2.1, kc_X1_stateRefusal.2.2.1, kc_X1_stateRefusal.2.2.2, rfl⟩, km_X1_101, kt_X1_stateRefusal⟩
theorem kv_X8_carry_42 : x_LV MX8_carry 42 MX8_putLayer 3 := ⟨⟨kc_X8_putLayer.1, ⟨Nat.le_of_ble_eq_true rfl, Nat.le_of_ble_eq_true rfl⟩, kc_X8_putLayer.2.1, kc_X8_putLayer.2.2.1, kc_X8_putLayer.2.2.2, rfl⟩, km_X8_42, kt_X8_putLayer, ke_X8_putLayer⟩
theorem kv_X8_carry_62 (n : Nat) (hn : n ≤ 8) : x_MX MX8_carry 62 n := ⟨km_X8_62, ks_max.1, ks_max.2.1, ks_max.2.2, Nat.le_of_ble_eq_true rfl, Nat.le_trans (Nat.add_le_add_right hn _) (by decide +kernel)⟩
theorem kv_X1_applyStack_141 : x_LV MX1_applyStack 141 MX8_carry 1 := ⟨⟨kc_X8_carry.1, ⟨Nat.le_of_ble_eq_true rfl, Nat.le_of_ble_eq_true rfl⟩, kc_X8_carry.2.1, kc_X8_carry.2.2.1, kc_X8_carry.2.2.2, rfl⟩, km_X1_141, kt_X8_carry, ke_X8_carry⟩
theorem kv_X1_applyStack_144 : x_LV MX1_applyStack 144 MX1_removeSheet 1 := ⟨⟨kc_X1_removeSheet.1, ⟨Nat.le_of_ble_eq_true rfl, Nat.le_of_ble_eq_true rfl⟩, kc_X1_removeSheet.2.1, kc_X1_removeSheet.2.2.1, kc_X1_removeSheet.2.2.2, rfl⟩, km_X1_144, kt_X1_removeSheet, ke_X1_removeSheet⟩
theorem kv_X1_refusalOfButter_84 : x_LV MX1_refusalOfButter 84 MX1_hasSheet 1 := ⟨⟨kc_X1_hasSheet.1, ⟨Nat.le_of_ble_eq_true rfl, Nat.le_of_ble_eq_true rfl⟩, kc_X1_hasSheet.2.1, kc_X1_hasSheet.2.2.1, kc_X1_hasSheet.2.2.2, rfl⟩, km_X1_84, kt_X1_hasSheet, ke_X1_hasSheet⟩
theorem kv_X1_refusalOfButter_138 : x_LV MX1_refusalOfButter 138 MX8_totalHeight 0 := ⟨⟨kc_X8_totalHeight.1, ⟨Nat.le_of_ble_eq_true rfl, Nat.le_of_ble_eq_true rfl⟩, kc_X8_totalHeight.2.1, kc_X8_totalHeight.2.2.1, kc_X8_totalHeight.2.2.2, rfl⟩, km_X1_138, kt_X8_totalHeight, ke_X8_totalHeight⟩
theorem kv_X1_refusalOfButter_101 : x_LS MX1_refusalOfButter 101 MX1_stateRefusal 1 := ⟨⟨kc_X1_stateRefusal.1, ⟨Nat.le_of_ble_eq_true rfl, Nat.le_of_ble_eq_true rfl⟩, kc_X1_stateRefusal.2.1, kc_X1_stateRefusal.2.2.1, kc_X1_stateRefusal.2.2.2, rfl⟩, km_X1_101, kt_X1_stateRefusal⟩
theorem kv_X8_butterTop_42 : x_LV MX8_butterTop 42 MX8_putLayer 3 := ⟨⟨kc_X8_putLayer.1, ⟨Nat.le_of_ble_eq_true rfl, Nat.le_of_ble_eq_true rfl⟩, kc_X8_putLayer.2.1, kc_X8_putLayer.2.2.1, kc_X8_putLayer.2.2.2, rfl⟩, km_X8_42, kt_X8_putLayer, ke_X8_putLayer⟩
theorem kv_X1_applyButter_147 : x_LV MX1_applyButter 147 MX8_butterTop 1 := ⟨⟨kc_X8_butterTop.1, ⟨Nat.le_of_ble_eq_true rfl, Nat.le_of_ble_eq_true rfl⟩, kc_X8_butterTop.2.1, kc_X8_butterTop.2.2.1, kc_X8_butterTop.2.2.2, rfl⟩, km_X1_147, kt_X8_butterTop, ke_X8_butterTop⟩
theorem kv_X1_refusalOfFlour_101 : x_LS MX1_refusalOfFlour 101 MX1_stateRefusal 1 := ⟨⟨kc_X1_stateRefusal.1, ⟨Nat.le_of_ble_eq_true rfl, Nat.le_of_ble_eq_true rfl⟩, kc_X1_stateRefusal.2.1, kc_X1_stateRefusal.2.2.1, kc_X1_stateRefusal.2.2.2, rfl⟩, km_X1_101, kt_X1_stateRefusal⟩
theorem kv_X3_init_17 : x_LI MX3_init 17 MX1_init 0 := ⟨⟨kc_X1_init.1, ⟨Nat.le_of_ble_eq_true rfl, Nat.le_of_ble_eq_true rfl⟩, kc_X1_init.2.1, kc_X1_init.2.2.1, kc_X1_init.2.2.2, rfl⟩, km_X3_17, kt_X1_init, rfl, rfl⟩
theorem kv_X3_remember_22 : x_LV MX3_remember 22 MX3_dropOldest 0 := ⟨⟨kc_X3_dropOldest.1, ⟨Nat.le_of_ble_eq_true rfl, Nat.le_of_ble_eq_true rfl⟩, kc_X3_dropOldest.2.1, kc_X3_dropOldest.2.2.1, kc_X3_dropOldest.2.2.2, rfl⟩, km_X3_22, kt_X3_dropOldest, ke_X3_dropOldest⟩
theorem kv_X3_remember_25 : x_LV MX3_remember 25 MX1_copyFrom 1 := ⟨⟨kc_X1_copyFrom.1, ⟨Nat.le_of_ble_eq_true rfl, Nat.le_of_ble_eq_true rfl⟩, kc_X1_copyFrom.2.1, kc_X1_copyFrom.2.2.1, kc_X1_copyFrom.2.2.2, rfl⟩, km_X3_25, kt_X1_copyFrom, ke_X1_copyFrom⟩
theorem kv_X3_takeBack_25 : x_LV MX3_takeBack 25 MX1_copyFrom 1 := ⟨⟨kc_X1_copyFrom.1, ⟨Nat.le_of_ble_eq_true rfl, Nat.le_of_ble_eq_true rfl⟩, kc_X1_copyFrom.2.1, kc_X1_copyFrom.2.2.1, kc_X1_copyFrom.2.2.2, rfl⟩, km_X3_25, kt_X1_copyFrom, ke_X1_copyFrom⟩
theorem kv_X4_putNumber_19 : x_LV MX4_putNumber 19 MX4_put 1 := ⟨⟨kc_X4_put.1, ⟨Nat.le_of_ble_eq_true rfl, Nat.le_of_ble_eq_true rfl⟩, kc_X4_put.2.1, kc_X4_put.2.2.1, kc_X4_put.2.2.2, rfl⟩, km_X4_19, kt_X4_put, ke_X4_put⟩
theorem kv_X4_replaceBy_19 : x_LV MX4_replaceBy 19 MX4_put 1 := ⟨⟨kc_X4_put.1, ⟨Nat.le_of_ble_eq_true rfl, Nat.le_of_ble_eq_true rfl⟩, kc_X4_put.2.1, kc_X4_put.2.2.1, kc_X4_put.2.2.2, rfl⟩, km_X4_19, kt_X4_put, ke_X4_put⟩
theorem kv_X4_replaceBy_35 : x_LV MX4_replaceBy 35 MX4_putNumber 1 := ⟨⟨kc_X4_putNumber.1, ⟨Nat.le_of_ble_eq_true rfl, Nat.le_of_ble_eq_true rfl⟩, kc_X4_putNumber.2.1, kc_X4_putNumber.2.2.1, kc_X4_putNumber.2.2.2, rfl⟩, km_X4_35, kt_X4_putNumber, ke_X4_putNumber⟩
theorem kv_X5_init_11 {G : xG} (hN : ∀ s : State, G.2.2.1 (x_A G) s s.heap → va_Nw (.methodLinkNest RX5 11 yX10_init "PastryBench") s) : x_LIN G MX5_init 11 MX10_init 0 "PastryBench" := ⟨⟨kc_X10_init.1, ⟨Nat.le_of_ble_eq_true rfl, Nat.le_of_ble_eq_true rfl⟩, kc_X10_init.2.1, kc_X10_init.2.2.1, kc_X10_init.2.2.2, rfl⟩, hN, kt_X10_init, rfl, rfl⟩
theorem kv_X10_advance_40 : x_LS MX10_advance 40 MX10_isSeparator 1 := ⟨⟨kc_X10_isSeparator.1, ⟨Nat.le_of_ble_eq_true rfl, Nat.le_of_ble_eq_true rfl⟩, kc_X10_isSeparator.2.1, kc_X10_isSeparator.2.2.1, kc_X10_isSeparator.2.2.2, rfl⟩, km_X10_40, kt_X10_isSeparator⟩
theorem kv_X10_advance_47 : x_LS MX10_advance 47 MX10_isLetter 1 := ⟨⟨kc_X10_isLetter.1, ⟨Nat.le_of_ble_eq_true rfl, Nat.le_of_ble_eq_true rfl⟩, kc_X10_isLetter.2.1, kc_X10_isLetter.2.2.1, kc_X10_isLetter.2.2.2, rfl⟩, km_X10_47, kt_X10_isLetter⟩
theorem kv_X10_advance_53 : x_LS MX10_advance 53 MX10_isDigit 1 := ⟨⟨kc_X10_isDigit.1, ⟨Nat.le_of_ble_eq_true rfl, Nat.le_of_ble_eq_true rfl⟩, kc_X10_isDigit.2.1, kc_X10_isDigit.2.2.1, kc_X10_isDigit.2.2.2, rfl⟩, km_X10_53, kt_X10_isDigit⟩
theorem kv_X10_advance_24 (n : Nat) (hn : n ≤ 8) : x_MN MX10_advance 24 n := ⟨km_X10_24, ks_min.1, ks_min.2.1, ks_min.2.2, Nat.le_of_ble_eq_true rfl, Nat.le_trans (Nat.add_le_add_right hn _) (by decide +kernel)⟩
theorem kv_X10_begin_24 (n : Nat) (hn : n ≤ 8) : x_MN MX10_begin 24 n := ⟨km_X10_24, ks_min.1, ks_min.2.1, ks_min.2.2, Nat.le_of_ble_eq_true rfl, Nat.le_trans (Nat.add_le_add_right hn _) (by decide +kernel)⟩
theorem kv_X10_begin_37 : x_LV MX10_begin 37 MX10_advance 0 := ⟨⟨kc_X10_advance.1, ⟨Nat.le_of_ble_eq_true rfl, Nat.le_of_ble_eq_true rfl⟩, kc_X10_advance.2.1, kc_X10_advance.2.2.1, kc_X10_advance.2.2.2, rfl⟩, km_X10_37, kt_X10_advance, ke_X10_advance⟩
theorem kv_X5_begin_25 : x_LV MX5_begin 25 MX10_begin 2 := ⟨⟨kc_X10_begin.1, ⟨Nat.le_of_ble_eq_true rfl, Nat.le_of_ble_eq_true rfl⟩, kc_X10_begin.2.1, kc_X10_begin.2.2.1, kc_X10_begin.2.2.2, rfl⟩, km_X5_25, kt_X10_begin, ke_X10_begin⟩
theorem kv_J0_length_8abf5_335 : x_LV MJ0_length_8abf5 335 MJ0_coder_7d493 0 := ⟨⟨kc_J0_coder_7d493.1, ⟨Nat.le_of_ble_eq_true rfl, Nat.le_of_ble_eq_true rfl⟩, kc_J0_coder_7d493.2.1, kc_J0_coder_7d493.2.2.1, kc_J0_coder_7d493.2.2.2, rfl⟩, km_J0_335, kt_J0_coder_7d493, ke_J0_coder_7d493⟩
theorem kv_J0_checkIndex_df160_1059 : x_LS MJ0_checkIndex_df160 1059 MJ3_checkIndex_8e157 3 := ⟨⟨kc_J3_checkIndex_8e157.1, ⟨Nat.le_of_ble_eq_true rfl, Nat.le_of_ble_eq_true rfl⟩, kc_J3_checkIndex_8e157.2.1, kc_J3_checkIndex_8e157.2.2.1, kc_J3_checkIndex_8e157.2.2.2, rfl⟩, km_J0_1059, kt_J3_checkIndex_8e157⟩
theorem kv_J1_charAt_3b067_9 : x_LS MJ1_charAt_3b067 9 MJ0_checkIndex_df160 2 := ⟨⟨kc_J0_checkIndex_df160.1, ⟨Nat.le_of_ble_eq_true rfl, Nat.le_of_ble_eq_true rfl⟩, kc_J0_checkIndex_df160.2.1, kc_J0_checkIndex_df160.2.2.1, kc_J0_checkIndex_df160.2.2.2, rfl⟩, km_J1_9, kt_J0_checkIndex_df160⟩
theorem kv_J2_checkIndex_2214a_48 : x_LS MJ2_checkIndex_2214a 48 MJ2_length_9d52b 1 := ⟨⟨kc_J2_length_9d52b.1, ⟨Nat.le_of_ble_eq_true rfl, Nat.le_of_ble_eq_true rfl⟩, kc_J2_length_9d52b.2.1, kc_J2_length_9d52b.2.2.1, kc_J2_length_9d52b.2.2.2, rfl⟩, km_J2_48, kt_J2_length_9d52b⟩
theorem kv_J2_checkIndex_2214a_414 : x_LS MJ2_checkIndex_2214a 414 MJ0_checkIndex_df160 2 := ⟨⟨kc_J0_checkIndex_df160.1, ⟨Nat.le_of_ble_eq_true rfl, Nat.le_of_ble_eq_true rfl⟩, kc_J0_checkIndex_df160.2.1, kc_J0_checkIndex_df160.2.2.1, kc_J0_checkIndex_df160.2.2.2, rfl⟩, km_J2_414, kt_J0_checkIndex_df160⟩
theorem kv_J2_getChar_3b067_48 : x_LS MJ2_getChar_3b067 48 MJ2_length_9d52b 1 := ⟨⟨kc_J2_length_9d52b.1, ⟨Nat.le_of_ble_eq_true rfl, Nat.le_of_ble_eq_true rfl⟩, kc_J2_length_9d52b.2.1, kc_J2_length_9d52b.2.2.1, kc_J2_length_9d52b.2.2.2, rfl⟩, km_J2_48, kt_J2_length_9d52b⟩
theorem kv_J2_charAt_3b067_67 : x_LS MJ2_charAt_3b067 67 MJ2_checkIndex_2214a 2 := ⟨⟨kc_J2_checkIndex_2214a.1, ⟨Nat.le_of_ble_eq_true rfl, Nat.le_of_ble_eq_true rfl⟩, kc_J2_checkIndex_2214a.2.1, kc_J2_checkIndex_2214a.2.2.1, kc_J2_checkIndex_2214a.2.2.2, rfl⟩, km_J2_67, kt_J2_checkIndex_2214a⟩
theorem kv_J2_charAt_3b067_71 : x_LS MJ2_charAt_3b067 71 MJ2_getChar_3b067 2 := ⟨⟨kc_J2_getChar_3b067.1, ⟨Nat.le_of_ble_eq_true rfl, Nat.le_of_ble_eq_true rfl⟩, kc_J2_getChar_3b067.2.1, kc_J2_getChar_3b067.2.2.1, kc_J2_getChar_3b067.2.2.2, rfl⟩, km_J2_71, kt_J2_getChar_3b067⟩
theorem kv_J0_charAt_5068e_492 : x_LV MJ0_charAt_5068e 492 MJ0_isLatin1_aae02 0 := ⟨⟨kc_J0_isLatin1_aae02.1, ⟨Nat.le_of_ble_eq_true rfl, Nat.le_of_ble_eq_true rfl⟩, kc_J0_isLatin1_aae02.2.1, kc_J0_isLatin1_aae02.2.2.1, kc_J0_isLatin1_aae02.2.2.2, rfl⟩, km_J0_492, kt_J0_isLatin1_aae02, ke_J0_isLatin1_aae02⟩
theorem kv_J0_charAt_5068e_495 : x_LS MJ0_charAt_5068e 495 MJ1_charAt_3b067 2 := ⟨⟨kc_J1_charAt_3b067.1, ⟨Nat.le_of_ble_eq_true rfl, Nat.le_of_ble_eq_true rfl⟩, kc_J1_charAt_3b067.2.1, kc_J1_charAt_3b067.2.2.1, kc_J1_charAt_3b067.2.2.2, rfl⟩, km_J0_495, kt_J1_charAt_3b067⟩
theorem kv_J0_charAt_5068e_498 : x_LS MJ0_charAt_5068e 498 MJ2_charAt_3b067 2 := ⟨⟨kc_J2_charAt_3b067.1, ⟨Nat.le_of_ble_eq_true rfl, Nat.le_of_ble_eq_true rfl⟩, kc_J2_charAt_3b067.2.1, kc_J2_charAt_3b067.2.2.1, kc_J2_charAt_3b067.2.2.2, rfl⟩, km_J0_498, kt_J2_charAt_3b067⟩
theorem kv_X10_isWord_69 : x_LV MX10_isWord 69 MJ0_length_8abf5 0 := ⟨⟨kc_J0_length_8abf5.1, ⟨Nat.le_of_ble_eq_true rfl, Nat.le_of_ble_eq_true rfl⟩, kc_J0_length_8abf5.2.1, kc_J0_length_8abf5.2.2.1, kc_J0_length_8abf5.2.2.2, rfl⟩, km_X10_69, kt_J0_length_8abf5, ke_J0_length_8abf5⟩
theorem kv_X10_isWord_74 : x_LV MX10_isWord 74 MJ0_charAt_5068e 1 := ⟨⟨kc_J0_charAt_5068e.1, ⟨Nat.le_of_ble_eq_true rfl, Nat.le_of_ble_eq_true rfl⟩, kc_J0_charAt_5068e.2.1, kc_J0_charAt_5068e.2.2.1, kc_J0_charAt_5068e.2.2.2, rfl⟩, km_X10_74, kt_J0_charAt_5068e, ke_J0_charAt_5068e⟩
theorem kv_X5_takeWord_32 : x_LV MX5_takeWord 32 MX10_isWord 1 := ⟨⟨kc_X10_isWord.1, ⟨Nat.le_of_ble_eq_true rfl, Nat.le_of_ble_eq_true rfl⟩, kc_X10_isWord.2.1, kc_X10_isWord.2.2.1, kc_X10_isWord.2.2.2, rfl⟩, km_X5_32, kt_X10_isWord, ke_X10_isWord⟩
theorem kv_X5_takeWord_36 : x_LV MX5_takeWord 36 MX5_fail 1 := ⟨⟨kc_X5_fail.1, ⟨Nat.le_of_ble_eq_true rfl, Nat.le_of_ble_eq_true rfl⟩, kc_X5_fail.2.1, kc_X5_fail.2.2.1, kc_X5_fail.2.2.2, rfl⟩, km_X5_36, kt_X5_fail, ke_X5_fail⟩
theorem kv_X5_takeWord_40 : x_LV MX5_takeWord 40 MX10_advance 0 := ⟨⟨kc_X10_advance.1, ⟨Nat.le_of_ble_eq_true rfl, Nat.le_of_ble_eq_true rfl⟩, kc_X10_advance.2.1, kc_X10_advance.2.2.1, kc_X10_advance.2.2.2, rfl⟩, km_X5_40, kt_X10_advance, ke_X10_advance⟩
theorem kv_X5_takeSemicolon_36 : x_LV MX5_takeSemicolon 36 MX5_fail 1 := ⟨⟨kc_X5_fail.1, ⟨Nat.le_of_ble_eq_true rfl, Nat.le_of_ble_eq_true rfl⟩, kc_X5_fail.2.1, kc_X5_fail.2.2.1, kc_X5_fail.2.2.2, rfl⟩, km_X5_36, kt_X5_fail, ke_X5_fail⟩
theorem kv_X5_takeSemicolon_40 : x_LV MX5_takeSemicolon 40 MX10_advance 0 := ⟨⟨kc_X10_advance.1, ⟨Nat.le_of_ble_eq_true rfl, Nat.le_of_ble_eq_true rfl⟩, kc_X10_advance.2.1, kc_X10_advance.2.2.1, kc_X10_advance.2.2.2, rfl⟩, km_X5_40, kt_X10_advance, ke_X10_advance⟩
theorem kv_X5_takeNumber_36 : x_LV MX5_takeNumber 36 MX5_fail 1 := ⟨⟨kc_X5_fail.1, ⟨Nat.le_of_ble_eq_true rfl, Nat.le_of_ble_eq_true rfl⟩, kc_X5_fail.2.1, kc_X5_fail.2.2.1, kc_X5_fail.2.2.2, rfl⟩, km_X5_36, kt_X5_fail, ke_X5_fail⟩
theorem kv_X5_takeNumber_40 : x_LV MX5_takeNumber 40 MX10_advance 0 := ⟨⟨kc_X10_advance.1, ⟨Nat.le_of_ble_eq_true rfl, Nat.le_of_ble_eq_true rfl⟩, kc_X10_advance.2.1, kc_X10_advance.2.2.1, kc_X10_advance.2.2.2, rfl⟩, km_X5_40, kt_X10_advance, ke_X10_advance⟩
theorem kv_X5_readHeader_76 : x_LV MX5_readHeader 76 MX5_takeWord 1 := ⟨⟨kc_X5_takeWord.1, ⟨Nat.le_of_ble_eq_true rfl, Nat.le_of_ble_eq_true rfl⟩, kc_X5_takeWord.2.1, kc_X5_takeWord.2.2.1, kc_X5_takeWord.2.2.2, rfl⟩, km_X5_76, kt_X5_takeWord, ke_X5_takeWord⟩
theorem kv_X5_readHeader_79 : x_LV MX5_readHeader 79 MX5_takeNumber 2 := ⟨⟨kc_X5_takeNumber.1, ⟨Nat.le_of_ble_eq_true rfl, Nat.le_of_ble_eq_true rfl⟩, kc_X5_takeNumber.2.1, kc_X5_takeNumber.2.2.1, kc_X5_takeNumber.2.2.2, rfl⟩, km_X5_79, kt_X5_takeNumber, ke_X5_takeNumber⟩
theorem kv_X5_readHeader_83 : x_LV MX5_readHeader 83 MX1_begin 3 := ⟨⟨kc_X1_begin.1, ⟨Nat.le_of_ble_eq_true rfl, Nat.le_of_ble_eq_true rfl⟩, kc_X1_begin.2.1, kc_X1_begin.2.2.1, kc_X1_begin.2.2.2, rfl⟩, km_X5_83, kt_X1_begin, ke_X1_begin⟩
theorem kv_X5_readHeader_88 : x_LV MX5_readHeader 88 MX5_takeSemicolon 0 := ⟨⟨kc_X5_takeSemicolon.1, ⟨Nat.le_of_ble_eq_true rfl, Nat.le_of_ble_eq_true rfl⟩, kc_X5_takeSemicolon.2.1, kc_X5_takeSemicolon.2.2.1, kc_X5_takeSemicolon.2.2.2, rfl⟩, km_X5_88, kt_X5_takeSemicolon, ke_X5_takeSemicolon⟩
theorem kv_X5_isLayerWord_32 : x_LV MX5_isLayerWord 32 MX10_isWord 1 := ⟨⟨kc_X10_isWord.1, ⟨Nat.le_of_ble_eq_true rfl, Nat.le_of_ble_eq_true rfl⟩, kc_X10_isWord.2.1, kc_X10_isWord.2.2.1, kc_X10_isWord.2.2.2, rfl⟩, km_X5_32, kt_X10_isWord, ke_X10_isWord⟩
theorem kv_X5_readLayer_99 : x_LV MX5_readLayer 99 MX5_isLayerWord 0 := ⟨⟨kc_X5_isLayerWord.1, ⟨Nat.le_of_ble_eq_true rfl, Nat.le_of_ble_eq_true rfl⟩, kc_X5_isLayerWord.2.1, kc_X5_isLayerWord.2.2.1, kc_X5_isLayerWord.2.2.2, rfl⟩, km_X5_99, kt_X5_isLayerWord, ke_X5_isLayerWord⟩
theorem kv_X5_readLayer_36 : x_LV MX5_readLayer 36 MX5_fail 1 := ⟨⟨kc_X5_fail.1, ⟨Nat.le_of_ble_eq_true rfl, Nat.le_of_ble_eq_true rfl⟩, kc_X5_fail.2.1, kc_X5_fail.2.2.1, kc_X5_fail.2.2.2, rfl⟩, km_X5_36, kt_X5_fail, ke_X5_fail⟩
theorem kv_X5_readLayer_32 : x_LV MX5_readLayer 32 MX10_isWord 1 := ⟨⟨kc_X10_isWord.1, ⟨Nat.le_of_ble_eq_true rfl, Nat.le_of_ble_eq_true rfl⟩, kc_X10_isWord.2.1, kc_X10_isWord.2.2.1, kc_X10_isWord.2.2.2, rfl⟩, km_X5_32, kt_X10_isWord, ke_X10_isWord⟩
theorem kv_X5_readLayer_40 : x_LV MX5_readLayer 40 MX10_advance 0 := ⟨⟨kc_X10_advance.1, ⟨Nat.le_of_ble_eq_true rfl, Nat.le_of_ble_eq_true rfl⟩, kc_X10_advance.2.1, kc_X10_advance.2.2.1, kc_X10_advance.2.2.2, rfl⟩, km_X5_40, kt_X10_advance, ke_X10_advance⟩
theorem kv_X5_readLayer_79 : x_LV MX5_readLayer 79 MX5_takeNumber 2 := ⟨⟨kc_X5_takeNumber.1, ⟨Nat.le_of_ble_eq_true rfl, Nat.le_of_ble_eq_true rfl⟩, kc_X5_takeNumber.2.1, kc_X5_takeNumber.2.2.1, kc_X5_takeNumber.2.2.2, rfl⟩, km_X5_79, kt_X5_takeNumber, ke_X5_takeNumber⟩
theorem kv_X5_readLayer_106 : x_LV MX5_readLayer 106 MX1_addLayer 2 := ⟨⟨kc_X1_addLayer.1, ⟨Nat.le_of_ble_eq_true rfl, Nat.le_of_ble_eq_true rfl⟩, kc_X1_addLayer.2.1, kc_X1_addLayer.2.2.1, kc_X1_addLayer.2.2.2, rfl⟩, km_X5_106, kt_X1_addLayer, ke_X1_addLayer⟩
theorem kv_X5_readSheet_76 : x_LV MX5_readSheet 76 MX5_takeWord 1 := ⟨⟨kc_X5_takeWord.1, ⟨Nat.le_of_ble_eq_true rfl, Nat.le_of_ble_eq_true rfl⟩, kc_X5_takeWord.2.1, kc_X5_takeWord.2.2.1, kc_X5_takeWord.2.2.2, rfl⟩, km_X5_76, kt_X5_takeWord, ke_X5_takeWord⟩
theorem kv_X5_readSheet_79 : x_LV MX5_readSheet 79 MX5_takeNumber 2 := ⟨⟨kc_X5_takeNumber.1, ⟨Nat.le_of_ble_eq_true rfl, Nat.le_of_ble_eq_true rfl⟩, kc_X5_takeNumber.2.1, kc_X5_takeNumber.2.2.1, kc_X5_takeNumber.2.2.2, rfl⟩, km_X5_79, kt_X5_takeNumber, ke_X5_takeNumber⟩
theorem kv_X5_readSheet_92 : x_LV MX5_readSheet 92 MX1_addSheet 1 := ⟨⟨kc_X1_addSheet.1, ⟨Nat.le_of_ble_eq_true rfl, Nat.le_of_ble_eq_true rfl⟩, kc_X1_addSheet.2.1, kc_X1_addSheet.2.2.1, kc_X1_addSheet.2.2.2, rfl⟩, km_X5_92, kt_X1_addSheet, ke_X1_addSheet⟩
theorem kv_X5_readSheet_96 : x_LV MX5_readSheet 96 MX5_readLayer 1 := ⟨⟨kc_X5_readLayer.1, ⟨Nat.le_of_ble_eq_true rfl, Nat.le_of_ble_eq_true rfl⟩, kc_X5_readLayer.2.1, kc_X5_readLayer.2.2.1, kc_X5_readLayer.2.2.2, rfl⟩, km_X5_96, kt_X5_readLayer, ke_X5_readLayer⟩
theorem kv_X5_readSheet_99 : x_LV MX5_readSheet 99 MX5_isLayerWord 0 := ⟨⟨kc_X5_isLayerWord.1, ⟨Nat.le_of_ble_eq_true rfl, Nat.le_of_ble_eq_true rfl⟩, kc_X5_isLayerWord.2.1, kc_X5_isLayerWord.2.2.1, kc_X5_isLayerWord.2.2.2, rfl⟩, km_X5_99, kt_X5_isLayerWord, ke_X5_isLayerWord⟩
theorem kv_X5_readSheet_36 : x_LV MX5_readSheet 36 MX5_fail 1 := ⟨⟨kc_X5_fail.1, ⟨Nat.le_of_ble_eq_true rfl, Nat.le_of_ble_eq_true rfl⟩, kc_X5_fail.2.1, kc_X5_fail.2.2.1, kc_X5_fail.2.2.2, rfl⟩, km_X5_36, kt_X5_fail, ke_X5_fail⟩
theorem kv_X5_readSheet_88 : x_LV MX5_readSheet 88 MX5_takeSemicolon 0 := ⟨⟨kc_X5_takeSemicolon.1, ⟨Nat.le_of_ble_eq_true rfl, Nat.le_of_ble_eq_true rfl⟩, kc_X5_takeSemicolon.2.1, kc_X5_takeSemicolon.2.2.1, kc_X5_takeSemicolon.2.2.2, rfl⟩, km_X5_88, kt_X5_takeSemicolon, ke_X5_takeSemicolon⟩
theorem kv_X5_readBench_61 : x_LV MX5_readBench 61 MX5_begin 2 := ⟨⟨kc_X5_begin.1, ⟨Nat.le_of_ble_eq_true rfl, Nat.le_of_ble_eq_true rfl⟩, kc_X5_begin.2.1, kc_X5_begin.2.2.1, kc_X5_begin.2.2.2, rfl⟩, km_X5_61, kt_X5_begin, ke_X5_begin⟩
theorem kv_X5_readBench_62 : x_LV MX5_readBench 62 MX5_readHeader 1 := ⟨⟨kc_X5_readHeader.1, ⟨Nat.le_of_ble_eq_true rfl, Nat.le_of_ble_eq_true rfl⟩, kc_X5_readHeader.2.1, kc_X5_readHeader.2.2.1, kc_X5_readHeader.2.2.2, rfl⟩, km_X5_62, kt_X5_readHeader, ke_X5_readHeader⟩
theorem kv_X5_readBench_69 : x_LV MX5_readBench 69 MX5_readSheet 1 := ⟨⟨kc_X5_readSheet.1, ⟨Nat.le_of_ble_eq_true rfl, Nat.le_of_ble_eq_true rfl⟩, kc_X5_readSheet.2.1, kc_X5_readSheet.2.2.1, kc_X5_readSheet.2.2.2, rfl⟩, km_X5_69, kt_X5_readSheet, ke_X5_readSheet⟩
theorem kv_X5_readBench_32 : x_LV MX5_readBench 32 MX10_isWord 1 := ⟨⟨kc_X10_isWord.1, ⟨Nat.le_of_ble_eq_true rfl, Nat.le_of_ble_eq_true rfl⟩, kc_X10_isWord.2.1, kc_X10_isWord.2.2.1, kc_X10_isWord.2.2.2, rfl⟩, km_X5_32, kt_X10_isWord, ke_X10_isWord⟩
theorem kv_X5_readBench_36 : x_LV MX5_readBench 36 MX5_fail 1 := ⟨⟨kc_X5_fail.1, ⟨Nat.le_of_ble_eq_true rfl, Nat.le_of_ble_eq_true rfl⟩, kc_X5_fail.2.1, kc_X5_fail.2.2.1, kc_X5_fail.2.2.2, rfl⟩, km_X5_36, kt_X5_fail, ke_X5_fail⟩
theorem kv_X5_findCommand_32 : x_LV MX5_findCommand 32 MX10_isWord 1 := ⟨⟨kc_X10_isWord.1, ⟨Nat.le_of_ble_eq_true rfl, Nat.le_of_ble_eq_true rfl⟩, kc_X10_isWord.2.1, kc_X10_isWord.2.2.1, kc_X10_isWord.2.2.2, rfl⟩, km_X5_32, kt_X10_isWord, ke_X10_isWord⟩
theorem kv_X5_readCommand_119 : x_LV MX5_readCommand 119 MX5_findCommand 0 := ⟨⟨kc_X5_findCommand.1, ⟨Nat.le_of_ble_eq_true rfl, Nat.le_of_ble_eq_true rfl⟩, kc_X5_findCommand.2.1, kc_X5_findCommand.2.2.1, kc_X5_findCommand.2.2.2, rfl⟩, km_X5_119, kt_X5_findCommand, ke_X5_findCommand⟩
theorem kv_X5_readCommand_36 : x_LV MX5_readCommand 36 MX5_fail 1 := ⟨⟨kc_X5_fail.1, ⟨Nat.le_of_ble_eq_true rfl, Nat.le_of_ble_eq_true rfl⟩, kc_X5_fail.2.1, kc_X5_fail.2.2.1, kc_X5_fail.2.2.2, rfl⟩, km_X5_36, kt_X5_fail, ke_X5_fail⟩
theorem kv_X5_readCommand_40 : x_LV MX5_readCommand 40 MX10_advance 0 := ⟨⟨kc_X10_advance.1, ⟨Nat.le_of_ble_eq_true rfl, Nat.le_of_ble_eq_true rfl⟩, kc_X10_advance.2.1, kc_X10_advance.2.2.1, kc_X10_advance.2.2.2, rfl⟩, km_X5_40, kt_X10_advance, ke_X10_advance⟩
theorem kv_X5_readCommand_79 : x_LV MX5_readCommand 79 MX5_takeNumber 2 := ⟨⟨kc_X5_takeNumber.1, ⟨Nat.le_of_ble_eq_true rfl, Nat.le_of_ble_eq_true rfl⟩, kc_X5_takeNumber.2.1, kc_X5_takeNumber.2.2.1, kc_X5_takeNumber.2.2.2, rfl⟩, km_X5_79, kt_X5_takeNumber, ke_X5_takeNumber⟩
theorem kv_X5_readCommand_149 : x_LV MX5_readCommand 149 MX7_add 3 := ⟨⟨kc_X7_add.1, ⟨Nat.le_of_ble_eq_true rfl, Nat.le_of_ble_eq_true rfl⟩, kc_X7_add.2.1, kc_X7_add.2.2.1, kc_X7_add.2.2.2, rfl⟩, km_X5_149, kt_X7_add, ke_X7_add⟩
theorem kv_X5_readCommand_88 : x_LV MX5_readCommand 88 MX5_takeSemicolon 0 := ⟨⟨kc_X5_takeSemicolon.1, ⟨Nat.le_of_ble_eq_true rfl, Nat.le_of_ble_eq_true rfl⟩, kc_X5_takeSemicolon.2.1, kc_X5_takeSemicolon.2.2.1, kc_X5_takeSemicolon.2.2.2, rfl⟩, km_X5_88, kt_X5_takeSemicolon, ke_X5_takeSemicolon⟩
theorem kv_X5_readScript_61 : x_LV MX5_readScript 61 MX5_begin 2 := ⟨⟨kc_X5_begin.1, ⟨Nat.le_of_ble_eq_true rfl, Nat.le_of_ble_eq_true rfl⟩, kc_X5_begin.2.1, kc_X5_begin.2.2.1, kc_X5_begin.2.2.2, rfl⟩, km_X5_61, kt_X5_begin, ke_X5_begin⟩
theorem kv_X5_readScript_115 : x_LV MX5_readScript 115 MX5_readCommand 1 := ⟨⟨kc_X5_readCommand.1, ⟨Nat.le_of_ble_eq_true rfl, Nat.le_of_ble_eq_true rfl⟩, kc_X5_readCommand.2.1, kc_X5_readCommand.2.2.1, kc_X5_readCommand.2.2.2, rfl⟩, km_X5_115, kt_X5_readCommand, ke_X5_readCommand⟩
theorem kv_X5_readScript_119 : x_LV MX5_readScript 119 MX5_findCommand 0 := ⟨⟨kc_X5_findCommand.1, ⟨Nat.le_of_ble_eq_true rfl, Nat.le_of_ble_eq_true rfl⟩, kc_X5_findCommand.2.1, kc_X5_findCommand.2.2.1, kc_X5_findCommand.2.2.2, rfl⟩, km_X5_119, kt_X5_findCommand, ke_X5_findCommand⟩
theorem kv_X5_readScript_36 : x_LV MX5_readScript 36 MX5_fail 1 := ⟨⟨kc_X5_fail.1, ⟨Nat.le_of_ble_eq_true rfl, Nat.le_of_ble_eq_true rfl⟩, kc_X5_fail.2.1, kc_X5_fail.2.2.1, kc_X5_fail.2.2.2, rfl⟩, km_X5_36, kt_X5_fail, ke_X5_fail⟩
theorem kv_X7_refusalOf_54 : x_LV MX7_refusalOf 54 MX1_refusalOfFold 2 := ⟨⟨kc_X1_refusalOfFold.1, ⟨Nat.le_of_ble_eq_true rfl, Nat.le_of_ble_eq_true rfl⟩, kc_X1_refusalOfFold.2.1, kc_X1_refusalOfFold.2.2.1, kc_X1_refusalOfFold.2.2.2, rfl⟩, km_X7_54, kt_X1_refusalOfFold, ke_X1_refusalOfFold⟩
theorem kv_X7_refusalOf_60 : x_LV MX7_refusalOf 60 MX1_refusalOfRoll 2 := ⟨⟨kc_X1_refusalOfRoll.1, ⟨Nat.le_of_ble_eq_true rfl, Nat.le_of_ble_eq_true rfl⟩, kc_X1_refusalOfRoll.2.1, kc_X1_refusalOfRoll.2.2.1, kc_X1_refusalOfRoll.2.2.2, rfl⟩, km_X7_60, kt_X1_refusalOfRoll, ke_X1_refusalOfRoll⟩
theorem kv_X7_refusalOf_63 : x_LV MX7_refusalOf 63 MX1_refusalOfDust 1 := ⟨⟨kc_X1_refusalOfDust.1, ⟨Nat.le_of_ble_eq_true rfl, Nat.le_of_ble_eq_true rfl⟩, kc_X1_refusalOfDust.2.1, kc_X1_refusalOfDust.2.2.1, kc_X1_refusalOfDust.2.2.2, rfl⟩, km_X7_63, kt_X1_refusalOfDust, ke_X1_refusalOfDust⟩
theorem kv_X7_refusalOf_67 : x_LV MX7_refusalOf 67 MX1_refusalOfSeal 1 := ⟨⟨kc_X1_refusalOfSeal.1, ⟨Nat.le_of_ble_eq_true rfl, Nat.le_of_ble_eq_true rfl⟩, kc_X1_refusalOfSeal.2.1, kc_X1_refusalOfSeal.2.2.1, kc_X1_refusalOfSeal.2.2.2, rfl⟩, km_X7_67, kt_X1_refusalOfSeal, ke_X1_refusalOfSeal⟩
theorem kv_X7_refusalOf_70 : x_LV MX7_refusalOf 70 MX1_refusalOfCool 1 := ⟨⟨kc_X1_refusalOfCool.1, ⟨Nat.le_of_ble_eq_true rfl, Nat.le_of_ble_eq_true rfl⟩, kc_X1_refusalOfCool.2.1, kc_X1_refusalOfCool.2.2.1, kc_X1_refusalOfCool.2.2.2, rfl⟩, km_X7_70, kt_X1_refusalOfCool, ke_X1_refusalOfCool⟩
theorem kv_X7_refusalOf_73 : x_LV MX7_refusalOf 73 MX1_refusalOfTakeOut 1 := ⟨⟨kc_X1_refusalOfTakeOut.1, ⟨Nat.le_of_ble_eq_true rfl, Nat.le_of_ble_eq_true rfl⟩, kc_X1_refusalOfTakeOut.2.1, kc_X1_refusalOfTakeOut.2.2.1, kc_X1_refusalOfTakeOut.2.2.2, rfl⟩, km_X7_73, kt_X1_refusalOfTakeOut, ke_X1_refusalOfTakeOut⟩
theorem kv_X7_refusalOf_76 : x_LV MX7_refusalOf 76 MX1_refusalOfHours 1 := ⟨⟨kc_X1_refusalOfHours.1, ⟨Nat.le_of_ble_eq_true rfl, Nat.le_of_ble_eq_true rfl⟩, kc_X1_refusalOfHours.2.1, kc_X1_refusalOfHours.2.2.1, kc_X1_refusalOfHours.2.2.2, rfl⟩, km_X7_76, kt_X1_refusalOfHours, ke_X1_refusalOfHours⟩
theorem kv_X7_refusalOf_79 : x_LV MX7_refusalOf 79 MX1_refusalOfCut 1 := ⟨⟨kc_X1_refusalOfCut.1, ⟨Nat.le_of_ble_eq_true rfl, Nat.le_of_ble_eq_true rfl⟩, kc_X1_refusalOfCut.2.1, kc_X1_refusalOfCut.2.2.1, kc_X1_refusalOfCut.2.2.2, rfl⟩, km_X7_79, kt_X1_refusalOfCut, ke_X1_refusalOfCut⟩
theorem kv_X7_refusalOf_82 : x_LV MX7_refusalOf 82 MX1_refusalOfStack 2 := ⟨⟨kc_X1_refusalOfStack.1, ⟨Nat.le_of_ble_eq_true rfl, Nat.le_of_ble_eq_true rfl⟩, kc_X1_refusalOfStack.2.1, kc_X1_refusalOfStack.2.2.1, kc_X1_refusalOfStack.2.2.2, rfl⟩, km_X7_82, kt_X1_refusalOfStack, ke_X1_refusalOfStack⟩
theorem kv_X7_execute_85 : x_LV MX7_execute 85 MX1_applyFold 2 := ⟨⟨kc_X1_applyFold.1, ⟨Nat.le_of_ble_eq_true rfl, Nat.le_of_ble_eq_true rfl⟩, kc_X1_applyFold.2.1, kc_X1_applyFold.2.2.1, kc_X1_applyFold.2.2.2, rfl⟩, km_X7_85, kt_X1_applyFold, ke_X1_applyFold⟩
theorem kv_X7_execute_89 : x_LV MX7_execute 89 MX1_applyRoll 2 := ⟨⟨kc_X1_applyRoll.1, ⟨Nat.le_of_ble_eq_true rfl, Nat.le_of_ble_eq_true rfl⟩, kc_X1_applyRoll.2.1, kc_X1_applyRoll.2.2.1, kc_X1_applyRoll.2.2.2, rfl⟩, km_X7_89, kt_X1_applyRoll, ke_X1_applyRoll⟩
theorem kv_X7_execute_92 : x_LV MX7_execute 92 MX1_applyDust 1 := ⟨⟨kc_X1_applyDust.1, ⟨Nat.le_of_ble_eq_true rfl, Nat.le_of_ble_eq_true rfl⟩, kc_X1_applyDust.2.1, kc_X1_applyDust.2.2.1, kc_X1_applyDust.2.2.2, rfl⟩, km_X7_92, kt_X1_applyDust, ke_X1_applyDust⟩
theorem kv_X7_execute_96 : x_LV MX7_execute 96 MX1_applySeal 1 := ⟨⟨kc_X1_applySeal.1, ⟨Nat.le_of_ble_eq_true rfl, Nat.le_of_ble_eq_true rfl⟩, kc_X1_applySeal.2.1, kc_X1_applySeal.2.2.1, kc_X1_applySeal.2.2.2, rfl⟩, km_X7_96, kt_X1_applySeal, ke_X1_applySeal⟩
theorem kv_X7_execute_99 : x_LV MX7_execute 99 MX1_applyCool 1 := ⟨⟨kc_X1_applyCool.1, ⟨Nat.le_of_ble_eq_true rfl, Nat.le_of_ble_eq_true rfl⟩, kc_X1_applyCool.2.1, kc_X1_applyCool.2.2.1, kc_X1_applyCool.2.2.2, rfl⟩, km_X7_99, kt_X1_applyCool, ke_X1_applyCool⟩
theorem kv_X7_execute_102 : x_LV MX7_execute 102 MX1_applyTakeOut 1 := ⟨⟨kc_X1_applyTakeOut.1, ⟨Nat.le_of_ble_eq_true rfl, Nat.le_of_ble_eq_true rfl⟩, kc_X1_applyTakeOut.2.1, kc_X1_applyTakeOut.2.2.1, kc_X1_applyTakeOut.2.2.2, rfl⟩, km_X7_102, kt_X1_applyTakeOut, ke_X1_applyTakeOut⟩
theorem kv_X7_execute_105 : x_LV MX7_execute 105 MX1_applyHours 1 := ⟨⟨kc_X1_applyHours.1, ⟨Nat.le_of_ble_eq_true rfl, Nat.le_of_ble_eq_true rfl⟩, kc_X1_applyHours.2.1, kc_X1_applyHours.2.2.1, kc_X1_applyHours.2.2.2, rfl⟩, km_X7_105, kt_X1_applyHours, ke_X1_applyHours⟩
theorem kv_X7_execute_108 : x_LV MX7_execute 108 MX1_applyCut 1 := ⟨⟨kc_X1_applyCut.1, ⟨Nat.le_of_ble_eq_true rfl, Nat.le_of_ble_eq_true rfl⟩, kc_X1_applyCut.2.1, kc_X1_applyCut.2.2.1, kc_X1_applyCut.2.2.2, rfl⟩, km_X7_108, kt_X1_applyCut, ke_X1_applyCut⟩
theorem kv_X7_execute_111 : x_LV MX7_execute 111 MX1_applyStack 2 := ⟨⟨kc_X1_applyStack.1, ⟨Nat.le_of_ble_eq_true rfl, Nat.le_of_ble_eq_true rfl⟩, kc_X1_applyStack.2.1, kc_X1_applyStack.2.2.1, kc_X1_applyStack.2.2.2, rfl⟩, km_X7_111, kt_X1_applyStack, ke_X1_applyStack⟩
theorem kv_X7_executeOn_28 : x_LS MX7_executeOn 28 MX7_refusalOf 4 := ⟨⟨kc_X7_refusalOf.1, ⟨Nat.le_of_ble_eq_true rfl, Nat.le_of_ble_eq_true rfl⟩, kc_X7_refusalOf.2.1, kc_X7_refusalOf.2.2.1, kc_X7_refusalOf.2.2.2, rfl⟩, km_X7_28, kt_X7_refusalOf⟩
theorem kv_X7_executeOn_38 : x_LS MX7_executeOn 38 MX7_execute 4 := ⟨⟨kc_X7_execute.1, ⟨Nat.le_of_ble_eq_true rfl, Nat.le_of_ble_eq_true rfl⟩, kc_X7_execute.2.1, kc_X7_execute.2.2.1, kc_X7_execute.2.2.2, rfl⟩, km_X7_38, kt_X7_execute⟩
theorem kv_X8_countPossibleFolds_50 {G : xG} (hN : ∀ s : State, G.2.2.1 (x_A G) s s.heap → va_Nw (.methodLinkNest RX8 50 yX11_layersFolded "PastryBench") s) : x_LSN G MX8_countPossibleFolds 50 MX11_layersFolded 3 "PastryBench" := ⟨⟨kc_X11_layersFolded.1, ⟨Nat.le_of_ble_eq_true rfl, Nat.le_of_ble_eq_true rfl⟩, kc_X11_layersFolded.2.1, kc_X11_layersFolded.2.2.1, kc_X11_layersFolded.2.2.2, rfl⟩, hN, kt_X11_layersFolded⟩
theorem kv_X8_countPossibleFolds_54 : x_LV MX8_countPossibleFolds 54 MX8_totalHeight 0 := ⟨⟨kc_X8_totalHeight.1, ⟨Nat.le_of_ble_eq_true rfl, Nat.le_of_ble_eq_true rfl⟩, kc_X8_totalHeight.2.1, kc_X8_totalHeight.2.2.1, kc_X8_totalHeight.2.2.2, rfl⟩, km_X8_54, kt_X8_totalHeight, ke_X8_totalHeight⟩
theorem kv_X8_countBreaking_68 : x_LV MX8_countBreaking 68 MX8_lossPerLayer 1 := ⟨⟨kc_X8_lossPerLayer.1, ⟨Nat.le_of_ble_eq_true rfl, Nat.le_of_ble_eq_true rfl⟩, kc_X8_lossPerLayer.2.1, kc_X8_lossPerLayer.2.2.1, kc_X8_lossPerLayer.2.2.2, rfl⟩, km_X8_68, kt_X8_lossPerLayer, ke_X8_lossPerLayer⟩
theorem kv_X8_countBreaking_74 : x_LV MX8_countBreaking 74 MX8_thicknessRolled 3 := ⟨⟨kc_X8_thicknessRolled.1, ⟨Nat.le_of_ble_eq_true rfl, Nat.le_of_ble_eq_true rfl⟩, kc_X8_thicknessRolled.2.1, kc_X8_thicknessRolled.2.2.1, kc_X8_thicknessRolled.2.2.2, rfl⟩, km_X8_74, kt_X8_thicknessRolled, ke_X8_thicknessRolled⟩
theorem kv_X8_countHoursToSafety_78 {G : xG} (hN : ∀ s : State, G.2.2.1 (x_A G) s s.heap → va_Nw (.methodLinkNest RX8 78 yX11_cooledByFridge "PastryBench") s) : x_LSN G MX8_countHoursToSafety 78 MX11_cooledByFridge 1 "PastryBench" := ⟨⟨kc_X11_cooledByFridge.1, ⟨Nat.le_of_ble_eq_true rfl, Nat.le_of_ble_eq_true rfl⟩, kc_X11_cooledByFridge.2.1, kc_X11_cooledByFridge.2.2.1, kc_X11_cooledByFridge.2.2.2, rfl⟩, hN, kt_X11_cooledByFridge⟩
theorem kv_X11_init_15 {G : xG} (hN : ∀ s : State, G.2.2.1 (x_A G) s s.heap → va_Nw (.methodLinkNest RX11 15 yX5_init "PastryBench") s) : x_LIN G MX11_init 15 MX5_init 0 "PastryBench" := ⟨⟨kc_X5_init.1, ⟨Nat.le_of_ble_eq_true rfl, Nat.le_of_ble_eq_true rfl⟩, kc_X5_init.2.1, kc_X5_init.2.2.1, kc_X5_init.2.2.2, rfl⟩, hN, kt_X5_init, rfl, rfl⟩
theorem kv_X11_init_22 {G : xG} (hN : ∀ s : State, G.2.2.1 (x_A G) s s.heap → va_Nw (.methodLinkNest RX11 22 yX7_init "PastryBench") s) : x_LIN G MX11_init 22 MX7_init 0 "PastryBench" := ⟨⟨kc_X7_init.1, ⟨Nat.le_of_ble_eq_true rfl, Nat.le_of_ble_eq_true rfl⟩, kc_X7_init.2.1, kc_X7_init.2.2.1, kc_X7_init.2.2.2, rfl⟩, hN, kt_X7_init, rfl, rfl⟩
theorem kv_X11_init_27 : x_LS MX11_init 27 MX1_first 0 := ⟨⟨kc_X1_first.1, ⟨Nat.le_of_ble_eq_true rfl, Nat.le_of_ble_eq_true rfl⟩, kc_X1_first.2.1, kc_X1_first.2.2.1, kc_X1_first.2.2.2, rfl⟩, km_X11_27, kt_X1_first⟩
theorem kv_X11_init_37 : x_LI MX11_init 37 MX1_init 0 := ⟨⟨kc_X1_init.1, ⟨Nat.le_of_ble_eq_true rfl, Nat.le_of_ble_eq_true rfl⟩, kc_X1_init.2.1, kc_X1_init.2.2.1, kc_X1_init.2.2.2, rfl⟩, km_X11_37, kt_X1_init, rfl, rfl⟩
theorem kv_X11_init_46 : x_LI MX11_init 46 MX3_init 0 := ⟨⟨kc_X3_init.1, ⟨Nat.le_of_ble_eq_true rfl, Nat.le_of_ble_eq_true rfl⟩, kc_X3_init.2.1, kc_X3_init.2.2.1, kc_X3_init.2.2.2, rfl⟩, km_X11_46, kt_X3_init, rfl, rfl⟩
theorem kv_X11_init_53 {G : xG} (hN : ∀ s : State, G.2.2.1 (x_A G) s s.heap → va_Nw (.methodLinkNest RX11 53 yX4_init "PastryBench") s) : x_LIN G MX11_init 53 MX4_init 0 "PastryBench" := ⟨⟨kc_X4_init.1, ⟨Nat.le_of_ble_eq_true rfl, Nat.le_of_ble_eq_true rfl⟩, kc_X4_init.2.1, kc_X4_init.2.2.1, kc_X4_init.2.2.2, rfl⟩, hN, kt_X4_init, rfl, rfl⟩
theorem kv_X11_appendText_62 : x_LV MX11_appendText 62 MX11_appendWord 1 := ⟨⟨kc_X11_appendWord.1, ⟨Nat.le_of_ble_eq_true rfl, Nat.le_of_ble_eq_true rfl⟩, kc_X11_appendWord.2.1, kc_X11_appendWord.2.2.1, kc_X11_appendWord.2.2.2, rfl⟩, km_X11_62, kt_X11_appendWord, ke_X11_appendWord⟩
theorem kv_X11_loadBench_66 : x_LV MX11_loadBench 66 MX11_requireLength 1 := ⟨⟨kc_X11_requireLength.1, ⟨Nat.le_of_ble_eq_true rfl, Nat.le_of_ble_eq_true rfl⟩, kc_X11_requireLength.2.1, kc_X11_requireLength.2.2.1, kc_X11_requireLength.2.2.2, rfl⟩, km_X11_66, kt_X11_requireLength, ke_X11_requireLength⟩
theorem kv_X11_loadBench_69 : x_LV MX11_loadBench 69 MX5_readBench 3 := ⟨⟨kc_X5_readBench.1, ⟨Nat.le_of_ble_eq_true rfl, Nat.le_of_ble_eq_true rfl⟩, kc_X5_readBench.2.1, kc_X5_readBench.2.2.1, kc_X5_readBench.2.2.2, rfl⟩, km_X11_69, kt_X5_readBench, ke_X5_readBench⟩
theorem kv_X11_loadBench_73 : x_LV MX11_loadBench 73 MX1_copyFrom 1 := ⟨⟨kc_X1_copyFrom.1, ⟨Nat.le_of_ble_eq_true rfl, Nat.le_of_ble_eq_true rfl⟩, kc_X1_copyFrom.2.1, kc_X1_copyFrom.2.2.1, kc_X1_copyFrom.2.2.2, rfl⟩, km_X11_73, kt_X1_copyFrom, ke_X1_copyFrom⟩
theorem kv_X11_loadBench_77 : x_LV MX11_loadBench 77 MX3_forget 0 := ⟨⟨kc_X3_forget.1, ⟨Nat.le_of_ble_eq_true rfl, Nat.le_of_ble_eq_true rfl⟩, kc_X3_forget.2.1, kc_X3_forget.2.2.1, kc_X3_forget.2.2.2, rfl⟩, km_X11_77, kt_X3_forget, ke_X3_forget⟩
theorem kv_X11_warmestSheet_111 : x_LV MX11_warmestSheet 111 MX1_findWarmest 0 := ⟨⟨kc_X1_findWarmest.1, ⟨Nat.le_of_ble_eq_true rfl, Nat.le_of_ble_eq_true rfl⟩, kc_X1_findWarmest.2.1, kc_X1_findWarmest.2.2.1, kc_X1_findWarmest.2.2.2, rfl⟩, km_X11_111, kt_X1_findWarmest, ke_X1_findWarmest⟩
theorem kv_X11_finestSheet_115 : x_LV MX11_finestSheet 115 MX1_findFinest 0 := ⟨⟨kc_X1_findFinest.1, ⟨Nat.le_of_ble_eq_true rfl, Nat.le_of_ble_eq_true rfl⟩, kc_X1_findFinest.2.1, kc_X1_findFinest.2.2.1, kc_X1_findFinest.2.2.2, rfl⟩, km_X11_115, kt_X1_findFinest, ke_X1_findFinest⟩
theorem kv_X11_sheetAt_326 : x_LV MX11_sheetAt 326 MX1_hasSheet 1 := ⟨⟨kc_X1_hasSheet.1, ⟨Nat.le_of_ble_eq_true rfl, Nat.le_of_ble_eq_true rfl⟩, kc_X1_hasSheet.2.1, kc_X1_hasSheet.2.2.1, kc_X1_hasSheet.2.2.2, rfl⟩, km_X11_326, kt_X1_hasSheet, ke_X1_hasSheet⟩
theorem kv_X11_layerCount_118 : x_LV MX11_layerCount 118 MX11_sheetAt 1 := ⟨⟨kc_X11_sheetAt.1, ⟨Nat.le_of_ble_eq_true rfl, Nat.le_of_ble_eq_true rfl⟩, kc_X11_sheetAt.2.1, kc_X11_sheetAt.2.2.1, kc_X11_sheetAt.2.2.2, rfl⟩, km_X11_118, kt_X11_sheetAt, ke_X11_sheetAt⟩
theorem kv_X11_butterLayerCount_118 : x_LV MX11_butterLayerCount 118 MX11_sheetAt 1 := ⟨⟨kc_X11_sheetAt.1, ⟨Nat.le_of_ble_eq_true rfl, Nat.le_of_ble_eq_true rfl⟩, kc_X11_sheetAt.2.1, kc_X11_sheetAt.2.2.1, kc_X11_sheetAt.2.2.2, rfl⟩, km_X11_118, kt_X11_sheetAt, ke_X11_sheetAt⟩
theorem kv_X11_butterLayerCount_127 : x_LV MX11_butterLayerCount 127 MX8_countButterLayers 0 := ⟨⟨kc_X8_countButterLayers.1, ⟨Nat.le_of_ble_eq_true rfl, Nat.le_of_ble_eq_true rfl⟩, kc_X8_countButterLayers.2.1, kc_X8_countButterLayers.2.2.1, kc_X8_countButterLayers.2.2.2, rfl⟩, km_X11_127, kt_X8_countButterLayers, ke_X8_countButterLayers⟩
theorem kv_X11_isButter_118 : x_LV MX11_isButter 118 MX11_sheetAt 1 := ⟨⟨kc_X11_sheetAt.1, ⟨Nat.le_of_ble_eq_true rfl, Nat.le_of_ble_eq_true rfl⟩, kc_X11_sheetAt.2.1, kc_X11_sheetAt.2.2.1, kc_X11_sheetAt.2.2.2, rfl⟩, km_X11_118, kt_X11_sheetAt, ke_X11_sheetAt⟩
theorem kv_X11_isButter_130 : x_LS MX11_isButter 130 MX11_requireLayer 2 := ⟨⟨kc_X11_requireLayer.1, ⟨Nat.le_of_ble_eq_true rfl, Nat.le_of_ble_eq_true rfl⟩, kc_X11_requireLayer.2.1, kc_X11_requireLayer.2.2.1, kc_X11_requireLayer.2.2.2, rfl⟩, km_X11_130, kt_X11_requireLayer⟩
theorem kv_X11_thickness_118 : x_LV MX11_thickness 118 MX11_sheetAt 1 := ⟨⟨kc_X11_sheetAt.1, ⟨Nat.le_of_ble_eq_true rfl, Nat.le_of_ble_eq_true rfl⟩, kc_X11_sheetAt.2.1, kc_X11_sheetAt.2.2.1, kc_X11_sheetAt.2.2.2, rfl⟩, km_X11_118, kt_X11_sheetAt, ke_X11_sheetAt⟩
theorem kv_X11_thickness_130 : x_LS MX11_thickness 130 MX11_requireLayer 2 := ⟨⟨kc_X11_requireLayer.1, ⟨Nat.le_of_ble_eq_true rfl, Nat.le_of_ble_eq_true rfl⟩, kc_X11_requireLayer.2.1, kc_X11_requireLayer.2.2.1, kc_X11_requireLayer.2.2.2, rfl⟩, km_X11_130, kt_X11_requireLayer⟩
theorem kv_X11_height_118 : x_LV MX11_height 118 MX11_sheetAt 1 := ⟨⟨kc_X11_sheetAt.1, ⟨Nat.le_of_ble_eq_true rfl, Nat.le_of_ble_eq_true rfl⟩, kc_X11_sheetAt.2.1, kc_X11_sheetAt.2.2.1, kc_X11_sheetAt.2.2.2, rfl⟩, km_X11_118, kt_X11_sheetAt, ke_X11_sheetAt⟩
theorem kv_X11_height_141 : x_LV MX11_height 141 MX8_totalHeight 0 := ⟨⟨kc_X8_totalHeight.1, ⟨Nat.le_of_ble_eq_true rfl, Nat.le_of_ble_eq_true rfl⟩, kc_X8_totalHeight.2.1, kc_X8_totalHeight.2.2.1, kc_X8_totalHeight.2.2.2, rfl⟩, km_X11_141, kt_X8_totalHeight, ke_X8_totalHeight⟩
theorem kv_X11_butterHeight_118 : x_LV MX11_butterHeight 118 MX11_sheetAt 1 := ⟨⟨kc_X11_sheetAt.1, ⟨Nat.le_of_ble_eq_true rfl, Nat.le_of_ble_eq_true rfl⟩, kc_X11_sheetAt.2.1, kc_X11_sheetAt.2.2.1, kc_X11_sheetAt.2.2.2, rfl⟩, km_X11_118, kt_X11_sheetAt, ke_X11_sheetAt⟩
theorem kv_X11_butterHeight_144 : x_LV MX11_butterHeight 144 MX8_totalButter 0 := ⟨⟨kc_X8_totalButter.1, ⟨Nat.le_of_ble_eq_true rfl, Nat.le_of_ble_eq_true rfl⟩, kc_X8_totalButter.2.1, kc_X8_totalButter.2.2.1, kc_X8_totalButter.2.2.2, rfl⟩, km_X11_144, kt_X8_totalButter, ke_X8_totalButter⟩
theorem kv_X11_thinnestLayer_118 : x_LV MX11_thinnestLayer 118 MX11_sheetAt 1 := ⟨⟨kc_X11_sheetAt.1, ⟨Nat.le_of_ble_eq_true rfl, Nat.le_of_ble_eq_true rfl⟩, kc_X11_sheetAt.2.1, kc_X11_sheetAt.2.2.1, kc_X11_sheetAt.2.2.2, rfl⟩, km_X11_118, kt_X11_sheetAt, ke_X11_sheetAt⟩
theorem kv_X11_thinnestLayer_147 : x_LV MX11_thinnestLayer 147 MX8_findThinnest 0 := ⟨⟨kc_X8_findThinnest.1, ⟨Nat.le_of_ble_eq_true rfl, Nat.le_of_ble_eq_true rfl⟩, kc_X8_findThinnest.2.1, kc_X8_findThinnest.2.2.1, kc_X8_findThinnest.2.2.2, rfl⟩, km_X11_147, kt_X8_findThinnest, ke_X8_findThinnest⟩
theorem kv_X11_thickestLayer_118 : x_LV MX11_thickestLayer 118 MX11_sheetAt 1 := ⟨⟨kc_X11_sheetAt.1, ⟨Nat.le_of_ble_eq_true rfl, Nat.le_of_ble_eq_true rfl⟩, kc_X11_sheetAt.2.1, kc_X11_sheetAt.2.2.1, kc_X11_sheetAt.2.2.2, rfl⟩, km_X11_118, kt_X11_sheetAt, ke_X11_sheetAt⟩
theorem kv_X11_thickestLayer_150 : x_LV MX11_thickestLayer 150 MX8_findThickest 0 := ⟨⟨kc_X8_findThickest.1, ⟨Nat.le_of_ble_eq_true rfl, Nat.le_of_ble_eq_true rfl⟩, kc_X8_findThickest.2.1, kc_X8_findThickest.2.2.1, kc_X8_findThickest.2.2.2, rfl⟩, km_X11_150, kt_X8_findThickest, ke_X8_findThickest⟩
theorem kv_X11_seamCount_118 : x_LV MX11_seamCount 118 MX11_sheetAt 1 := ⟨⟨kc_X11_sheetAt.1, ⟨Nat.le_of_ble_eq_true rfl, Nat.le_of_ble_eq_true rfl⟩, kc_X11_sheetAt.2.1, kc_X11_sheetAt.2.2.1, kc_X11_sheetAt.2.2.2, rfl⟩, km_X11_118, kt_X11_sheetAt, ke_X11_sheetAt⟩
theorem kv_X11_seamCount_153 : x_LV MX11_seamCount 153 MX8_countSeams 0 := ⟨⟨kc_X8_countSeams.1, ⟨Nat.le_of_ble_eq_true rfl, Nat.le_of_ble_eq_true rfl⟩, kc_X8_countSeams.2.1, kc_X8_countSeams.2.2.1, kc_X8_countSeams.2.2.2, rfl⟩, km_X11_153, kt_X8_countSeams, ke_X8_countSeams⟩
theorem kv_X11_isSymmetric_118 : x_LV MX11_isSymmetric 118 MX11_sheetAt 1 := ⟨⟨kc_X11_sheetAt.1, ⟨Nat.le_of_ble_eq_true rfl, Nat.le_of_ble_eq_true rfl⟩, kc_X11_sheetAt.2.1, kc_X11_sheetAt.2.2.1, kc_X11_sheetAt.2.2.2, rfl⟩, km_X11_118, kt_X11_sheetAt, ke_X11_sheetAt⟩
theorem kv_X11_isSymmetric_156 : x_LV MX11_isSymmetric 156 MX8_sameFromBothSides 0 := ⟨⟨kc_X8_sameFromBothSides.1, ⟨Nat.le_of_ble_eq_true rfl, Nat.le_of_ble_eq_true rfl⟩, kc_X8_sameFromBothSides.2.1, kc_X8_sameFromBothSides.2.2.1, kc_X8_sameFromBothSides.2.2.2, rfl⟩, km_X11_156, kt_X8_sameFromBothSides, ke_X8_sameFromBothSides⟩
theorem kv_X11_temperature_118 : x_LV MX11_temperature 118 MX11_sheetAt 1 := ⟨⟨kc_X11_sheetAt.1, ⟨Nat.le_of_ble_eq_true rfl, Nat.le_of_ble_eq_true rfl⟩, kc_X11_sheetAt.2.1, kc_X11_sheetAt.2.2.1, kc_X11_sheetAt.2.2.2, rfl⟩, km_X11_118, kt_X11_sheetAt, ke_X11_sheetAt⟩
theorem kv_X11_isDusted_118 : x_LV MX11_isDusted 118 MX11_sheetAt 1 := ⟨⟨kc_X11_sheetAt.1, ⟨Nat.le_of_ble_eq_true rfl, Nat.le_of_ble_eq_true rfl⟩, kc_X11_sheetAt.2.1, kc_X11_sheetAt.2.2.1, kc_X11_sheetAt.2.2.2, rfl⟩, km_X11_118, kt_X11_sheetAt, ke_X11_sheetAt⟩
theorem kv_X11_isSealed_118 : x_LV MX11_isSealed 118 MX11_sheetAt 1 := ⟨⟨kc_X11_sheetAt.1, ⟨Nat.le_of_ble_eq_true rfl, Nat.le_of_ble_eq_true rfl⟩, kc_X11_sheetAt.2.1, kc_X11_sheetAt.2.2.1, kc_X11_sheetAt.2.2.2, rfl⟩, km_X11_118, kt_X11_sheetAt, ke_X11_sheetAt⟩
theorem kv_X11_isCooling_118 : x_LV MX11_isCooling 118 MX11_sheetAt 1 := ⟨⟨kc_X11_sheetAt.1, ⟨Nat.le_of_ble_eq_true rfl, Nat.le_of_ble_eq_true rfl⟩, kc_X11_sheetAt.2.1, kc_X11_sheetAt.2.2.1, kc_X11_sheetAt.2.2.2, rfl⟩, km_X11_118, kt_X11_sheetAt, ke_X11_sheetAt⟩
theorem kv_X11_foldCount_118 : x_LV MX11_foldCount 118 MX11_sheetAt 1 := ⟨⟨kc_X11_sheetAt.1, ⟨Nat.le_of_ble_eq_true rfl, Nat.le_of_ble_eq_true rfl⟩, kc_X11_sheetAt.2.1, kc_X11_sheetAt.2.2.1, kc_X11_sheetAt.2.2.2, rfl⟩, km_X11_118, kt_X11_sheetAt, ke_X11_sheetAt⟩
theorem kv_X11_expectedLayers_118 : x_LV MX11_expectedLayers 118 MX11_sheetAt 1 := ⟨⟨kc_X11_sheetAt.1, ⟨Nat.le_of_ble_eq_true rfl, Nat.le_of_ble_eq_true rfl⟩, kc_X11_sheetAt.2.1, kc_X11_sheetAt.2.2.1, kc_X11_sheetAt.2.2.2, rfl⟩, km_X11_118, kt_X11_sheetAt, ke_X11_sheetAt⟩
theorem kv_X11_butterShare_118 : x_LV MX11_butterShare 118 MX11_sheetAt 1 := ⟨⟨kc_X11_sheetAt.1, ⟨Nat.le_of_ble_eq_true rfl, Nat.le_of_ble_eq_true rfl⟩, kc_X11_sheetAt.2.1, kc_X11_sheetAt.2.2.1, kc_X11_sheetAt.2.2.2, rfl⟩, km_X11_118, kt_X11_sheetAt, ke_X11_sheetAt⟩
theorem kv_X11_butterShare_141 : x_LV MX11_butterShare 141 MX8_totalHeight 0 := ⟨⟨kc_X8_totalHeight.1, ⟨Nat.le_of_ble_eq_true rfl, Nat.le_of_ble_eq_true rfl⟩, kc_X8_totalHeight.2.1, kc_X8_totalHeight.2.2.1, kc_X8_totalHeight.2.2.2, rfl⟩, km_X11_141, kt_X8_totalHeight, ke_X8_totalHeight⟩
theorem kv_X11_butterShare_144 : x_LV MX11_butterShare 144 MX8_totalButter 0 := ⟨⟨kc_X8_totalButter.1, ⟨Nat.le_of_ble_eq_true rfl, Nat.le_of_ble_eq_true rfl⟩, kc_X8_totalButter.2.1, kc_X8_totalButter.2.2.1, kc_X8_totalButter.2.2.2, rfl⟩, km_X11_144, kt_X8_totalButter, ke_X8_totalButter⟩
theorem kv_X11_meanThickness_118 : x_LV MX11_meanThickness 118 MX11_sheetAt 1 := ⟨⟨kc_X11_sheetAt.1, ⟨Nat.le_of_ble_eq_true rfl, Nat.le_of_ble_eq_true rfl⟩, kc_X11_sheetAt.2.1, kc_X11_sheetAt.2.2.1, kc_X11_sheetAt.2.2.2, rfl⟩, km_X11_118, kt_X11_sheetAt, ke_X11_sheetAt⟩
theorem kv_X11_meanThickness_141 : x_LV MX11_meanThickness 141 MX8_totalHeight 0 := ⟨⟨kc_X8_totalHeight.1, ⟨Nat.le_of_ble_eq_true rfl, Nat.le_of_ble_eq_true rfl⟩, kc_X8_totalHeight.2.1, kc_X8_totalHeight.2.2.1, kc_X8_totalHeight.2.2.2, rfl⟩, km_X11_141, kt_X8_totalHeight, ke_X8_totalHeight⟩
theorem kv_X11_requireFactor_338 : x_LS MX11_requireFactor 338 MX11_isFactor 1 := ⟨⟨kc_X11_isFactor.1, ⟨Nat.le_of_ble_eq_true rfl, Nat.le_of_ble_eq_true rfl⟩, kc_X11_isFactor.2.1, kc_X11_isFactor.2.2.1, kc_X11_isFactor.2.2.2, rfl⟩, km_X11_338, kt_X11_isFactor⟩
theorem kv_X11_foldObstacle_118 : x_LV MX11_foldObstacle 118 MX11_sheetAt 1 := ⟨⟨kc_X11_sheetAt.1, ⟨Nat.le_of_ble_eq_true rfl, Nat.le_of_ble_eq_true rfl⟩, kc_X11_sheetAt.2.1, kc_X11_sheetAt.2.2.1, kc_X11_sheetAt.2.2.2, rfl⟩, km_X11_118, kt_X11_sheetAt, ke_X11_sheetAt⟩
theorem kv_X11_foldObstacle_178 : x_LS MX11_foldObstacle 178 MX11_requireFactor 1 := ⟨⟨kc_X11_requireFactor.1, ⟨Nat.le_of_ble_eq_true rfl, Nat.le_of_ble_eq_true rfl⟩, kc_X11_requireFactor.2.1, kc_X11_requireFactor.2.2.1, kc_X11_requireFactor.2.2.2, rfl⟩, km_X11_178, kt_X11_requireFactor⟩
theorem kv_X11_foldObstacle_181 : x_LV MX11_foldObstacle 181 MX8_findFoldObstacle 1 := ⟨⟨kc_X8_findFoldObstacle.1, ⟨Nat.le_of_ble_eq_true rfl, Nat.le_of_ble_eq_true rfl⟩, kc_X8_findFoldObstacle.2.1, kc_X8_findFoldObstacle.2.2.1, kc_X8_findFoldObstacle.2.2.2, rfl⟩, km_X11_181, kt_X8_findFoldObstacle, ke_X8_findFoldObstacle⟩
theorem kv_X11_layersAfterFold_118 : x_LV MX11_layersAfterFold 118 MX11_sheetAt 1 := ⟨⟨kc_X11_sheetAt.1, ⟨Nat.le_of_ble_eq_true rfl, Nat.le_of_ble_eq_true rfl⟩, kc_X11_sheetAt.2.1, kc_X11_sheetAt.2.2.1, kc_X11_sheetAt.2.2.2, rfl⟩, km_X11_118, kt_X11_sheetAt, ke_X11_sheetAt⟩
theorem kv_X11_layersAfterFold_178 : x_LS MX11_layersAfterFold 178 MX11_requireFactor 1 := ⟨⟨kc_X11_requireFactor.1, ⟨Nat.le_of_ble_eq_true rfl, Nat.le_of_ble_eq_true rfl⟩, kc_X11_requireFactor.2.1, kc_X11_requireFactor.2.2.1, kc_X11_requireFactor.2.2.2, rfl⟩, km_X11_178, kt_X11_requireFactor⟩
theorem kv_X11_layersAfterFold_181 : x_LV MX11_layersAfterFold 181 MX8_findFoldObstacle 1 := ⟨⟨kc_X8_findFoldObstacle.1, ⟨Nat.le_of_ble_eq_true rfl, Nat.le_of_ble_eq_true rfl⟩, kc_X8_findFoldObstacle.2.1, kc_X8_findFoldObstacle.2.2.1, kc_X8_findFoldObstacle.2.2.2, rfl⟩, km_X11_181, kt_X8_findFoldObstacle, ke_X8_findFoldObstacle⟩
theorem kv_X11_layersAfterFold_185 : x_LS MX11_layersAfterFold 185 MX11_layersFolded 3 := ⟨⟨kc_X11_layersFolded.1, ⟨Nat.le_of_ble_eq_true rfl, Nat.le_of_ble_eq_true rfl⟩, kc_X11_layersFolded.2.1, kc_X11_layersFolded.2.2.1, kc_X11_layersFolded.2.2.2, rfl⟩, km_X11_185, kt_X11_layersFolded⟩
theorem kv_X11_foldsPossible_118 : x_LV MX11_foldsPossible 118 MX11_sheetAt 1 := ⟨⟨kc_X11_sheetAt.1, ⟨Nat.le_of_ble_eq_true rfl, Nat.le_of_ble_eq_true rfl⟩, kc_X11_sheetAt.2.1, kc_X11_sheetAt.2.2.1, kc_X11_sheetAt.2.2.2, rfl⟩, km_X11_118, kt_X11_sheetAt, ke_X11_sheetAt⟩
theorem kv_X11_foldsPossible_178 : x_LS MX11_foldsPossible 178 MX11_requireFactor 1 := ⟨⟨kc_X11_requireFactor.1, ⟨Nat.le_of_ble_eq_true rfl, Nat.le_of_ble_eq_true rfl⟩, kc_X11_requireFactor.2.1, kc_X11_requireFactor.2.2.1, kc_X11_requireFactor.2.2.2, rfl⟩, km_X11_178, kt_X11_requireFactor⟩
theorem kv_X11_foldsPossible_189 : x_LV MX11_foldsPossible 189 MX8_countPossibleFolds 1 := ⟨⟨kc_X8_countPossibleFolds.1, ⟨Nat.le_of_ble_eq_true rfl, Nat.le_of_ble_eq_true rfl⟩, kc_X8_countPossibleFolds.2.1, kc_X8_countPossibleFolds.2.2.1, kc_X8_countPossibleFolds.2.2.2, rfl⟩, km_X11_189, kt_X8_countPossibleFolds, ke_X8_countPossibleFolds⟩
theorem kv_X11_butterAtRisk_118 : x_LV MX11_butterAtRisk 118 MX11_sheetAt 1 := ⟨⟨kc_X11_sheetAt.1, ⟨Nat.le_of_ble_eq_true rfl, Nat.le_of_ble_eq_true rfl⟩, kc_X11_sheetAt.2.1, kc_X11_sheetAt.2.2.1, kc_X11_sheetAt.2.2.2, rfl⟩, km_X11_118, kt_X11_sheetAt, ke_X11_sheetAt⟩
theorem kv_X11_butterAtRisk_192 : x_LV MX11_butterAtRisk 192 MX8_sumEscaping 1 := ⟨⟨kc_X8_sumEscaping.1, ⟨Nat.le_of_ble_eq_true rfl, Nat.le_of_ble_eq_true rfl⟩, kc_X8_sumEscaping.2.1, kc_X8_sumEscaping.2.2.1, kc_X8_sumEscaping.2.2.2, rfl⟩, km_X11_192, kt_X8_sumEscaping, ke_X8_sumEscaping⟩
theorem kv_X11_layersAtRisk_118 : x_LV MX11_layersAtRisk 118 MX11_sheetAt 1 := ⟨⟨kc_X11_sheetAt.1, ⟨Nat.le_of_ble_eq_true rfl, Nat.le_of_ble_eq_true rfl⟩, kc_X11_sheetAt.2.1, kc_X11_sheetAt.2.2.1, kc_X11_sheetAt.2.2.2, rfl⟩, km_X11_118, kt_X11_sheetAt, ke_X11_sheetAt⟩
theorem kv_X11_layersAtRisk_178 : x_LS MX11_layersAtRisk 178 MX11_requireFactor 1 := ⟨⟨kc_X11_requireFactor.1, ⟨Nat.le_of_ble_eq_true rfl, Nat.le_of_ble_eq_true rfl⟩, kc_X11_requireFactor.2.1, kc_X11_requireFactor.2.2.1, kc_X11_requireFactor.2.2.2, rfl⟩, km_X11_178, kt_X11_requireFactor⟩
theorem kv_X11_layersAtRisk_195 : x_LV MX11_layersAtRisk 195 MX8_countBreaking 2 := ⟨⟨kc_X8_countBreaking.1, ⟨Nat.le_of_ble_eq_true rfl, Nat.le_of_ble_eq_true rfl⟩, kc_X8_countBreaking.2.1, kc_X8_countBreaking.2.2.1, kc_X8_countBreaking.2.2.2, rfl⟩, km_X11_195, kt_X8_countBreaking, ke_X8_countBreaking⟩
theorem kv_X11_heightAfterRoll_118 : x_LV MX11_heightAfterRoll 118 MX11_sheetAt 1 := ⟨⟨kc_X11_sheetAt.1, ⟨Nat.le_of_ble_eq_true rfl, Nat.le_of_ble_eq_true rfl⟩, kc_X11_sheetAt.2.1, kc_X11_sheetAt.2.2.1, kc_X11_sheetAt.2.2.2, rfl⟩, km_X11_118, kt_X11_sheetAt, ke_X11_sheetAt⟩
theorem kv_X11_heightAfterRoll_178 : x_LS MX11_heightAfterRoll 178 MX11_requireFactor 1 := ⟨⟨kc_X11_requireFactor.1, ⟨Nat.le_of_ble_eq_true rfl, Nat.le_of_ble_eq_true rfl⟩, kc_X11_requireFactor.2.1, kc_X11_requireFactor.2.2.1, kc_X11_requireFactor.2.2.2, rfl⟩, km_X11_178, kt_X11_requireFactor⟩
theorem kv_X11_heightAfterRoll_199 : x_LV MX11_heightAfterRoll 199 MX8_sumRolled 2 := ⟨⟨kc_X8_sumRolled.1, ⟨Nat.le_of_ble_eq_true rfl, Nat.le_of_ble_eq_true rfl⟩, kc_X8_sumRolled.2.1, kc_X8_sumRolled.2.2.1, kc_X8_sumRolled.2.2.2, rfl⟩, km_X11_199, kt_X8_sumRolled, ke_X8_sumRolled⟩
theorem kv_X11_temperatureAfter_118 : x_LV MX11_temperatureAfter 118 MX11_sheetAt 1 := ⟨⟨kc_X11_sheetAt.1, ⟨Nat.le_of_ble_eq_true rfl, Nat.le_of_ble_eq_true rfl⟩, kc_X11_sheetAt.2.1, kc_X11_sheetAt.2.2.1, kc_X11_sheetAt.2.2.2, rfl⟩, km_X11_118, kt_X11_sheetAt, ke_X11_sheetAt⟩
theorem kv_X11_temperatureAfter_209 : x_LV MX11_temperatureAfter 209 MX8_warmthAfter 2 := ⟨⟨kc_X8_warmthAfter.1, ⟨Nat.le_of_ble_eq_true rfl, Nat.le_of_ble_eq_true rfl⟩, kc_X8_warmthAfter.2.1, kc_X8_warmthAfter.2.2.1, kc_X8_warmthAfter.2.2.2, rfl⟩, km_X11_209, kt_X8_warmthAfter, ke_X8_warmthAfter⟩
theorem kv_X11_hoursToSafety_118 : x_LV MX11_hoursToSafety 118 MX11_sheetAt 1 := ⟨⟨kc_X11_sheetAt.1, ⟨Nat.le_of_ble_eq_true rfl, Nat.le_of_ble_eq_true rfl⟩, kc_X11_sheetAt.2.1, kc_X11_sheetAt.2.2.1, kc_X11_sheetAt.2.2.2, rfl⟩, km_X11_118, kt_X11_sheetAt, ke_X11_sheetAt⟩
theorem kv_X11_hoursToSafety_212 : x_LV MX11_hoursToSafety 212 MX8_countHoursToSafety 1 := ⟨⟨kc_X8_countHoursToSafety.1, ⟨Nat.le_of_ble_eq_true rfl, Nat.le_of_ble_eq_true rfl⟩, kc_X8_countHoursToSafety.2.1, kc_X8_countHoursToSafety.2.2.1, kc_X8_countHoursToSafety.2.2.2, rfl⟩, km_X11_212, kt_X8_countHoursToSafety, ke_X8_countHoursToSafety⟩
theorem kv_X11_fold_215 : x_LV MX11_fold 215 MX1_refusalOfFold 2 := ⟨⟨kc_X1_refusalOfFold.1, ⟨Nat.le_of_ble_eq_true rfl, Nat.le_of_ble_eq_true rfl⟩, kc_X1_refusalOfFold.2.1, kc_X1_refusalOfFold.2.2.1, kc_X1_refusalOfFold.2.2.2, rfl⟩, km_X11_215, kt_X1_refusalOfFold, ke_X1_refusalOfFold⟩
theorem kv_X11_fold_219 : x_LS MX11_fold 219 MX11_throwIfRefused 1 := ⟨⟨kc_X11_throwIfRefused.1, ⟨Nat.le_of_ble_eq_true rfl, Nat.le_of_ble_eq_true rfl⟩, kc_X11_throwIfRefused.2.1, kc_X11_throwIfRefused.2.2.1, kc_X11_throwIfRefused.2.2.2, rfl⟩, km_X11_219, kt_X11_throwIfRefused⟩
theorem kv_X11_fold_223 : x_LV MX11_fold 223 MX3_remember 1 := ⟨⟨kc_X3_remember.1, ⟨Nat.le_of_ble_eq_true rfl, Nat.le_of_ble_eq_true rfl⟩, kc_X3_remember.2.1, kc_X3_remember.2.2.1, kc_X3_remember.2.2.2, rfl⟩, km_X11_223, kt_X3_remember, ke_X3_remember⟩
theorem kv_X11_fold_226 : x_LV MX11_fold 226 MX1_applyFold 2 := ⟨⟨kc_X1_applyFold.1, ⟨Nat.le_of_ble_eq_true rfl, Nat.le_of_ble_eq_true rfl⟩, kc_X1_applyFold.2.1, kc_X1_applyFold.2.2.1, kc_X1_applyFold.2.2.2, rfl⟩, km_X11_226, kt_X1_applyFold, ke_X1_applyFold⟩
theorem kv_X11_roll_229 : x_LV MX11_roll 229 MX1_refusalOfRoll 2 := ⟨⟨kc_X1_refusalOfRoll.1, ⟨Nat.le_of_ble_eq_true rfl, Nat.le_of_ble_eq_true rfl⟩, kc_X1_refusalOfRoll.2.1, kc_X1_refusalOfRoll.2.2.1, kc_X1_refusalOfRoll.2.2.2, rfl⟩, km_X11_229, kt_X1_refusalOfRoll, ke_X1_refusalOfRoll⟩
theorem kv_X11_roll_219 : x_LS MX11_roll 219 MX11_throwIfRefused 1 := ⟨⟨kc_X11_throwIfRefused.1, ⟨Nat.le_of_ble_eq_true rfl, Nat.le_of_ble_eq_true rfl⟩, kc_X11_throwIfRefused.2.1, kc_X11_throwIfRefused.2.2.1, kc_X11_throwIfRefused.2.2.2, rfl⟩, km_X11_219, kt_X11_throwIfRefused⟩
theorem kv_X11_roll_223 : x_LV MX11_roll 223 MX3_remember 1 := ⟨⟨kc_X3_remember.1, ⟨Nat.le_of_ble_eq_true rfl, Nat.le_of_ble_eq_true rfl⟩, kc_X3_remember.2.1, kc_X3_remember.2.2.1, kc_X3_remember.2.2.2, rfl⟩, km_X11_223, kt_X3_remember, ke_X3_remember⟩
theorem kv_X11_roll_232 : x_LV MX11_roll 232 MX1_applyRoll 2 := ⟨⟨kc_X1_applyRoll.1, ⟨Nat.le_of_ble_eq_true rfl, Nat.le_of_ble_eq_true rfl⟩, kc_X1_applyRoll.2.1, kc_X1_applyRoll.2.2.1, kc_X1_applyRoll.2.2.2, rfl⟩, km_X11_232, kt_X1_applyRoll, ke_X1_applyRoll⟩
theorem kv_X11_dust_235 : x_LV MX11_dust 235 MX1_refusalOfDust 1 := ⟨⟨kc_X1_refusalOfDust.1, ⟨Nat.le_of_ble_eq_true rfl, Nat.le_of_ble_eq_true rfl⟩, kc_X1_refusalOfDust.2.1, kc_X1_refusalOfDust.2.2.1, kc_X1_refusalOfDust.2.2.2, rfl⟩, km_X11_235, kt_X1_refusalOfDust, ke_X1_refusalOfDust⟩
theorem kv_X11_dust_219 : x_LS MX11_dust 219 MX11_throwIfRefused 1 := ⟨⟨kc_X11_throwIfRefused.1, ⟨Nat.le_of_ble_eq_true rfl, Nat.le_of_ble_eq_true rfl⟩, kc_X11_throwIfRefused.2.1, kc_X11_throwIfRefused.2.2.1, kc_X11_throwIfRefused.2.2.2, rfl⟩, km_X11_219, kt_X11_throwIfRefused⟩
theorem kv_X11_dust_223 : x_LV MX11_dust 223 MX3_remember 1 := ⟨⟨kc_X3_remember.1, ⟨Nat.le_of_ble_eq_true rfl, Nat.le_of_ble_eq_true rfl⟩, kc_X3_remember.2.1, kc_X3_remember.2.2.1, kc_X3_remember.2.2.2, rfl⟩, km_X11_223, kt_X3_remember, ke_X3_remember⟩
theorem kv_X11_dust_239 : x_LV MX11_dust 239 MX1_applyDust 1 := ⟨⟨kc_X1_applyDust.1, ⟨Nat.le_of_ble_eq_true rfl, Nat.le_of_ble_eq_true rfl⟩, kc_X1_applyDust.2.1, kc_X1_applyDust.2.2.1, kc_X1_applyDust.2.2.2, rfl⟩, km_X11_239, kt_X1_applyDust, ke_X1_applyDust⟩
theorem kv_X11_seal_242 : x_LV MX11_seal 242 MX1_refusalOfSeal 1 := ⟨⟨kc_X1_refusalOfSeal.1, ⟨Nat.le_of_ble_eq_true rfl, Nat.le_of_ble_eq_true rfl⟩, kc_X1_refusalOfSeal.2.1, kc_X1_refusalOfSeal.2.2.1, kc_X1_refusalOfSeal.2.2.2, rfl⟩, km_X11_242, kt_X1_refusalOfSeal, ke_X1_refusalOfSeal⟩
theorem kv_X11_seal_219 : x_LS MX11_seal 219 MX11_throwIfRefused 1 := ⟨⟨kc_X11_throwIfRefused.1, ⟨Nat.le_of_ble_eq_true rfl, Nat.le_of_ble_eq_true rfl⟩, kc_X11_throwIfRefused.2.1, kc_X11_throwIfRefused.2.2.1, kc_X11_throwIfRefused.2.2.2, rfl⟩, km_X11_219, kt_X11_throwIfRefused⟩
theorem kv_X11_seal_223 : x_LV MX11_seal 223 MX3_remember 1 := ⟨⟨kc_X3_remember.1, ⟨Nat.le_of_ble_eq_true rfl, Nat.le_of_ble_eq_true rfl⟩, kc_X3_remember.2.1, kc_X3_remember.2.2.1, kc_X3_remember.2.2.2, rfl⟩, km_X11_223, kt_X3_remember, ke_X3_remember⟩
theorem kv_X11_seal_245 : x_LV MX11_seal 245 MX1_applySeal 1 := ⟨⟨kc_X1_applySeal.1, ⟨Nat.le_of_ble_eq_true rfl, Nat.le_of_ble_eq_true rfl⟩, kc_X1_applySeal.2.1, kc_X1_applySeal.2.2.1, kc_X1_applySeal.2.2.2, rfl⟩, km_X11_245, kt_X1_applySeal, ke_X1_applySeal⟩
theorem kv_X11_cool_248 : x_LV MX11_cool 248 MX1_refusalOfCool 1 := ⟨⟨kc_X1_refusalOfCool.1, ⟨Nat.le_of_ble_eq_true rfl, Nat.le_of_ble_eq_true rfl⟩, kc_X1_refusalOfCool.2.1, kc_X1_refusalOfCool.2.2.1, kc_X1_refusalOfCool.2.2.2, rfl⟩, km_X11_248, kt_X1_refusalOfCool, ke_X1_refusalOfCool⟩
theorem kv_X11_cool_219 : x_LS MX11_cool 219 MX11_throwIfRefused 1 := ⟨⟨kc_X11_throwIfRefused.1, ⟨Nat.le_of_ble_eq_true rfl, Nat.le_of_ble_eq_true rfl⟩, kc_X11_throwIfRefused.2.1, kc_X11_throwIfRefused.2.2.1, kc_X11_throwIfRefused.2.2.2, rfl⟩, km_X11_219, kt_X11_throwIfRefused⟩
theorem kv_X11_cool_223 : x_LV MX11_cool 223 MX3_remember 1 := ⟨⟨kc_X3_remember.1, ⟨Nat.le_of_ble_eq_true rfl, Nat.le_of_ble_eq_true rfl⟩, kc_X3_remember.2.1, kc_X3_remember.2.2.1, kc_X3_remember.2.2.2, rfl⟩, km_X11_223, kt_X3_remember, ke_X3_remember⟩
theorem kv_X11_cool_251 : x_LV MX11_cool 251 MX1_applyCool 1 := ⟨⟨kc_X1_applyCool.1, ⟨Nat.le_of_ble_eq_true rfl, Nat.le_of_ble_eq_true rfl⟩, kc_X1_applyCool.2.1, kc_X1_applyCool.2.2.1, kc_X1_applyCool.2.2.2, rfl⟩, km_X11_251, kt_X1_applyCool, ke_X1_applyCool⟩
theorem kv_X11_takeOut_254 : x_LV MX11_takeOut 254 MX1_refusalOfTakeOut 1 := ⟨⟨kc_X1_refusalOfTakeOut.1, ⟨Nat.le_of_ble_eq_true rfl, Nat.le_of_ble_eq_true rfl⟩, kc_X1_refusalOfTakeOut.2.1, kc_X1_refusalOfTakeOut.2.2.1, kc_X1_refusalOfTakeOut.2.2.2, rfl⟩, km_X11_254, kt_X1_refusalOfTakeOut, ke_X1_refusalOfTakeOut⟩
theorem kv_X11_takeOut_219 : x_LS MX11_takeOut 219 MX11_throwIfRefused 1 := ⟨⟨kc_X11_throwIfRefused.1, ⟨Nat.le_of_ble_eq_true rfl, Nat.le_of_ble_eq_true rfl⟩, kc_X11_throwIfRefused.2.1, kc_X11_throwIfRefused.2.2.1, kc_X11_throwIfRefused.2.2.2, rfl⟩, km_X11_219, kt_X11_throwIfRefused⟩
theorem kv_X11_takeOut_223 : x_LV MX11_takeOut 223 MX3_remember 1 := ⟨⟨kc_X3_remember.1, ⟨Nat.le_of_ble_eq_true rfl, Nat.le_of_ble_eq_true rfl⟩, kc_X3_remember.2.1, kc_X3_remember.2.2.1, kc_X3_remember.2.2.2, rfl⟩, km_X11_223, kt_X3_remember, ke_X3_remember⟩
theorem kv_X11_takeOut_257 : x_LV MX11_takeOut 257 MX1_applyTakeOut 1 := ⟨⟨kc_X1_applyTakeOut.1, ⟨Nat.le_of_ble_eq_true rfl, Nat.le_of_ble_eq_true rfl⟩, kc_X1_applyTakeOut.2.1, kc_X1_applyTakeOut.2.2.1, kc_X1_applyTakeOut.2.2.2, rfl⟩, km_X11_257, kt_X1_applyTakeOut, ke_X1_applyTakeOut⟩
theorem kv_X11_passHours_260 : x_LV MX11_passHours 260 MX1_refusalOfHours 1 := ⟨⟨kc_X1_refusalOfHours.1, ⟨Nat.le_of_ble_eq_true rfl, Nat.le_of_ble_eq_true rfl⟩, kc_X1_refusalOfHours.2.1, kc_X1_refusalOfHours.2.2.1, kc_X1_refusalOfHours.2.2.2, rfl⟩, km_X11_260, kt_X1_refusalOfHours, ke_X1_refusalOfHours⟩
theorem kv_X11_passHours_219 : x_LS MX11_passHours 219 MX11_throwIfRefused 1 := ⟨⟨kc_X11_throwIfRefused.1, ⟨Nat.le_of_ble_eq_true rfl, Nat.le_of_ble_eq_true rfl⟩, kc_X11_throwIfRefused.2.1, kc_X11_throwIfRefused.2.2.1, kc_X11_throwIfRefused.2.2.2, rfl⟩, km_X11_219, kt_X11_throwIfRefused⟩
theorem kv_X11_passHours_223 : x_LV MX11_passHours 223 MX3_remember 1 := ⟨⟨kc_X3_remember.1, ⟨Nat.le_of_ble_eq_true rfl, Nat.le_of_ble_eq_true rfl⟩, kc_X3_remember.2.1, kc_X3_remember.2.2.1, kc_X3_remember.2.2.2, rfl⟩, km_X11_223, kt_X3_remember, ke_X3_remember⟩
theorem kv_X11_passHours_263 : x_LV MX11_passHours 263 MX1_applyHours 1 := ⟨⟨kc_X1_applyHours.1, ⟨Nat.le_of_ble_eq_true rfl, Nat.le_of_ble_eq_true rfl⟩, kc_X1_applyHours.2.1, kc_X1_applyHours.2.2.1, kc_X1_applyHours.2.2.2, rfl⟩, km_X11_263, kt_X1_applyHours, ke_X1_applyHours⟩
theorem kv_X11_cut_266 : x_LV MX11_cut 266 MX1_refusalOfCut 1 := ⟨⟨kc_X1_refusalOfCut.1, ⟨Nat.le_of_ble_eq_true rfl, Nat.le_of_ble_eq_true rfl⟩, kc_X1_refusalOfCut.2.1, kc_X1_refusalOfCut.2.2.1, kc_X1_refusalOfCut.2.2.2, rfl⟩, km_X11_266, kt_X1_refusalOfCut, ke_X1_refusalOfCut⟩
theorem kv_X11_cut_219 : x_LS MX11_cut 219 MX11_throwIfRefused 1 := ⟨⟨kc_X11_throwIfRefused.1, ⟨Nat.le_of_ble_eq_true rfl, Nat.le_of_ble_eq_true rfl⟩, kc_X11_throwIfRefused.2.1, kc_X11_throwIfRefused.2.2.1, kc_X11_throwIfRefused.2.2.2, rfl⟩, km_X11_219, kt_X11_throwIfRefused⟩
theorem kv_X11_cut_223 : x_LV MX11_cut 223 MX3_remember 1 := ⟨⟨kc_X3_remember.1, ⟨Nat.le_of_ble_eq_true rfl, Nat.le_of_ble_eq_true rfl⟩, kc_X3_remember.2.1, kc_X3_remember.2.2.1, kc_X3_remember.2.2.2, rfl⟩, km_X11_223, kt_X3_remember, ke_X3_remember⟩
theorem kv_X11_cut_269 : x_LV MX11_cut 269 MX1_applyCut 1 := ⟨⟨kc_X1_applyCut.1, ⟨Nat.le_of_ble_eq_true rfl, Nat.le_of_ble_eq_true rfl⟩, kc_X1_applyCut.2.1, kc_X1_applyCut.2.2.1, kc_X1_applyCut.2.2.2, rfl⟩, km_X11_269, kt_X1_applyCut, ke_X1_applyCut⟩
theorem kv_X11_stack_272 : x_LV MX11_stack 272 MX1_refusalOfStack 2 := ⟨⟨kc_X1_refusalOfStack.1, ⟨Nat.le_of_ble_eq_true rfl, Nat.le_of_ble_eq_true rfl⟩, kc_X1_refusalOfStack.2.1, kc_X1_refusalOfStack.2.2.1, kc_X1_refusalOfStack.2.2.2, rfl⟩, km_X11_272, kt_X1_refusalOfStack, ke_X1_refusalOfStack⟩
theorem kv_X11_stack_219 : x_LS MX11_stack 219 MX11_throwIfRefused 1 := ⟨⟨kc_X11_throwIfRefused.1, ⟨Nat.le_of_ble_eq_true rfl, Nat.le_of_ble_eq_true rfl⟩, kc_X11_throwIfRefused.2.1, kc_X11_throwIfRefused.2.2.1, kc_X11_throwIfRefused.2.2.2, rfl⟩, km_X11_219, kt_X11_throwIfRefused⟩
theorem kv_X11_stack_223 : x_LV MX11_stack 223 MX3_remember 1 := ⟨⟨kc_X3_remember.1, ⟨Nat.le_of_ble_eq_true rfl, Nat.le_of_ble_eq_true rfl⟩, kc_X3_remember.2.1, kc_X3_remember.2.2.1, kc_X3_remember.2.2.2, rfl⟩, km_X11_223, kt_X3_remember, ke_X3_remember⟩
theorem kv_X11_stack_275 : x_LV MX11_stack 275 MX1_applyStack 2 := ⟨⟨kc_X1_applyStack.1, ⟨Nat.le_of_ble_eq_true rfl, Nat.le_of_ble_eq_true rfl⟩, kc_X1_applyStack.2.1, kc_X1_applyStack.2.2.1, kc_X1_applyStack.2.2.2, rfl⟩, km_X11_275, kt_X1_applyStack, ke_X1_applyStack⟩
theorem kv_X11_addButter_278 : x_LV MX11_addButter 278 MX1_refusalOfButter 2 := ⟨⟨kc_X1_refusalOfButter.1, ⟨Nat.le_of_ble_eq_true rfl, Nat.le_of_ble_eq_true rfl⟩, kc_X1_refusalOfButter.2.1, kc_X1_refusalOfButter.2.2.1, kc_X1_refusalOfButter.2.2.2, rfl⟩, km_X11_278, kt_X1_refusalOfButter, ke_X1_refusalOfButter⟩
theorem kv_X11_addButter_219 : x_LS MX11_addButter 219 MX11_throwIfRefused 1 := ⟨⟨kc_X11_throwIfRefused.1, ⟨Nat.le_of_ble_eq_true rfl, Nat.le_of_ble_eq_true rfl⟩, kc_X11_throwIfRefused.2.1, kc_X11_throwIfRefused.2.2.1, kc_X11_throwIfRefused.2.2.2, rfl⟩, km_X11_219, kt_X11_throwIfRefused⟩
theorem kv_X11_addButter_223 : x_LV MX11_addButter 223 MX3_remember 1 := ⟨⟨kc_X3_remember.1, ⟨Nat.le_of_ble_eq_true rfl, Nat.le_of_ble_eq_true rfl⟩, kc_X3_remember.2.1, kc_X3_remember.2.2.1, kc_X3_remember.2.2.2, rfl⟩, km_X11_223, kt_X3_remember, ke_X3_remember⟩
theorem kv_X11_addButter_281 : x_LV MX11_addButter 281 MX1_applyButter 2 := ⟨⟨kc_X1_applyButter.1, ⟨Nat.le_of_ble_eq_true rfl, Nat.le_of_ble_eq_true rfl⟩, kc_X1_applyButter.2.1, kc_X1_applyButter.2.2.1, kc_X1_applyButter.2.2.2, rfl⟩, km_X11_281, kt_X1_applyButter, ke_X1_applyButter⟩
theorem kv_X11_buyFlour_284 : x_LV MX11_buyFlour 284 MX1_refusalOfFlour 1 := ⟨⟨kc_X1_refusalOfFlour.1, ⟨Nat.le_of_ble_eq_true rfl, Nat.le_of_ble_eq_true rfl⟩, kc_X1_refusalOfFlour.2.1, kc_X1_refusalOfFlour.2.2.1, kc_X1_refusalOfFlour.2.2.2, rfl⟩, km_X11_284, kt_X1_refusalOfFlour, ke_X1_refusalOfFlour⟩
theorem kv_X11_buyFlour_219 : x_LS MX11_buyFlour 219 MX11_throwIfRefused 1 := ⟨⟨kc_X11_throwIfRefused.1, ⟨Nat.le_of_ble_eq_true rfl, Nat.le_of_ble_eq_true rfl⟩, kc_X11_throwIfRefused.2.1, kc_X11_throwIfRefused.2.2.1, kc_X11_throwIfRefused.2.2.2, rfl⟩, km_X11_219, kt_X11_throwIfRefused⟩
theorem kv_X11_buyFlour_223 : x_LV MX11_buyFlour 223 MX3_remember 1 := ⟨⟨kc_X3_remember.1, ⟨Nat.le_of_ble_eq_true rfl, Nat.le_of_ble_eq_true rfl⟩, kc_X3_remember.2.1, kc_X3_remember.2.2.1, kc_X3_remember.2.2.2, rfl⟩, km_X11_223, kt_X3_remember, ke_X3_remember⟩
theorem kv_X11_buyFlour_287 : x_LV MX11_buyFlour 287 MX1_applyFlour 1 := ⟨⟨kc_X1_applyFlour.1, ⟨Nat.le_of_ble_eq_true rfl, Nat.le_of_ble_eq_true rfl⟩, kc_X1_applyFlour.2.1, kc_X1_applyFlour.2.2.1, kc_X1_applyFlour.2.2.2, rfl⟩, km_X11_287, kt_X1_applyFlour, ke_X1_applyFlour⟩
theorem kv_X11_runScript_66 : x_LV MX11_runScript 66 MX11_requireLength 1 := ⟨⟨kc_X11_requireLength.1, ⟨Nat.le_of_ble_eq_true rfl, Nat.le_of_ble_eq_true rfl⟩, kc_X11_requireLength.2.1, kc_X11_requireLength.2.2.1, kc_X11_requireLength.2.2.2, rfl⟩, km_X11_66, kt_X11_requireLength, ke_X11_requireLength⟩
theorem kv_X11_runScript_290 : x_LV MX11_runScript 290 MX5_readScript 3 := ⟨⟨kc_X5_readScript.1, ⟨Nat.le_of_ble_eq_true rfl, Nat.le_of_ble_eq_true rfl⟩, kc_X5_readScript.2.1, kc_X5_readScript.2.2.1, kc_X5_readScript.2.2.2, rfl⟩, km_X11_290, kt_X5_readScript, ke_X5_readScript⟩
theorem kv_X11_runScript_223 : x_LV MX11_runScript 223 MX3_remember 1 := ⟨⟨kc_X3_remember.1, ⟨Nat.le_of_ble_eq_true rfl, Nat.le_of_ble_eq_true rfl⟩, kc_X3_remember.2.1, kc_X3_remember.2.2.1, kc_X3_remember.2.2.2, rfl⟩, km_X11_223, kt_X3_remember, ke_X3_remember⟩
theorem kv_X11_runScript_294 : x_LV MX11_runScript 294 MX7_executeOn 1 := ⟨⟨kc_X7_executeOn.1, ⟨Nat.le_of_ble_eq_true rfl, Nat.le_of_ble_eq_true rfl⟩, kc_X7_executeOn.2.1, kc_X7_executeOn.2.2.1, kc_X7_executeOn.2.2.2, rfl⟩, km_X11_294, kt_X7_executeOn, ke_X7_executeOn⟩
theorem kv_X11_writeSheet_118 : x_LV MX11_writeSheet 118 MX11_sheetAt 1 := ⟨⟨kc_X11_sheetAt.1, ⟨Nat.le_of_ble_eq_true rfl, Nat.le_of_ble_eq_true rfl⟩, kc_X11_sheetAt.2.1, kc_X11_sheetAt.2.2.1, kc_X11_sheetAt.2.2.2, rfl⟩, km_X11_118, kt_X11_sheetAt, ke_X11_sheetAt⟩
theorem kv_X11_writeSheet_298 : x_LV MX11_writeSheet 298 MX4_replaceBy 1 := ⟨⟨kc_X4_replaceBy.1, ⟨Nat.le_of_ble_eq_true rfl, Nat.le_of_ble_eq_true rfl⟩, kc_X4_replaceBy.2.1, kc_X4_replaceBy.2.2.1, kc_X4_replaceBy.2.2.2, rfl⟩, km_X11_298, kt_X4_replaceBy, ke_X4_replaceBy⟩
theorem kv_X11_undo_319 : x_LV MX11_undo 319 MX3_takeBack 1 := ⟨⟨kc_X3_takeBack.1, ⟨Nat.le_of_ble_eq_true rfl, Nat.le_of_ble_eq_true rfl⟩, kc_X3_takeBack.2.1, kc_X3_takeBack.2.2.1, kc_X3_takeBack.2.2.2, rfl⟩, km_X11_319, kt_X3_takeBack, ke_X3_takeBack⟩
theorem kv_X11_saveSnapshot_73 : x_LV MX11_saveSnapshot 73 MX1_copyFrom 1 := ⟨⟨kc_X1_copyFrom.1, ⟨Nat.le_of_ble_eq_true rfl, Nat.le_of_ble_eq_true rfl⟩, kc_X1_copyFrom.2.1, kc_X1_copyFrom.2.2.1, kc_X1_copyFrom.2.2.2, rfl⟩, km_X11_73, kt_X1_copyFrom, ke_X1_copyFrom⟩
theorem kv_X11_restoreSnapshot_73 : x_LV MX11_restoreSnapshot 73 MX1_copyFrom 1 := ⟨⟨kc_X1_copyFrom.1, ⟨Nat.le_of_ble_eq_true rfl, Nat.le_of_ble_eq_true rfl⟩, kc_X1_copyFrom.2.1, kc_X1_copyFrom.2.2.1, kc_X1_copyFrom.2.2.2, rfl⟩, km_X11_73, kt_X1_copyFrom, ke_X1_copyFrom⟩
theorem kv_X11_restoreSnapshot_77 : x_LV MX11_restoreSnapshot 77 MX3_forget 0 := ⟨⟨kc_X3_forget.1, ⟨Nat.le_of_ble_eq_true rfl, Nat.le_of_ble_eq_true rfl⟩, kc_X3_forget.2.1, kc_X3_forget.2.2.1, kc_X3_forget.2.2.2, rfl⟩, km_X11_77, kt_X3_forget, ke_X3_forget⟩
theorem kv_X12_lay_86 : x_LS MX12_lay 86 MX12_at 1 := ⟨⟨kc_X12_at.1, ⟨Nat.le_of_ble_eq_true rfl, Nat.le_of_ble_eq_true rfl⟩, kc_X12_at.2.1, kc_X12_at.2.2.1, kc_X12_at.2.2.2, rfl⟩, km_X12_86, kt_X12_at⟩
theorem kv_X12_startSheet_90 : x_LV MX12_startSheet 90 MX12_lay 3 := ⟨⟨kc_X12_lay.1, ⟨Nat.le_of_ble_eq_true rfl, Nat.le_of_ble_eq_true rfl⟩, kc_X12_lay.2.1, kc_X12_lay.2.2.1, kc_X12_lay.2.2.2, rfl⟩, km_X12_90, kt_X12_lay, ke_X12_lay⟩
theorem kv_X12_of_86 : x_LS MX12_of 86 MX12_at 1 := ⟨⟨kc_X12_at.1, ⟨Nat.le_of_ble_eq_true rfl, Nat.le_of_ble_eq_true rfl⟩, kc_X12_at.2.1, kc_X12_at.2.2.1, kc_X12_at.2.2.2, rfl⟩, km_X12_86, kt_X12_at⟩
theorem kv_X12_addLayer_93 : x_LV MX12_addLayer 93 MX12_of 2 := ⟨⟨kc_X12_of.1, ⟨Nat.le_of_ble_eq_true rfl, Nat.le_of_ble_eq_true rfl⟩, kc_X12_of.2.1, kc_X12_of.2.2.1, kc_X12_of.2.2.2, rfl⟩, km_X12_93, kt_X12_of, ke_X12_of⟩
theorem kv_X12_addLayer_90 : x_LV MX12_addLayer 90 MX12_lay 3 := ⟨⟨kc_X12_lay.1, ⟨Nat.le_of_ble_eq_true rfl, Nat.le_of_ble_eq_true rfl⟩, kc_X12_lay.2.1, kc_X12_lay.2.2.1, kc_X12_lay.2.2.2, rfl⟩, km_X12_90, kt_X12_lay, ke_X12_lay⟩
theorem kv_X12_expectLayers_93 : x_LV MX12_expectLayers 93 MX12_of 2 := ⟨⟨kc_X12_of.1, ⟨Nat.le_of_ble_eq_true rfl, Nat.le_of_ble_eq_true rfl⟩, kc_X12_of.2.1, kc_X12_of.2.2.1, kc_X12_of.2.2.2, rfl⟩, km_X12_93, kt_X12_of, ke_X12_of⟩
theorem kv_X12_expectLayers_90 : x_LV MX12_expectLayers 90 MX12_lay 3 := ⟨⟨kc_X12_lay.1, ⟨Nat.le_of_ble_eq_true rfl, Nat.le_of_ble_eq_true rfl⟩, kc_X12_lay.2.1, kc_X12_lay.2.2.1, kc_X12_lay.2.2.2, rfl⟩, km_X12_90, kt_X12_lay, ke_X12_lay⟩
theorem kv_X12_init_65 : x_LV MX12_init 65 MX12_begin 3 := ⟨⟨kc_X12_begin.1, ⟨Nat.le_of_ble_eq_true rfl, Nat.le_of_ble_eq_true rfl⟩, kc_X12_begin.2.1, kc_X12_begin.2.2.1, kc_X12_begin.2.2.2, rfl⟩, km_X12_65, kt_X12_begin, ke_X12_begin⟩
theorem kv_X12_init_69 : x_LV MX12_init 69 MX12_startSheet 2 := ⟨⟨kc_X12_startSheet.1, ⟨Nat.le_of_ble_eq_true rfl, Nat.le_of_ble_eq_true rfl⟩, kc_X12_startSheet.2.1, kc_X12_startSheet.2.2.1, kc_X12_startSheet.2.2.2, rfl⟩, km_X12_69, kt_X12_startSheet, ke_X12_startSheet⟩
theorem kv_X12_init_73 : x_LV MX12_init 73 MX12_addLayer 2 := ⟨⟨kc_X12_addLayer.1, ⟨Nat.le_of_ble_eq_true rfl, Nat.le_of_ble_eq_true rfl⟩, kc_X12_addLayer.2.1, kc_X12_addLayer.2.2.1, kc_X12_addLayer.2.2.2, rfl⟩, km_X12_73, kt_X12_addLayer, ke_X12_addLayer⟩
theorem kv_X12_init_76 : x_LV MX12_init 76 MX12_expectLayers 0 := ⟨⟨kc_X12_expectLayers.1, ⟨Nat.le_of_ble_eq_true rfl, Nat.le_of_ble_eq_true rfl⟩, kc_X12_expectLayers.2.1, kc_X12_expectLayers.2.2.1, kc_X12_expectLayers.2.2.2, rfl⟩, km_X12_76, kt_X12_expectLayers, ke_X12_expectLayers⟩
theorem kv_X12_lacksBoth_82 : x_LV MX12_lacksBoth 82 MX12_lacks 1 := ⟨⟨kc_X12_lacks.1, ⟨Nat.le_of_ble_eq_true rfl, Nat.le_of_ble_eq_true rfl⟩, kc_X12_lacks.2.1, kc_X12_lacks.2.2.1, kc_X12_lacks.2.2.2, rfl⟩, km_X12_82, kt_X12_lacks, ke_X12_lacks⟩
theorem kv_X12_layer_86 : x_LS MX12_layer 86 MX12_at 1 := ⟨⟨kc_X12_at.1, ⟨Nat.le_of_ble_eq_true rfl, Nat.le_of_ble_eq_true rfl⟩, kc_X12_at.2.1, kc_X12_at.2.2.1, kc_X12_at.2.2.2, rfl⟩, km_X12_86, kt_X12_at⟩
theorem kv_X12_putLayer_93 : x_LV MX12_putLayer 93 MX12_of 2 := ⟨⟨kc_X12_of.1, ⟨Nat.le_of_ble_eq_true rfl, Nat.le_of_ble_eq_true rfl⟩, kc_X12_of.2.1, kc_X12_of.2.2.1, kc_X12_of.2.2.2, rfl⟩, km_X12_93, kt_X12_of, ke_X12_of⟩
theorem kv_X12_putLayer_97 : x_LV MX12_putLayer 97 MX12_layer 2 := ⟨⟨kc_X12_layer.1, ⟨Nat.le_of_ble_eq_true rfl, Nat.le_of_ble_eq_true rfl⟩, kc_X12_layer.2.1, kc_X12_layer.2.2.1, kc_X12_layer.2.2.2, rfl⟩, km_X12_97, kt_X12_layer, ke_X12_layer⟩
theorem kv_X12_putLayer_100 : x_LS MX12_putLayer 100 MX12_areAlike 2 := ⟨⟨kc_X12_areAlike.1, ⟨Nat.le_of_ble_eq_true rfl, Nat.le_of_ble_eq_true rfl⟩, kc_X12_areAlike.2.1, kc_X12_areAlike.2.2.1, kc_X12_areAlike.2.2.2, rfl⟩, km_X12_100, kt_X12_areAlike⟩
theorem kv_X12_putLayer_90 : x_LV MX12_putLayer 90 MX12_lay 3 := ⟨⟨kc_X12_lay.1, ⟨Nat.le_of_ble_eq_true rfl, Nat.le_of_ble_eq_true rfl⟩, kc_X12_lay.2.1, kc_X12_lay.2.2.1, kc_X12_lay.2.2.2, rfl⟩, km_X12_90, kt_X12_lay, ke_X12_lay⟩
theorem kv_X12_putLayer_73 : x_LV MX12_putLayer 73 MX12_addLayer 2 := ⟨⟨kc_X12_addLayer.1, ⟨Nat.le_of_ble_eq_true rfl, Nat.le_of_ble_eq_true rfl⟩, kc_X12_addLayer.2.1, kc_X12_addLayer.2.2.1, kc_X12_addLayer.2.2.2, rfl⟩, km_X12_73, kt_X12_addLayer, ke_X12_addLayer⟩
theorem kv_X12_isSheet_107 : x_LS MX12_isSheet 107 MX12_inRange 3 := ⟨⟨kc_X12_inRange.1, ⟨Nat.le_of_ble_eq_true rfl, Nat.le_of_ble_eq_true rfl⟩, kc_X12_inRange.2.1, kc_X12_inRange.2.2.1, kc_X12_inRange.2.2.2, rfl⟩, km_X12_107, kt_X12_inRange⟩
theorem kv_X12_isLayer_111 : x_LV MX12_isLayer 111 MX12_isSheet 1 := ⟨⟨kc_X12_isSheet.1, ⟨Nat.le_of_ble_eq_true rfl, Nat.le_of_ble_eq_true rfl⟩, kc_X12_isSheet.2.1, kc_X12_isSheet.2.2.1, kc_X12_isSheet.2.2.2, rfl⟩, km_X12_111, kt_X12_isSheet, ke_X12_isSheet⟩
theorem kv_X12_isLayer_93 : x_LV MX12_isLayer 93 MX12_of 2 := ⟨⟨kc_X12_of.1, ⟨Nat.le_of_ble_eq_true rfl, Nat.le_of_ble_eq_true rfl⟩, kc_X12_of.2.1, kc_X12_of.2.2.1, kc_X12_of.2.2.2, rfl⟩, km_X12_93, kt_X12_of, ke_X12_of⟩
theorem kv_X12_isLayer_107 : x_LS MX12_isLayer 107 MX12_inRange 3 := ⟨⟨kc_X12_inRange.1, ⟨Nat.le_of_ble_eq_true rfl, Nat.le_of_ble_eq_true rfl⟩, kc_X12_inRange.2.1, kc_X12_inRange.2.2.1, kc_X12_inRange.2.2.2, rfl⟩, km_X12_107, kt_X12_inRange⟩
theorem kv_X12_is_93 : x_LV MX12_is 93 MX12_of 2 := ⟨⟨kc_X12_of.1, ⟨Nat.le_of_ble_eq_true rfl, Nat.le_of_ble_eq_true rfl⟩, kc_X12_of.2.1, kc_X12_of.2.2.1, kc_X12_of.2.2.2, rfl⟩, km_X12_93, kt_X12_of, ke_X12_of⟩
theorem kv_X12_copySheet_86 : x_LS MX12_copySheet 86 MX12_at 1 := ⟨⟨kc_X12_at.1, ⟨Nat.le_of_ble_eq_true rfl, Nat.le_of_ble_eq_true rfl⟩, kc_X12_at.2.1, kc_X12_at.2.2.1, kc_X12_at.2.2.2, rfl⟩, km_X12_86, kt_X12_at⟩
theorem kv_X12_copySheet_115 (n : Nat) (hn : n ≤ 8) : x_CP MX12_copySheet 115 n := ⟨km_X12_115, ks_copy.1, ks_copy.2.1, ks_copy.2.2, Nat.le_of_ble_eq_true rfl, Nat.le_trans (Nat.add_le_add_right hn _) (by decide +kernel)⟩
theorem kv_X12_heightOf_93 : x_LV MX12_heightOf 93 MX12_of 2 := ⟨⟨kc_X12_of.1, ⟨Nat.le_of_ble_eq_true rfl, Nat.le_of_ble_eq_true rfl⟩, kc_X12_of.2.1, kc_X12_of.2.2.1, kc_X12_of.2.2.2, rfl⟩, km_X12_93, kt_X12_of, ke_X12_of⟩
theorem kv_X12_heightOf_97 : x_LV MX12_heightOf 97 MX12_layer 2 := ⟨⟨kc_X12_layer.1, ⟨Nat.le_of_ble_eq_true rfl, Nat.le_of_ble_eq_true rfl⟩, kc_X12_layer.2.1, kc_X12_layer.2.2.1, kc_X12_layer.2.2.2, rfl⟩, km_X12_97, kt_X12_layer, ke_X12_layer⟩
theorem kv_X12_heightOf_121 : x_LS MX12_heightOf 121 MX12_sizeOf 1 := ⟨⟨kc_X12_sizeOf.1, ⟨Nat.le_of_ble_eq_true rfl, Nat.le_of_ble_eq_true rfl⟩, kc_X12_sizeOf.2.1, kc_X12_sizeOf.2.2.1, kc_X12_sizeOf.2.2.2, rfl⟩, km_X12_121, kt_X12_sizeOf⟩
theorem kv_X12_butterOf_93 : x_LV MX12_butterOf 93 MX12_of 2 := ⟨⟨kc_X12_of.1, ⟨Nat.le_of_ble_eq_true rfl, Nat.le_of_ble_eq_true rfl⟩, kc_X12_of.2.1, kc_X12_of.2.2.1, kc_X12_of.2.2.2, rfl⟩, km_X12_93, kt_X12_of, ke_X12_of⟩
theorem kv_X12_butterOf_97 : x_LV MX12_butterOf 97 MX12_layer 2 := ⟨⟨kc_X12_layer.1, ⟨Nat.le_of_ble_eq_true rfl, Nat.le_of_ble_eq_true rfl⟩, kc_X12_layer.2.1, kc_X12_layer.2.2.1, kc_X12_layer.2.2.2, rfl⟩, km_X12_97, kt_X12_layer, ke_X12_layer⟩
theorem kv_X12_countWith_124 : x_LV MX12_countWith 124 MX12_is 2 := ⟨⟨kc_X12_is.1, ⟨Nat.le_of_ble_eq_true rfl, Nat.le_of_ble_eq_true rfl⟩, kc_X12_is.2.1, kc_X12_is.2.2.1, kc_X12_is.2.2.2, rfl⟩, km_X12_124, kt_X12_is, ke_X12_is⟩
theorem kv_X12_greatest_93 : x_LV MX12_greatest 93 MX12_of 2 := ⟨⟨kc_X12_of.1, ⟨Nat.le_of_ble_eq_true rfl, Nat.le_of_ble_eq_true rfl⟩, kc_X12_of.2.1, kc_X12_of.2.2.1, kc_X12_of.2.2.2, rfl⟩, km_X12_93, kt_X12_of, ke_X12_of⟩
theorem kv_X12_warmestSheet_127 : x_LV MX12_warmestSheet 127 MX12_greatest 1 := ⟨⟨kc_X12_greatest.1, ⟨Nat.le_of_ble_eq_true rfl, Nat.le_of_ble_eq_true rfl⟩, kc_X12_greatest.2.1, kc_X12_greatest.2.2.1, kc_X12_greatest.2.2.2, rfl⟩, km_X12_127, kt_X12_greatest, ke_X12_greatest⟩
theorem kv_X12_finestSheet_127 : x_LV MX12_finestSheet 127 MX12_greatest 1 := ⟨⟨kc_X12_greatest.1, ⟨Nat.le_of_ble_eq_true rfl, Nat.le_of_ble_eq_true rfl⟩, kc_X12_greatest.2.1, kc_X12_greatest.2.2.1, kc_X12_greatest.2.2.2, rfl⟩, km_X12_127, kt_X12_greatest, ke_X12_greatest⟩
theorem kv_X12_told_111 : x_LV MX12_told 111 MX12_isSheet 1 := ⟨⟨kc_X12_isSheet.1, ⟨Nat.le_of_ble_eq_true rfl, Nat.le_of_ble_eq_true rfl⟩, kc_X12_isSheet.2.1, kc_X12_isSheet.2.2.1, kc_X12_isSheet.2.2.2, rfl⟩, km_X12_111, kt_X12_isSheet, ke_X12_isSheet⟩
theorem kv_X12_told_82 : x_LV MX12_told 82 MX12_lacks 1 := ⟨⟨kc_X12_lacks.1, ⟨Nat.le_of_ble_eq_true rfl, Nat.le_of_ble_eq_true rfl⟩, kc_X12_lacks.2.1, kc_X12_lacks.2.2.1, kc_X12_lacks.2.2.2, rfl⟩, km_X12_82, kt_X12_lacks, ke_X12_lacks⟩
theorem kv_X12_told_93 : x_LV MX12_told 93 MX12_of 2 := ⟨⟨kc_X12_of.1, ⟨Nat.le_of_ble_eq_true rfl, Nat.le_of_ble_eq_true rfl⟩, kc_X12_of.2.1, kc_X12_of.2.2.1, kc_X12_of.2.2.2, rfl⟩, km_X12_93, kt_X12_of, ke_X12_of⟩
theorem kv_X12_toldIs_111 : x_LV MX12_toldIs 111 MX12_isSheet 1 := ⟨⟨kc_X12_isSheet.1, ⟨Nat.le_of_ble_eq_true rfl, Nat.le_of_ble_eq_true rfl⟩, kc_X12_isSheet.2.1, kc_X12_isSheet.2.2.1, kc_X12_isSheet.2.2.2, rfl⟩, km_X12_111, kt_X12_isSheet, ke_X12_isSheet⟩
theorem kv_X12_toldIs_82 : x_LV MX12_toldIs 82 MX12_lacks 1 := ⟨⟨kc_X12_lacks.1, ⟨Nat.le_of_ble_eq_true rfl, Nat.le_of_ble_eq_true rfl⟩, kc_X12_lacks.2.1, kc_X12_lacks.2.2.1, kc_X12_lacks.2.2.2, rfl⟩, km_X12_82, kt_X12_lacks, ke_X12_lacks⟩
theorem kv_X12_toldIs_124 : x_LV MX12_toldIs 124 MX12_is 2 := ⟨⟨kc_X12_is.1, ⟨Nat.le_of_ble_eq_true rfl, Nat.le_of_ble_eq_true rfl⟩, kc_X12_is.2.1, kc_X12_is.2.2.1, kc_X12_is.2.2.2, rfl⟩, km_X12_124, kt_X12_is, ke_X12_is⟩
theorem kv_X12_layerCount_130 : x_LV MX12_layerCount 130 MX12_told 2 := ⟨⟨kc_X12_told.1, ⟨Nat.le_of_ble_eq_true rfl, Nat.le_of_ble_eq_true rfl⟩, kc_X12_told.2.1, kc_X12_told.2.2.1, kc_X12_told.2.2.2, rfl⟩, km_X12_130, kt_X12_told, ke_X12_told⟩
theorem kv_X12_butterLayerCount_111 : x_LV MX12_butterLayerCount 111 MX12_isSheet 1 := ⟨⟨kc_X12_isSheet.1, ⟨Nat.le_of_ble_eq_true rfl, Nat.le_of_ble_eq_true rfl⟩, kc_X12_isSheet.2.1, kc_X12_isSheet.2.2.1, kc_X12_isSheet.2.2.2, rfl⟩, km_X12_111, kt_X12_isSheet, ke_X12_isSheet⟩
theorem kv_X12_butterLayerCount_82 : x_LV MX12_butterLayerCount 82 MX12_lacks 1 := ⟨⟨kc_X12_lacks.1, ⟨Nat.le_of_ble_eq_true rfl, Nat.le_of_ble_eq_true rfl⟩, kc_X12_lacks.2.1, kc_X12_lacks.2.2.1, kc_X12_lacks.2.2.2, rfl⟩, km_X12_82, kt_X12_lacks, ke_X12_lacks⟩
theorem kv_X12_butterLayerCount_93 : x_LV MX12_butterLayerCount 93 MX12_of 2 := ⟨⟨kc_X12_of.1, ⟨Nat.le_of_ble_eq_true rfl, Nat.le_of_ble_eq_true rfl⟩, kc_X12_of.2.1, kc_X12_of.2.2.1, kc_X12_of.2.2.2, rfl⟩, km_X12_93, kt_X12_of, ke_X12_of⟩
theorem kv_X12_butterLayerCount_97 : x_LV MX12_butterLayerCount 97 MX12_layer 2 := ⟨⟨kc_X12_layer.1, ⟨Nat.le_of_ble_eq_true rfl, Nat.le_of_ble_eq_true rfl⟩, kc_X12_layer.2.1, kc_X12_layer.2.2.1, kc_X12_layer.2.2.2, rfl⟩, km_X12_97, kt_X12_layer, ke_X12_layer⟩
theorem kv_X12_isButter_133 : x_LV MX12_isButter 133 MX12_isLayer 2 := ⟨⟨kc_X12_isLayer.1, ⟨Nat.le_of_ble_eq_true rfl, Nat.le_of_ble_eq_true rfl⟩, kc_X12_isLayer.2.1, kc_X12_isLayer.2.2.1, kc_X12_isLayer.2.2.2, rfl⟩, km_X12_133, kt_X12_isLayer, ke_X12_isLayer⟩
theorem kv_X12_isButter_82 : x_LV MX12_isButter 82 MX12_lacks 1 := ⟨⟨kc_X12_lacks.1, ⟨Nat.le_of_ble_eq_true rfl, Nat.le_of_ble_eq_true rfl⟩, kc_X12_lacks.2.1, kc_X12_lacks.2.2.1, kc_X12_lacks.2.2.2, rfl⟩, km_X12_82, kt_X12_lacks, ke_X12_lacks⟩
theorem kv_X12_isButter_97 : x_LV MX12_isButter 97 MX12_layer 2 := ⟨⟨kc_X12_layer.1, ⟨Nat.le_of_ble_eq_true rfl, Nat.le_of_ble_eq_true rfl⟩, kc_X12_layer.2.1, kc_X12_layer.2.2.1, kc_X12_layer.2.2.2, rfl⟩, km_X12_97, kt_X12_layer, ke_X12_layer⟩
theorem kv_X12_thickness_133 : x_LV MX12_thickness 133 MX12_isLayer 2 := ⟨⟨kc_X12_isLayer.1, ⟨Nat.le_of_ble_eq_true rfl, Nat.le_of_ble_eq_true rfl⟩, kc_X12_isLayer.2.1, kc_X12_isLayer.2.2.1, kc_X12_isLayer.2.2.2, rfl⟩, km_X12_133, kt_X12_isLayer, ke_X12_isLayer⟩
theorem kv_X12_thickness_82 : x_LV MX12_thickness 82 MX12_lacks 1 := ⟨⟨kc_X12_lacks.1, ⟨Nat.le_of_ble_eq_true rfl, Nat.le_of_ble_eq_true rfl⟩, kc_X12_lacks.2.1, kc_X12_lacks.2.2.1, kc_X12_lacks.2.2.2, rfl⟩, km_X12_82, kt_X12_lacks, ke_X12_lacks⟩
theorem kv_X12_thickness_97 : x_LV MX12_thickness 97 MX12_layer 2 := ⟨⟨kc_X12_layer.1, ⟨Nat.le_of_ble_eq_true rfl, Nat.le_of_ble_eq_true rfl⟩, kc_X12_layer.2.1, kc_X12_layer.2.2.1, kc_X12_layer.2.2.2, rfl⟩, km_X12_97, kt_X12_layer, ke_X12_layer⟩
theorem kv_X12_thickness_121 : x_LS MX12_thickness 121 MX12_sizeOf 1 := ⟨⟨kc_X12_sizeOf.1, ⟨Nat.le_of_ble_eq_true rfl, Nat.le_of_ble_eq_true rfl⟩, kc_X12_sizeOf.2.1, kc_X12_sizeOf.2.2.1, kc_X12_sizeOf.2.2.2, rfl⟩, km_X12_121, kt_X12_sizeOf⟩
theorem kv_X12_height_111 : x_LV MX12_height 111 MX12_isSheet 1 := ⟨⟨kc_X12_isSheet.1, ⟨Nat.le_of_ble_eq_true rfl, Nat.le_of_ble_eq_true rfl⟩, kc_X12_isSheet.2.1, kc_X12_isSheet.2.2.1, kc_X12_isSheet.2.2.2, rfl⟩, km_X12_111, kt_X12_isSheet, ke_X12_isSheet⟩
theorem kv_X12_height_82 : x_LV MX12_height 82 MX12_lacks 1 := ⟨⟨kc_X12_lacks.1, ⟨Nat.le_of_ble_eq_true rfl, Nat.le_of_ble_eq_true rfl⟩, kc_X12_lacks.2.1, kc_X12_lacks.2.2.1, kc_X12_lacks.2.2.2, rfl⟩, km_X12_82, kt_X12_lacks, ke_X12_lacks⟩
theorem kv_X12_height_136 : x_LV MX12_height 136 MX12_heightOf 1 := ⟨⟨kc_X12_heightOf.1, ⟨Nat.le_of_ble_eq_true rfl, Nat.le_of_ble_eq_true rfl⟩, kc_X12_heightOf.2.1, kc_X12_heightOf.2.2.1, kc_X12_heightOf.2.2.2, rfl⟩, km_X12_136, kt_X12_heightOf, ke_X12_heightOf⟩
theorem kv_X12_butterHeight_111 : x_LV MX12_butterHeight 111 MX12_isSheet 1 := ⟨⟨kc_X12_isSheet.1, ⟨Nat.le_of_ble_eq_true rfl, Nat.le_of_ble_eq_true rfl⟩, kc_X12_isSheet.2.1, kc_X12_isSheet.2.2.1, kc_X12_isSheet.2.2.2, rfl⟩, km_X12_111, kt_X12_isSheet, ke_X12_isSheet⟩
theorem kv_X12_butterHeight_82 : x_LV MX12_butterHeight 82 MX12_lacks 1 := ⟨⟨kc_X12_lacks.1, ⟨Nat.le_of_ble_eq_true rfl, Nat.le_of_ble_eq_true rfl⟩, kc_X12_lacks.2.1, kc_X12_lacks.2.2.1, kc_X12_lacks.2.2.2, rfl⟩, km_X12_82, kt_X12_lacks, ke_X12_lacks⟩
theorem kv_X12_butterHeight_139 : x_LV MX12_butterHeight 139 MX12_butterOf 1 := ⟨⟨kc_X12_butterOf.1, ⟨Nat.le_of_ble_eq_true rfl, Nat.le_of_ble_eq_true rfl⟩, kc_X12_butterOf.2.1, kc_X12_butterOf.2.2.1, kc_X12_butterOf.2.2.2, rfl⟩, km_X12_139, kt_X12_butterOf, ke_X12_butterOf⟩
theorem kv_X12_extreme_93 : x_LV MX12_extreme 93 MX12_of 2 := ⟨⟨kc_X12_of.1, ⟨Nat.le_of_ble_eq_true rfl, Nat.le_of_ble_eq_true rfl⟩, kc_X12_of.2.1, kc_X12_of.2.2.1, kc_X12_of.2.2.2, rfl⟩, km_X12_93, kt_X12_of, ke_X12_of⟩
theorem kv_X12_extreme_97 : x_LV MX12_extreme 97 MX12_layer 2 := ⟨⟨kc_X12_layer.1, ⟨Nat.le_of_ble_eq_true rfl, Nat.le_of_ble_eq_true rfl⟩, kc_X12_layer.2.1, kc_X12_layer.2.2.1, kc_X12_layer.2.2.2, rfl⟩, km_X12_97, kt_X12_layer, ke_X12_layer⟩
theorem kv_X12_extreme_121 : x_LS MX12_extreme 121 MX12_sizeOf 1 := ⟨⟨kc_X12_sizeOf.1, ⟨Nat.le_of_ble_eq_true rfl, Nat.le_of_ble_eq_true rfl⟩, kc_X12_sizeOf.2.1, kc_X12_sizeOf.2.2.1, kc_X12_sizeOf.2.2.2, rfl⟩, km_X12_121, kt_X12_sizeOf⟩
theorem kv_X12_thinnestLayer_111 : x_LV MX12_thinnestLayer 111 MX12_isSheet 1 := ⟨⟨kc_X12_isSheet.1, ⟨Nat.le_of_ble_eq_true rfl, Nat.le_of_ble_eq_true rfl⟩, kc_X12_isSheet.2.1, kc_X12_isSheet.2.2.1, kc_X12_isSheet.2.2.2, rfl⟩, km_X12_111, kt_X12_isSheet, ke_X12_isSheet⟩
theorem kv_X12_thinnestLayer_82 : x_LV MX12_thinnestLayer 82 MX12_lacks 1 := ⟨⟨kc_X12_lacks.1, ⟨Nat.le_of_ble_eq_true rfl, Nat.le_of_ble_eq_true rfl⟩, kc_X12_lacks.2.1, kc_X12_lacks.2.2.1, kc_X12_lacks.2.2.2, rfl⟩, km_X12_82, kt_X12_lacks, ke_X12_lacks⟩
theorem kv_X12_thinnestLayer_142 : x_LV MX12_thinnestLayer 142 MX12_extreme 2 := ⟨⟨kc_X12_extreme.1, ⟨Nat.le_of_ble_eq_true rfl, Nat.le_of_ble_eq_true rfl⟩, kc_X12_extreme.2.1, kc_X12_extreme.2.2.1, kc_X12_extreme.2.2.2, rfl⟩, km_X12_142, kt_X12_extreme, ke_X12_extreme⟩
theorem kv_X12_thickestLayer_111 : x_LV MX12_thickestLayer 111 MX12_isSheet 1 := ⟨⟨kc_X12_isSheet.1, ⟨Nat.le_of_ble_eq_true rfl, Nat.le_of_ble_eq_true rfl⟩, kc_X12_isSheet.2.1, kc_X12_isSheet.2.2.1, kc_X12_isSheet.2.2.2, rfl⟩, km_X12_111, kt_X12_isSheet, ke_X12_isSheet⟩
theorem kv_X12_thickestLayer_82 : x_LV MX12_thickestLayer 82 MX12_lacks 1 := ⟨⟨kc_X12_lacks.1, ⟨Nat.le_of_ble_eq_true rfl, Nat.le_of_ble_eq_true rfl⟩, kc_X12_lacks.2.1, kc_X12_lacks.2.2.1, kc_X12_lacks.2.2.2, rfl⟩, km_X12_82, kt_X12_lacks, ke_X12_lacks⟩
theorem kv_X12_thickestLayer_142 : x_LV MX12_thickestLayer 142 MX12_extreme 2 := ⟨⟨kc_X12_extreme.1, ⟨Nat.le_of_ble_eq_true rfl, Nat.le_of_ble_eq_true rfl⟩, kc_X12_extreme.2.1, kc_X12_extreme.2.2.1, kc_X12_extreme.2.2.2, rfl⟩, km_X12_142, kt_X12_extreme, ke_X12_extreme⟩
theorem kv_X12_seamCount_111 : x_LV MX12_seamCount 111 MX12_isSheet 1 := ⟨⟨kc_X12_isSheet.1, ⟨Nat.le_of_ble_eq_true rfl, Nat.le_of_ble_eq_true rfl⟩, kc_X12_isSheet.2.1, kc_X12_isSheet.2.2.1, kc_X12_isSheet.2.2.2, rfl⟩, km_X12_111, kt_X12_isSheet, ke_X12_isSheet⟩
theorem kv_X12_seamCount_82 : x_LV MX12_seamCount 82 MX12_lacks 1 := ⟨⟨kc_X12_lacks.1, ⟨Nat.le_of_ble_eq_true rfl, Nat.le_of_ble_eq_true rfl⟩, kc_X12_lacks.2.1, kc_X12_lacks.2.2.1, kc_X12_lacks.2.2.2, rfl⟩, km_X12_82, kt_X12_lacks, ke_X12_lacks⟩
theorem kv_X12_seamCount_93 : x_LV MX12_seamCount 93 MX12_of 2 := ⟨⟨kc_X12_of.1, ⟨Nat.le_of_ble_eq_true rfl, Nat.le_of_ble_eq_true rfl⟩, kc_X12_of.2.1, kc_X12_of.2.2.1, kc_X12_of.2.2.2, rfl⟩, km_X12_93, kt_X12_of, ke_X12_of⟩
theorem kv_X12_seamCount_97 : x_LV MX12_seamCount 97 MX12_layer 2 := ⟨⟨kc_X12_layer.1, ⟨Nat.le_of_ble_eq_true rfl, Nat.le_of_ble_eq_true rfl⟩, kc_X12_layer.2.1, kc_X12_layer.2.2.1, kc_X12_layer.2.2.2, rfl⟩, km_X12_97, kt_X12_layer, ke_X12_layer⟩
theorem kv_X12_seamCount_100 : x_LS MX12_seamCount 100 MX12_areAlike 2 := ⟨⟨kc_X12_areAlike.1, ⟨Nat.le_of_ble_eq_true rfl, Nat.le_of_ble_eq_true rfl⟩, kc_X12_areAlike.2.1, kc_X12_areAlike.2.2.1, kc_X12_areAlike.2.2.2, rfl⟩, km_X12_100, kt_X12_areAlike⟩
theorem kv_X12_isSymmetric_111 : x_LV MX12_isSymmetric 111 MX12_isSheet 1 := ⟨⟨kc_X12_isSheet.1, ⟨Nat.le_of_ble_eq_true rfl, Nat.le_of_ble_eq_true rfl⟩, kc_X12_isSheet.2.1, kc_X12_isSheet.2.2.1, kc_X12_isSheet.2.2.2, rfl⟩, km_X12_111, kt_X12_isSheet, ke_X12_isSheet⟩
theorem kv_X12_isSymmetric_82 : x_LV MX12_isSymmetric 82 MX12_lacks 1 := ⟨⟨kc_X12_lacks.1, ⟨Nat.le_of_ble_eq_true rfl, Nat.le_of_ble_eq_true rfl⟩, kc_X12_lacks.2.1, kc_X12_lacks.2.2.1, kc_X12_lacks.2.2.2, rfl⟩, km_X12_82, kt_X12_lacks, ke_X12_lacks⟩
theorem kv_X12_isSymmetric_93 : x_LV MX12_isSymmetric 93 MX12_of 2 := ⟨⟨kc_X12_of.1, ⟨Nat.le_of_ble_eq_true rfl, Nat.le_of_ble_eq_true rfl⟩, kc_X12_of.2.1, kc_X12_of.2.2.1, kc_X12_of.2.2.2, rfl⟩, km_X12_93, kt_X12_of, ke_X12_of⟩
theorem kv_X12_isSymmetric_97 : x_LV MX12_isSymmetric 97 MX12_layer 2 := ⟨⟨kc_X12_layer.1, ⟨Nat.le_of_ble_eq_true rfl, Nat.le_of_ble_eq_true rfl⟩, kc_X12_layer.2.1, kc_X12_layer.2.2.1, kc_X12_layer.2.2.2, rfl⟩, km_X12_97, kt_X12_layer, ke_X12_layer⟩
theorem kv_X12_temperature_130 : x_LV MX12_temperature 130 MX12_told 2 := ⟨⟨kc_X12_told.1, ⟨Nat.le_of_ble_eq_true rfl, Nat.le_of_ble_eq_true rfl⟩, kc_X12_told.2.1, kc_X12_told.2.2.1, kc_X12_told.2.2.2, rfl⟩, km_X12_130, kt_X12_told, ke_X12_told⟩
theorem kv_X12_isDusted_145 : x_LV MX12_isDusted 145 MX12_toldIs 2 := ⟨⟨kc_X12_toldIs.1, ⟨Nat.le_of_ble_eq_true rfl, Nat.le_of_ble_eq_true rfl⟩, kc_X12_toldIs.2.1, kc_X12_toldIs.2.2.1, kc_X12_toldIs.2.2.2, rfl⟩, km_X12_145, kt_X12_toldIs, ke_X12_toldIs⟩
theorem kv_X12_isSealed_145 : x_LV MX12_isSealed 145 MX12_toldIs 2 := ⟨⟨kc_X12_toldIs.1, ⟨Nat.le_of_ble_eq_true rfl, Nat.le_of_ble_eq_true rfl⟩, kc_X12_toldIs.2.1, kc_X12_toldIs.2.2.1, kc_X12_toldIs.2.2.2, rfl⟩, km_X12_145, kt_X12_toldIs, ke_X12_toldIs⟩
theorem kv_X12_isCooling_145 : x_LV MX12_isCooling 145 MX12_toldIs 2 := ⟨⟨kc_X12_toldIs.1, ⟨Nat.le_of_ble_eq_true rfl, Nat.le_of_ble_eq_true rfl⟩, kc_X12_toldIs.2.1, kc_X12_toldIs.2.2.1, kc_X12_toldIs.2.2.2, rfl⟩, km_X12_145, kt_X12_toldIs, ke_X12_toldIs⟩
theorem kv_X12_foldCount_130 : x_LV MX12_foldCount 130 MX12_told 2 := ⟨⟨kc_X12_told.1, ⟨Nat.le_of_ble_eq_true rfl, Nat.le_of_ble_eq_true rfl⟩, kc_X12_told.2.1, kc_X12_told.2.2.1, kc_X12_told.2.2.2, rfl⟩, km_X12_130, kt_X12_told, ke_X12_told⟩
theorem kv_X12_expectedLayers_130 : x_LV MX12_expectedLayers 130 MX12_told 2 := ⟨⟨kc_X12_told.1, ⟨Nat.le_of_ble_eq_true rfl, Nat.le_of_ble_eq_true rfl⟩, kc_X12_told.2.1, kc_X12_told.2.2.1, kc_X12_told.2.2.2, rfl⟩, km_X12_130, kt_X12_told, ke_X12_told⟩
theorem kv_X12_butterShare_111 : x_LV MX12_butterShare 111 MX12_isSheet 1 := ⟨⟨kc_X12_isSheet.1, ⟨Nat.le_of_ble_eq_true rfl, Nat.le_of_ble_eq_true rfl⟩, kc_X12_isSheet.2.1, kc_X12_isSheet.2.2.1, kc_X12_isSheet.2.2.2, rfl⟩, km_X12_111, kt_X12_isSheet, ke_X12_isSheet⟩
theorem kv_X12_butterShare_82 : x_LV MX12_butterShare 82 MX12_lacks 1 := ⟨⟨kc_X12_lacks.1, ⟨Nat.le_of_ble_eq_true rfl, Nat.le_of_ble_eq_true rfl⟩, kc_X12_lacks.2.1, kc_X12_lacks.2.2.1, kc_X12_lacks.2.2.2, rfl⟩, km_X12_82, kt_X12_lacks, ke_X12_lacks⟩
theorem kv_X12_butterShare_139 : x_LV MX12_butterShare 139 MX12_butterOf 1 := ⟨⟨kc_X12_butterOf.1, ⟨Nat.le_of_ble_eq_true rfl, Nat.le_of_ble_eq_true rfl⟩, kc_X12_butterOf.2.1, kc_X12_butterOf.2.2.1, kc_X12_butterOf.2.2.2, rfl⟩, km_X12_139, kt_X12_butterOf, ke_X12_butterOf⟩
theorem kv_X12_butterShare_136 : x_LV MX12_butterShare 136 MX12_heightOf 1 := ⟨⟨kc_X12_heightOf.1, ⟨Nat.le_of_ble_eq_true rfl, Nat.le_of_ble_eq_true rfl⟩, kc_X12_heightOf.2.1, kc_X12_heightOf.2.2.1, kc_X12_heightOf.2.2.2, rfl⟩, km_X12_136, kt_X12_heightOf, ke_X12_heightOf⟩
theorem kv_X12_meanThickness_111 : x_LV MX12_meanThickness 111 MX12_isSheet 1 := ⟨⟨kc_X12_isSheet.1, ⟨Nat.le_of_ble_eq_true rfl, Nat.le_of_ble_eq_true rfl⟩, kc_X12_isSheet.2.1, kc_X12_isSheet.2.2.1, kc_X12_isSheet.2.2.2, rfl⟩, km_X12_111, kt_X12_isSheet, ke_X12_isSheet⟩
theorem kv_X12_meanThickness_82 : x_LV MX12_meanThickness 82 MX12_lacks 1 := ⟨⟨kc_X12_lacks.1, ⟨Nat.le_of_ble_eq_true rfl, Nat.le_of_ble_eq_true rfl⟩, kc_X12_lacks.2.1, kc_X12_lacks.2.2.1, kc_X12_lacks.2.2.2, rfl⟩, km_X12_82, kt_X12_lacks, ke_X12_lacks⟩
theorem kv_X12_meanThickness_136 : x_LV MX12_meanThickness 136 MX12_heightOf 1 := ⟨⟨kc_X12_heightOf.1, ⟨Nat.le_of_ble_eq_true rfl, Nat.le_of_ble_eq_true rfl⟩, kc_X12_heightOf.2.1, kc_X12_heightOf.2.2.1, kc_X12_heightOf.2.2.2, rfl⟩, km_X12_136, kt_X12_heightOf, ke_X12_heightOf⟩
theorem kv_X12_meanThickness_93 : x_LV MX12_meanThickness 93 MX12_of 2 := ⟨⟨kc_X12_of.1, ⟨Nat.le_of_ble_eq_true rfl, Nat.le_of_ble_eq_true rfl⟩, kc_X12_of.2.1, kc_X12_of.2.2.1, kc_X12_of.2.2.2, rfl⟩, km_X12_93, kt_X12_of, ke_X12_of⟩
theorem kv_X12_whyNotFold_124 : x_LV MX12_whyNotFold 124 MX12_is 2 := ⟨⟨kc_X12_is.1, ⟨Nat.le_of_ble_eq_true rfl, Nat.le_of_ble_eq_true rfl⟩, kc_X12_is.2.1, kc_X12_is.2.2.1, kc_X12_is.2.2.2, rfl⟩, km_X12_124, kt_X12_is, ke_X12_is⟩
theorem kv_X12_whyNotFold_93 : x_LV MX12_whyNotFold 93 MX12_of 2 := ⟨⟨kc_X12_of.1, ⟨Nat.le_of_ble_eq_true rfl, Nat.le_of_ble_eq_true rfl⟩, kc_X12_of.2.1, kc_X12_of.2.2.1, kc_X12_of.2.2.2, rfl⟩, km_X12_93, kt_X12_of, ke_X12_of⟩
theorem kv_X12_whyNotFold_148 : x_LS MX12_whyNotFold 148 MX12_foldedLayers 3 := ⟨⟨kc_X12_foldedLayers.1, ⟨Nat.le_of_ble_eq_true rfl, Nat.le_of_ble_eq_true rfl⟩, kc_X12_foldedLayers.2.1, kc_X12_foldedLayers.2.2.1, kc_X12_foldedLayers.2.2.2, rfl⟩, km_X12_148, kt_X12_foldedLayers⟩
theorem kv_X12_whyNotFold_136 : x_LV MX12_whyNotFold 136 MX12_heightOf 1 := ⟨⟨kc_X12_heightOf.1, ⟨Nat.le_of_ble_eq_true rfl, Nat.le_of_ble_eq_true rfl⟩, kc_X12_heightOf.2.1, kc_X12_heightOf.2.2.1, kc_X12_heightOf.2.2.2, rfl⟩, km_X12_136, kt_X12_heightOf, ke_X12_heightOf⟩
theorem kv_X12_areParts_107 : x_LS MX12_areParts 107 MX12_inRange 3 := ⟨⟨kc_X12_inRange.1, ⟨Nat.le_of_ble_eq_true rfl, Nat.le_of_ble_eq_true rfl⟩, kc_X12_inRange.2.1, kc_X12_inRange.2.2.1, kc_X12_inRange.2.2.2, rfl⟩, km_X12_107, kt_X12_inRange⟩
theorem kv_X12_lacksParts_111 : x_LV MX12_lacksParts 111 MX12_isSheet 1 := ⟨⟨kc_X12_isSheet.1, ⟨Nat.le_of_ble_eq_true rfl, Nat.le_of_ble_eq_true rfl⟩, kc_X12_isSheet.2.1, kc_X12_isSheet.2.2.1, kc_X12_isSheet.2.2.2, rfl⟩, km_X12_111, kt_X12_isSheet, ke_X12_isSheet⟩
theorem kv_X12_lacksParts_152 : x_LS MX12_lacksParts 152 MX12_areParts 1 := ⟨⟨kc_X12_areParts.1, ⟨Nat.le_of_ble_eq_true rfl, Nat.le_of_ble_eq_true rfl⟩, kc_X12_areParts.2.1, kc_X12_areParts.2.2.1, kc_X12_areParts.2.2.2, rfl⟩, km_X12_152, kt_X12_areParts⟩
theorem kv_X12_lacksParts_155 : x_LV MX12_lacksParts 155 MX12_lacksBoth 2 := ⟨⟨kc_X12_lacksBoth.1, ⟨Nat.le_of_ble_eq_true rfl, Nat.le_of_ble_eq_true rfl⟩, kc_X12_lacksBoth.2.1, kc_X12_lacksBoth.2.2.1, kc_X12_lacksBoth.2.2.2, rfl⟩, km_X12_155, kt_X12_lacksBoth, ke_X12_lacksBoth⟩
theorem kv_X12_foldObstacle_159 : x_LV MX12_foldObstacle 159 MX12_lacksParts 2 := ⟨⟨kc_X12_lacksParts.1, ⟨Nat.le_of_ble_eq_true rfl, Nat.le_of_ble_eq_true rfl⟩, kc_X12_lacksParts.2.1, kc_X12_lacksParts.2.2.1, kc_X12_lacksParts.2.2.2, rfl⟩, km_X12_159, kt_X12_lacksParts, ke_X12_lacksParts⟩
theorem kv_X12_foldObstacle_162 : x_LV MX12_foldObstacle 162 MX12_whyNotFold 2 := ⟨⟨kc_X12_whyNotFold.1, ⟨Nat.le_of_ble_eq_true rfl, Nat.le_of_ble_eq_true rfl⟩, kc_X12_whyNotFold.2.1, kc_X12_whyNotFold.2.2.1, kc_X12_whyNotFold.2.2.2, rfl⟩, km_X12_162, kt_X12_whyNotFold, ke_X12_whyNotFold⟩
theorem kv_X12_layersAfterFold_159 : x_LV MX12_layersAfterFold 159 MX12_lacksParts 2 := ⟨⟨kc_X12_lacksParts.1, ⟨Nat.le_of_ble_eq_true rfl, Nat.le_of_ble_eq_true rfl⟩, kc_X12_lacksParts.2.1, kc_X12_lacksParts.2.2.1, kc_X12_lacksParts.2.2.2, rfl⟩, km_X12_159, kt_X12_lacksParts, ke_X12_lacksParts⟩
theorem kv_X12_layersAfterFold_162 : x_LV MX12_layersAfterFold 162 MX12_whyNotFold 2 := ⟨⟨kc_X12_whyNotFold.1, ⟨Nat.le_of_ble_eq_true rfl, Nat.le_of_ble_eq_true rfl⟩, kc_X12_whyNotFold.2.1, kc_X12_whyNotFold.2.2.1, kc_X12_whyNotFold.2.2.2, rfl⟩, km_X12_162, kt_X12_whyNotFold, ke_X12_whyNotFold⟩
theorem kv_X12_layersAfterFold_93 : x_LV MX12_layersAfterFold 93 MX12_of 2 := ⟨⟨kc_X12_of.1, ⟨Nat.le_of_ble_eq_true rfl, Nat.le_of_ble_eq_true rfl⟩, kc_X12_of.2.1, kc_X12_of.2.2.1, kc_X12_of.2.2.2, rfl⟩, km_X12_93, kt_X12_of, ke_X12_of⟩
theorem kv_X12_layersAfterFold_124 : x_LV MX12_layersAfterFold 124 MX12_is 2 := ⟨⟨kc_X12_is.1, ⟨Nat.le_of_ble_eq_true rfl, Nat.le_of_ble_eq_true rfl⟩, kc_X12_is.2.1, kc_X12_is.2.2.1, kc_X12_is.2.2.2, rfl⟩, km_X12_124, kt_X12_is, ke_X12_is⟩
theorem kv_X12_layersAfterFold_148 : x_LS MX12_layersAfterFold 148 MX12_foldedLayers 3 := ⟨⟨kc_X12_foldedLayers.1, ⟨Nat.le_of_ble_eq_true rfl, Nat.le_of_ble_eq_true rfl⟩, kc_X12_foldedLayers.2.1, kc_X12_foldedLayers.2.2.1, kc_X12_foldedLayers.2.2.2, rfl⟩, km_X12_148, kt_X12_foldedLayers⟩
theorem kv_X12_foldsPossible_159 : x_LV MX12_foldsPossible 159 MX12_lacksParts 2 := ⟨⟨kc_X12_lacksParts.1, ⟨Nat.le_of_ble_eq_true rfl, Nat.le_of_ble_eq_true rfl⟩, kc_X12_lacksParts.2.1, kc_X12_lacksParts.2.2.1, kc_X12_lacksParts.2.2.2, rfl⟩, km_X12_159, kt_X12_lacksParts, ke_X12_lacksParts⟩
theorem kv_X12_foldsPossible_124 : x_LV MX12_foldsPossible 124 MX12_is 2 := ⟨⟨kc_X12_is.1, ⟨Nat.le_of_ble_eq_true rfl, Nat.le_of_ble_eq_true rfl⟩, kc_X12_is.2.1, kc_X12_is.2.2.1, kc_X12_is.2.2.2, rfl⟩, km_X12_124, kt_X12_is, ke_X12_is⟩
theorem kv_X12_foldsPossible_93 : x_LV MX12_foldsPossible 93 MX12_of 2 := ⟨⟨kc_X12_of.1, ⟨Nat.le_of_ble_eq_true rfl, Nat.le_of_ble_eq_true rfl⟩, kc_X12_of.2.1, kc_X12_of.2.2.1, kc_X12_of.2.2.2, rfl⟩, km_X12_93, kt_X12_of, ke_X12_of⟩
theorem kv_X12_foldsPossible_148 : x_LS MX12_foldsPossible 148 MX12_foldedLayers 3 := ⟨⟨kc_X12_foldedLayers.1, ⟨Nat.le_of_ble_eq_true rfl, Nat.le_of_ble_eq_true rfl⟩, kc_X12_foldedLayers.2.1, kc_X12_foldedLayers.2.2.1, kc_X12_foldedLayers.2.2.2, rfl⟩, km_X12_148, kt_X12_foldedLayers⟩
theorem kv_X12_foldsPossible_136 : x_LV MX12_foldsPossible 136 MX12_heightOf 1 := ⟨⟨kc_X12_heightOf.1, ⟨Nat.le_of_ble_eq_true rfl, Nat.le_of_ble_eq_true rfl⟩, kc_X12_heightOf.2.1, kc_X12_heightOf.2.2.1, kc_X12_heightOf.2.2.2, rfl⟩, km_X12_136, kt_X12_heightOf, ke_X12_heightOf⟩
theorem kv_X12_warm_93 : x_LV MX12_warm 93 MX12_of 2 := ⟨⟨kc_X12_of.1, ⟨Nat.le_of_ble_eq_true rfl, Nat.le_of_ble_eq_true rfl⟩, kc_X12_of.2.1, kc_X12_of.2.2.1, kc_X12_of.2.2.2, rfl⟩, km_X12_93, kt_X12_of, ke_X12_of⟩
theorem kv_X12_warm_165 : x_LS MX12_warm 165 MX12_least 2 := ⟨⟨kc_X12_least.1, ⟨Nat.le_of_ble_eq_true rfl, Nat.le_of_ble_eq_true rfl⟩, kc_X12_least.2.1, kc_X12_least.2.2.1, kc_X12_least.2.2.2, rfl⟩, km_X12_165, kt_X12_least⟩
theorem kv_X12_warm_90 : x_LV MX12_warm 90 MX12_lay 3 := ⟨⟨kc_X12_lay.1, ⟨Nat.le_of_ble_eq_true rfl, Nat.le_of_ble_eq_true rfl⟩, kc_X12_lay.2.1, kc_X12_lay.2.2.1, kc_X12_lay.2.2.2, rfl⟩, km_X12_90, kt_X12_lay, ke_X12_lay⟩
theorem kv_X12_foldUp_168 : x_LV MX12_foldUp 168 MX12_copySheet 2 := ⟨⟨kc_X12_copySheet.1, ⟨Nat.le_of_ble_eq_true rfl, Nat.le_of_ble_eq_true rfl⟩, kc_X12_copySheet.2.1, kc_X12_copySheet.2.2.1, kc_X12_copySheet.2.2.2, rfl⟩, km_X12_168, kt_X12_copySheet, ke_X12_copySheet⟩
theorem kv_X12_foldUp_124 : x_LV MX12_foldUp 124 MX12_is 2 := ⟨⟨kc_X12_is.1, ⟨Nat.le_of_ble_eq_true rfl, Nat.le_of_ble_eq_true rfl⟩, kc_X12_is.2.1, kc_X12_is.2.2.1, kc_X12_is.2.2.2, rfl⟩, km_X12_124, kt_X12_is, ke_X12_is⟩
theorem kv_X12_foldUp_93 : x_LV MX12_foldUp 93 MX12_of 2 := ⟨⟨kc_X12_of.1, ⟨Nat.le_of_ble_eq_true rfl, Nat.le_of_ble_eq_true rfl⟩, kc_X12_of.2.1, kc_X12_of.2.2.1, kc_X12_of.2.2.2, rfl⟩, km_X12_93, kt_X12_of, ke_X12_of⟩
theorem kv_X12_foldUp_90 : x_LV MX12_foldUp 90 MX12_lay 3 := ⟨⟨kc_X12_lay.1, ⟨Nat.le_of_ble_eq_true rfl, Nat.le_of_ble_eq_true rfl⟩, kc_X12_lay.2.1, kc_X12_lay.2.2.1, kc_X12_lay.2.2.2, rfl⟩, km_X12_90, kt_X12_lay, ke_X12_lay⟩
theorem kv_X12_foldUp_97 : x_LV MX12_foldUp 97 MX12_layer 2 := ⟨⟨kc_X12_layer.1, ⟨Nat.le_of_ble_eq_true rfl, Nat.le_of_ble_eq_true rfl⟩, kc_X12_layer.2.1, kc_X12_layer.2.2.1, kc_X12_layer.2.2.2, rfl⟩, km_X12_97, kt_X12_layer, ke_X12_layer⟩
theorem kv_X12_foldUp_171 : x_LV MX12_foldUp 171 MX12_putLayer 3 := ⟨⟨kc_X12_putLayer.1, ⟨Nat.le_of_ble_eq_true rfl, Nat.le_of_ble_eq_true rfl⟩, kc_X12_putLayer.2.1, kc_X12_putLayer.2.2.1, kc_X12_putLayer.2.2.2, rfl⟩, km_X12_171, kt_X12_putLayer, ke_X12_putLayer⟩
theorem kv_X12_foldUp_175 : x_LV MX12_foldUp 175 MX12_warm 1 := ⟨⟨kc_X12_warm.1, ⟨Nat.le_of_ble_eq_true rfl, Nat.le_of_ble_eq_true rfl⟩, kc_X12_warm.2.1, kc_X12_warm.2.2.1, kc_X12_warm.2.2.2, rfl⟩, km_X12_175, kt_X12_warm, ke_X12_warm⟩
theorem kv_X12_escapes_124 : x_LV MX12_escapes 124 MX12_is 2 := ⟨⟨kc_X12_is.1, ⟨Nat.le_of_ble_eq_true rfl, Nat.le_of_ble_eq_true rfl⟩, kc_X12_is.2.1, kc_X12_is.2.2.1, kc_X12_is.2.2.2, rfl⟩, km_X12_124, kt_X12_is, ke_X12_is⟩
theorem kv_X12_escapes_93 : x_LV MX12_escapes 93 MX12_of 2 := ⟨⟨kc_X12_of.1, ⟨Nat.le_of_ble_eq_true rfl, Nat.le_of_ble_eq_true rfl⟩, kc_X12_of.2.1, kc_X12_of.2.2.1, kc_X12_of.2.2.2, rfl⟩, km_X12_93, kt_X12_of, ke_X12_of⟩
theorem kv_X12_escapes_179 : x_LS MX12_escapes 179 MX12_most 2 := ⟨⟨kc_X12_most.1, ⟨Nat.le_of_ble_eq_true rfl, Nat.le_of_ble_eq_true rfl⟩, kc_X12_most.2.1, kc_X12_most.2.2.1, kc_X12_most.2.2.2, rfl⟩, km_X12_179, kt_X12_most⟩
theorem kv_X12_rollOut_182 : x_LV MX12_rollOut 182 MX12_escapes 1 := ⟨⟨kc_X12_escapes.1, ⟨Nat.le_of_ble_eq_true rfl, Nat.le_of_ble_eq_true rfl⟩, kc_X12_escapes.2.1, kc_X12_escapes.2.2.1, kc_X12_escapes.2.2.2, rfl⟩, km_X12_182, kt_X12_escapes, ke_X12_escapes⟩
theorem kv_X12_rollOut_90 : x_LV MX12_rollOut 90 MX12_lay 3 := ⟨⟨kc_X12_lay.1, ⟨Nat.le_of_ble_eq_true rfl, Nat.le_of_ble_eq_true rfl⟩, kc_X12_lay.2.1, kc_X12_lay.2.2.1, kc_X12_lay.2.2.2, rfl⟩, km_X12_90, kt_X12_lay, ke_X12_lay⟩
theorem kv_X12_rollOut_93 : x_LV MX12_rollOut 93 MX12_of 2 := ⟨⟨kc_X12_of.1, ⟨Nat.le_of_ble_eq_true rfl, Nat.le_of_ble_eq_true rfl⟩, kc_X12_of.2.1, kc_X12_of.2.2.1, kc_X12_of.2.2.2, rfl⟩, km_X12_93, kt_X12_of, ke_X12_of⟩
theorem kv_X12_rollOut_97 : x_LV MX12_rollOut 97 MX12_layer 2 := ⟨⟨kc_X12_layer.1, ⟨Nat.le_of_ble_eq_true rfl, Nat.le_of_ble_eq_true rfl⟩, kc_X12_layer.2.1, kc_X12_layer.2.2.1, kc_X12_layer.2.2.2, rfl⟩, km_X12_97, kt_X12_layer, ke_X12_layer⟩
theorem kv_X12_rollOut_165 : x_LS MX12_rollOut 165 MX12_least 2 := ⟨⟨kc_X12_least.1, ⟨Nat.le_of_ble_eq_true rfl, Nat.le_of_ble_eq_true rfl⟩, kc_X12_least.2.1, kc_X12_least.2.2.1, kc_X12_least.2.2.2, rfl⟩, km_X12_165, kt_X12_least⟩
theorem kv_X12_rollOut_121 : x_LS MX12_rollOut 121 MX12_sizeOf 1 := ⟨⟨kc_X12_sizeOf.1, ⟨Nat.le_of_ble_eq_true rfl, Nat.le_of_ble_eq_true rfl⟩, kc_X12_sizeOf.2.1, kc_X12_sizeOf.2.2.1, kc_X12_sizeOf.2.2.2, rfl⟩, km_X12_121, kt_X12_sizeOf⟩
theorem kv_X12_rollOut_179 : x_LS MX12_rollOut 179 MX12_most 2 := ⟨⟨kc_X12_most.1, ⟨Nat.le_of_ble_eq_true rfl, Nat.le_of_ble_eq_true rfl⟩, kc_X12_most.2.1, kc_X12_most.2.2.1, kc_X12_most.2.2.2, rfl⟩, km_X12_179, kt_X12_most⟩
theorem kv_X12_rollOut_171 : x_LV MX12_rollOut 171 MX12_putLayer 3 := ⟨⟨kc_X12_putLayer.1, ⟨Nat.le_of_ble_eq_true rfl, Nat.le_of_ble_eq_true rfl⟩, kc_X12_putLayer.2.1, kc_X12_putLayer.2.2.1, kc_X12_putLayer.2.2.2, rfl⟩, km_X12_171, kt_X12_putLayer, ke_X12_putLayer⟩
theorem kv_X12_butterAtRisk_111 : x_LV MX12_butterAtRisk 111 MX12_isSheet 1 := ⟨⟨kc_X12_isSheet.1, ⟨Nat.le_of_ble_eq_true rfl, Nat.le_of_ble_eq_true rfl⟩, kc_X12_isSheet.2.1, kc_X12_isSheet.2.2.1, kc_X12_isSheet.2.2.2, rfl⟩, km_X12_111, kt_X12_isSheet, ke_X12_isSheet⟩
theorem kv_X12_butterAtRisk_82 : x_LV MX12_butterAtRisk 82 MX12_lacks 1 := ⟨⟨kc_X12_lacks.1, ⟨Nat.le_of_ble_eq_true rfl, Nat.le_of_ble_eq_true rfl⟩, kc_X12_lacks.2.1, kc_X12_lacks.2.2.1, kc_X12_lacks.2.2.2, rfl⟩, km_X12_82, kt_X12_lacks, ke_X12_lacks⟩
theorem kv_X12_butterAtRisk_191 : x_LV MX12_butterAtRisk 191 MX12_rollOut 2 := ⟨⟨kc_X12_rollOut.1, ⟨Nat.le_of_ble_eq_true rfl, Nat.le_of_ble_eq_true rfl⟩, kc_X12_rollOut.2.1, kc_X12_rollOut.2.2.1, kc_X12_rollOut.2.2.2, rfl⟩, km_X12_191, kt_X12_rollOut, ke_X12_rollOut⟩
theorem kv_X12_layersAtRisk_159 : x_LV MX12_layersAtRisk 159 MX12_lacksParts 2 := ⟨⟨kc_X12_lacksParts.1, ⟨Nat.le_of_ble_eq_true rfl, Nat.le_of_ble_eq_true rfl⟩, kc_X12_lacksParts.2.1, kc_X12_lacksParts.2.2.1, kc_X12_lacksParts.2.2.2, rfl⟩, km_X12_159, kt_X12_lacksParts, ke_X12_lacksParts⟩
theorem kv_X12_layersAtRisk_191 : x_LV MX12_layersAtRisk 191 MX12_rollOut 2 := ⟨⟨kc_X12_rollOut.1, ⟨Nat.le_of_ble_eq_true rfl, Nat.le_of_ble_eq_true rfl⟩, kc_X12_rollOut.2.1, kc_X12_rollOut.2.2.1, kc_X12_rollOut.2.2.2, rfl⟩, km_X12_191, kt_X12_rollOut, ke_X12_rollOut⟩
theorem kv_X12_heightAfterRoll_159 : x_LV MX12_heightAfterRoll 159 MX12_lacksParts 2 := ⟨⟨kc_X12_lacksParts.1, ⟨Nat.le_of_ble_eq_true rfl, Nat.le_of_ble_eq_true rfl⟩, kc_X12_lacksParts.2.1, kc_X12_lacksParts.2.2.1, kc_X12_lacksParts.2.2.2, rfl⟩, km_X12_159, kt_X12_lacksParts, ke_X12_lacksParts⟩
theorem kv_X12_heightAfterRoll_191 : x_LV MX12_heightAfterRoll 191 MX12_rollOut 2 := ⟨⟨kc_X12_rollOut.1, ⟨Nat.le_of_ble_eq_true rfl, Nat.le_of_ble_eq_true rfl⟩, kc_X12_rollOut.2.1, kc_X12_rollOut.2.2.1, kc_X12_rollOut.2.2.2, rfl⟩, km_X12_191, kt_X12_rollOut, ke_X12_rollOut⟩
theorem kv_X12_heightAfterRoll_136 : x_LV MX12_heightAfterRoll 136 MX12_heightOf 1 := ⟨⟨kc_X12_heightOf.1, ⟨Nat.le_of_ble_eq_true rfl, Nat.le_of_ble_eq_true rfl⟩, kc_X12_heightOf.2.1, kc_X12_heightOf.2.2.1, kc_X12_heightOf.2.2.2, rfl⟩, km_X12_136, kt_X12_heightOf, ke_X12_heightOf⟩
theorem kv_X12_cooled_179 : x_LS MX12_cooled 179 MX12_most 2 := ⟨⟨kc_X12_most.1, ⟨Nat.le_of_ble_eq_true rfl, Nat.le_of_ble_eq_true rfl⟩, kc_X12_most.2.1, kc_X12_most.2.2.1, kc_X12_most.2.2.2, rfl⟩, km_X12_179, kt_X12_most⟩
theorem kv_X12_later_194 : x_LS MX12_later 194 MX12_cooled 1 := ⟨⟨kc_X12_cooled.1, ⟨Nat.le_of_ble_eq_true rfl, Nat.le_of_ble_eq_true rfl⟩, kc_X12_cooled.2.1, kc_X12_cooled.2.2.1, kc_X12_cooled.2.2.2, rfl⟩, km_X12_194, kt_X12_cooled⟩
theorem kv_X12_temperatureAfter_111 : x_LV MX12_temperatureAfter 111 MX12_isSheet 1 := ⟨⟨kc_X12_isSheet.1, ⟨Nat.le_of_ble_eq_true rfl, Nat.le_of_ble_eq_true rfl⟩, kc_X12_isSheet.2.1, kc_X12_isSheet.2.2.1, kc_X12_isSheet.2.2.2, rfl⟩, km_X12_111, kt_X12_isSheet, ke_X12_isSheet⟩
theorem kv_X12_temperatureAfter_107 : x_LS MX12_temperatureAfter 107 MX12_inRange 3 := ⟨⟨kc_X12_inRange.1, ⟨Nat.le_of_ble_eq_true rfl, Nat.le_of_ble_eq_true rfl⟩, kc_X12_inRange.2.1, kc_X12_inRange.2.2.1, kc_X12_inRange.2.2.2, rfl⟩, km_X12_107, kt_X12_inRange⟩
theorem kv_X12_temperatureAfter_155 : x_LV MX12_temperatureAfter 155 MX12_lacksBoth 2 := ⟨⟨kc_X12_lacksBoth.1, ⟨Nat.le_of_ble_eq_true rfl, Nat.le_of_ble_eq_true rfl⟩, kc_X12_lacksBoth.2.1, kc_X12_lacksBoth.2.2.1, kc_X12_lacksBoth.2.2.2, rfl⟩, km_X12_155, kt_X12_lacksBoth, ke_X12_lacksBoth⟩
theorem kv_X12_temperatureAfter_93 : x_LV MX12_temperatureAfter 93 MX12_of 2 := ⟨⟨kc_X12_of.1, ⟨Nat.le_of_ble_eq_true rfl, Nat.le_of_ble_eq_true rfl⟩, kc_X12_of.2.1, kc_X12_of.2.2.1, kc_X12_of.2.2.2, rfl⟩, km_X12_93, kt_X12_of, ke_X12_of⟩
theorem kv_X12_temperatureAfter_124 : x_LV MX12_temperatureAfter 124 MX12_is 2 := ⟨⟨kc_X12_is.1, ⟨Nat.le_of_ble_eq_true rfl, Nat.le_of_ble_eq_true rfl⟩, kc_X12_is.2.1, kc_X12_is.2.2.1, kc_X12_is.2.2.2, rfl⟩, km_X12_124, kt_X12_is, ke_X12_is⟩
theorem kv_X12_temperatureAfter_197 : x_LV MX12_temperatureAfter 197 MX12_later 2 := ⟨⟨kc_X12_later.1, ⟨Nat.le_of_ble_eq_true rfl, Nat.le_of_ble_eq_true rfl⟩, kc_X12_later.2.1, kc_X12_later.2.2.1, kc_X12_later.2.2.2, rfl⟩, km_X12_197, kt_X12_later, ke_X12_later⟩
theorem kv_X12_hoursToSafety_111 : x_LV MX12_hoursToSafety 111 MX12_isSheet 1 := ⟨⟨kc_X12_isSheet.1, ⟨Nat.le_of_ble_eq_true rfl, Nat.le_of_ble_eq_true rfl⟩, kc_X12_isSheet.2.1, kc_X12_isSheet.2.2.1, kc_X12_isSheet.2.2.2, rfl⟩, km_X12_111, kt_X12_isSheet, ke_X12_isSheet⟩
theorem kv_X12_hoursToSafety_82 : x_LV MX12_hoursToSafety 82 MX12_lacks 1 := ⟨⟨kc_X12_lacks.1, ⟨Nat.le_of_ble_eq_true rfl, Nat.le_of_ble_eq_true rfl⟩, kc_X12_lacks.2.1, kc_X12_lacks.2.2.1, kc_X12_lacks.2.2.2, rfl⟩, km_X12_82, kt_X12_lacks, ke_X12_lacks⟩
theorem kv_X12_hoursToSafety_93 : x_LV MX12_hoursToSafety 93 MX12_of 2 := ⟨⟨kc_X12_of.1, ⟨Nat.le_of_ble_eq_true rfl, Nat.le_of_ble_eq_true rfl⟩, kc_X12_of.2.1, kc_X12_of.2.2.1, kc_X12_of.2.2.2, rfl⟩, km_X12_93, kt_X12_of, ke_X12_of⟩
theorem kv_X12_hoursToSafety_194 : x_LS MX12_hoursToSafety 194 MX12_cooled 1 := ⟨⟨kc_X12_cooled.1, ⟨Nat.le_of_ble_eq_true rfl, Nat.le_of_ble_eq_true rfl⟩, kc_X12_cooled.2.1, kc_X12_cooled.2.2.1, kc_X12_cooled.2.2.2, rfl⟩, km_X12_194, kt_X12_cooled⟩
theorem kv_X12_countWarm_93 : x_LV MX12_countWarm 93 MX12_of 2 := ⟨⟨kc_X12_of.1, ⟨Nat.le_of_ble_eq_true rfl, Nat.le_of_ble_eq_true rfl⟩, kc_X12_of.2.1, kc_X12_of.2.2.1, kc_X12_of.2.2.2, rfl⟩, km_X12_93, kt_X12_of, ke_X12_of⟩
theorem kv_X12_doFold_111 : x_LV MX12_doFold 111 MX12_isSheet 1 := ⟨⟨kc_X12_isSheet.1, ⟨Nat.le_of_ble_eq_true rfl, Nat.le_of_ble_eq_true rfl⟩, kc_X12_isSheet.2.1, kc_X12_isSheet.2.2.1, kc_X12_isSheet.2.2.2, rfl⟩, km_X12_111, kt_X12_isSheet, ke_X12_isSheet⟩
theorem kv_X12_doFold_162 : x_LV MX12_doFold 162 MX12_whyNotFold 2 := ⟨⟨kc_X12_whyNotFold.1, ⟨Nat.le_of_ble_eq_true rfl, Nat.le_of_ble_eq_true rfl⟩, kc_X12_whyNotFold.2.1, kc_X12_whyNotFold.2.2.1, kc_X12_whyNotFold.2.2.2, rfl⟩, km_X12_162, kt_X12_whyNotFold, ke_X12_whyNotFold⟩
theorem kv_X12_doFold_201 : x_LV MX12_doFold 201 MX12_foldUp 2 := ⟨⟨kc_X12_foldUp.1, ⟨Nat.le_of_ble_eq_true rfl, Nat.le_of_ble_eq_true rfl⟩, kc_X12_foldUp.2.1, kc_X12_foldUp.2.2.1, kc_X12_foldUp.2.2.2, rfl⟩, km_X12_201, kt_X12_foldUp, ke_X12_foldUp⟩
theorem kv_X12_doFold_93 : x_LV MX12_doFold 93 MX12_of 2 := ⟨⟨kc_X12_of.1, ⟨Nat.le_of_ble_eq_true rfl, Nat.le_of_ble_eq_true rfl⟩, kc_X12_of.2.1, kc_X12_of.2.2.1, kc_X12_of.2.2.2, rfl⟩, km_X12_93, kt_X12_of, ke_X12_of⟩
theorem kv_X12_doRoll_111 : x_LV MX12_doRoll 111 MX12_isSheet 1 := ⟨⟨kc_X12_isSheet.1, ⟨Nat.le_of_ble_eq_true rfl, Nat.le_of_ble_eq_true rfl⟩, kc_X12_isSheet.2.1, kc_X12_isSheet.2.2.1, kc_X12_isSheet.2.2.2, rfl⟩, km_X12_111, kt_X12_isSheet, ke_X12_isSheet⟩
theorem kv_X12_doRoll_191 : x_LV MX12_doRoll 191 MX12_rollOut 2 := ⟨⟨kc_X12_rollOut.1, ⟨Nat.le_of_ble_eq_true rfl, Nat.le_of_ble_eq_true rfl⟩, kc_X12_rollOut.2.1, kc_X12_rollOut.2.2.1, kc_X12_rollOut.2.2.2, rfl⟩, km_X12_191, kt_X12_rollOut, ke_X12_rollOut⟩
theorem kv_X12_doRoll_124 : x_LV MX12_doRoll 124 MX12_is 2 := ⟨⟨kc_X12_is.1, ⟨Nat.le_of_ble_eq_true rfl, Nat.le_of_ble_eq_true rfl⟩, kc_X12_is.2.1, kc_X12_is.2.2.1, kc_X12_is.2.2.2, rfl⟩, km_X12_124, kt_X12_is, ke_X12_is⟩
theorem kv_X12_doRoll_93 : x_LV MX12_doRoll 93 MX12_of 2 := ⟨⟨kc_X12_of.1, ⟨Nat.le_of_ble_eq_true rfl, Nat.le_of_ble_eq_true rfl⟩, kc_X12_of.2.1, kc_X12_of.2.2.1, kc_X12_of.2.2.2, rfl⟩, km_X12_93, kt_X12_of, ke_X12_of⟩
theorem kv_X12_doRoll_90 : x_LV MX12_doRoll 90 MX12_lay 3 := ⟨⟨kc_X12_lay.1, ⟨Nat.le_of_ble_eq_true rfl, Nat.le_of_ble_eq_true rfl⟩, kc_X12_lay.2.1, kc_X12_lay.2.2.1, kc_X12_lay.2.2.2, rfl⟩, km_X12_90, kt_X12_lay, ke_X12_lay⟩
theorem kv_X12_doRoll_86 : x_LS MX12_doRoll 86 MX12_at 1 := ⟨⟨kc_X12_at.1, ⟨Nat.le_of_ble_eq_true rfl, Nat.le_of_ble_eq_true rfl⟩, kc_X12_at.2.1, kc_X12_at.2.2.1, kc_X12_at.2.2.2, rfl⟩, km_X12_86, kt_X12_at⟩
theorem kv_X12_doRoll_115 (n : Nat) (hn : n ≤ 8) : x_CP MX12_doRoll 115 n := ⟨km_X12_115, ks_copy.1, ks_copy.2.1, ks_copy.2.2, Nat.le_of_ble_eq_true rfl, Nat.le_trans (Nat.add_le_add_right hn _) (by decide +kernel)⟩
theorem kv_X12_doRoll_175 : x_LV MX12_doRoll 175 MX12_warm 1 := ⟨⟨kc_X12_warm.1, ⟨Nat.le_of_ble_eq_true rfl, Nat.le_of_ble_eq_true rfl⟩, kc_X12_warm.2.1, kc_X12_warm.2.2.1, kc_X12_warm.2.2.2, rfl⟩, km_X12_175, kt_X12_warm, ke_X12_warm⟩
theorem kv_X12_doDust_111 : x_LV MX12_doDust 111 MX12_isSheet 1 := ⟨⟨kc_X12_isSheet.1, ⟨Nat.le_of_ble_eq_true rfl, Nat.le_of_ble_eq_true rfl⟩, kc_X12_isSheet.2.1, kc_X12_isSheet.2.2.1, kc_X12_isSheet.2.2.2, rfl⟩, km_X12_111, kt_X12_isSheet, ke_X12_isSheet⟩
theorem kv_X12_doDust_124 : x_LV MX12_doDust 124 MX12_is 2 := ⟨⟨kc_X12_is.1, ⟨Nat.le_of_ble_eq_true rfl, Nat.le_of_ble_eq_true rfl⟩, kc_X12_is.2.1, kc_X12_is.2.2.1, kc_X12_is.2.2.2, rfl⟩, km_X12_124, kt_X12_is, ke_X12_is⟩
theorem kv_X12_doDust_90 : x_LV MX12_doDust 90 MX12_lay 3 := ⟨⟨kc_X12_lay.1, ⟨Nat.le_of_ble_eq_true rfl, Nat.le_of_ble_eq_true rfl⟩, kc_X12_lay.2.1, kc_X12_lay.2.2.1, kc_X12_lay.2.2.2, rfl⟩, km_X12_90, kt_X12_lay, ke_X12_lay⟩
theorem kv_X12_doSeal_111 : x_LV MX12_doSeal 111 MX12_isSheet 1 := ⟨⟨kc_X12_isSheet.1, ⟨Nat.le_of_ble_eq_true rfl, Nat.le_of_ble_eq_true rfl⟩, kc_X12_isSheet.2.1, kc_X12_isSheet.2.2.1, kc_X12_isSheet.2.2.2, rfl⟩, km_X12_111, kt_X12_isSheet, ke_X12_isSheet⟩
theorem kv_X12_doSeal_124 : x_LV MX12_doSeal 124 MX12_is 2 := ⟨⟨kc_X12_is.1, ⟨Nat.le_of_ble_eq_true rfl, Nat.le_of_ble_eq_true rfl⟩, kc_X12_is.2.1, kc_X12_is.2.2.1, kc_X12_is.2.2.2, rfl⟩, km_X12_124, kt_X12_is, ke_X12_is⟩
theorem kv_X12_doSeal_90 : x_LV MX12_doSeal 90 MX12_lay 3 := ⟨⟨kc_X12_lay.1, ⟨Nat.le_of_ble_eq_true rfl, Nat.le_of_ble_eq_true rfl⟩, kc_X12_lay.2.1, kc_X12_lay.2.2.1, kc_X12_lay.2.2.2, rfl⟩, km_X12_90, kt_X12_lay, ke_X12_lay⟩
theorem kv_X12_doSeal_207 : x_LV MX12_doSeal 207 MX12_countWith 1 := ⟨⟨kc_X12_countWith.1, ⟨Nat.le_of_ble_eq_true rfl, Nat.le_of_ble_eq_true rfl⟩, kc_X12_countWith.2.1, kc_X12_countWith.2.2.1, kc_X12_countWith.2.2.2, rfl⟩, km_X12_207, kt_X12_countWith, ke_X12_countWith⟩
theorem kv_X12_doCool_111 : x_LV MX12_doCool 111 MX12_isSheet 1 := ⟨⟨kc_X12_isSheet.1, ⟨Nat.le_of_ble_eq_true rfl, Nat.le_of_ble_eq_true rfl⟩, kc_X12_isSheet.2.1, kc_X12_isSheet.2.2.1, kc_X12_isSheet.2.2.2, rfl⟩, km_X12_111, kt_X12_isSheet, ke_X12_isSheet⟩
theorem kv_X12_doCool_124 : x_LV MX12_doCool 124 MX12_is 2 := ⟨⟨kc_X12_is.1, ⟨Nat.le_of_ble_eq_true rfl, Nat.le_of_ble_eq_true rfl⟩, kc_X12_is.2.1, kc_X12_is.2.2.1, kc_X12_is.2.2.2, rfl⟩, km_X12_124, kt_X12_is, ke_X12_is⟩
theorem kv_X12_doCool_207 : x_LV MX12_doCool 207 MX12_countWith 1 := ⟨⟨kc_X12_countWith.1, ⟨Nat.le_of_ble_eq_true rfl, Nat.le_of_ble_eq_true rfl⟩, kc_X12_countWith.2.1, kc_X12_countWith.2.2.1, kc_X12_countWith.2.2.2, rfl⟩, km_X12_207, kt_X12_countWith, ke_X12_countWith⟩
theorem kv_X12_doCool_90 : x_LV MX12_doCool 90 MX12_lay 3 := ⟨⟨kc_X12_lay.1, ⟨Nat.le_of_ble_eq_true rfl, Nat.le_of_ble_eq_true rfl⟩, kc_X12_lay.2.1, kc_X12_lay.2.2.1, kc_X12_lay.2.2.2, rfl⟩, km_X12_90, kt_X12_lay, ke_X12_lay⟩
theorem kv_X12_doTakeOut_111 : x_LV MX12_doTakeOut 111 MX12_isSheet 1 := ⟨⟨kc_X12_isSheet.1, ⟨Nat.le_of_ble_eq_true rfl, Nat.le_of_ble_eq_true rfl⟩, kc_X12_isSheet.2.1, kc_X12_isSheet.2.2.1, kc_X12_isSheet.2.2.2, rfl⟩, km_X12_111, kt_X12_isSheet, ke_X12_isSheet⟩
theorem kv_X12_doTakeOut_124 : x_LV MX12_doTakeOut 124 MX12_is 2 := ⟨⟨kc_X12_is.1, ⟨Nat.le_of_ble_eq_true rfl, Nat.le_of_ble_eq_true rfl⟩, kc_X12_is.2.1, kc_X12_is.2.2.1, kc_X12_is.2.2.2, rfl⟩, km_X12_124, kt_X12_is, ke_X12_is⟩
theorem kv_X12_doTakeOut_90 : x_LV MX12_doTakeOut 90 MX12_lay 3 := ⟨⟨kc_X12_lay.1, ⟨Nat.le_of_ble_eq_true rfl, Nat.le_of_ble_eq_true rfl⟩, kc_X12_lay.2.1, kc_X12_lay.2.2.1, kc_X12_lay.2.2.2, rfl⟩, km_X12_90, kt_X12_lay, ke_X12_lay⟩
theorem kv_X12_doTakeOut_93 : x_LV MX12_doTakeOut 93 MX12_of 2 := ⟨⟨kc_X12_of.1, ⟨Nat.le_of_ble_eq_true rfl, Nat.le_of_ble_eq_true rfl⟩, kc_X12_of.2.1, kc_X12_of.2.2.1, kc_X12_of.2.2.2, rfl⟩, km_X12_93, kt_X12_of, ke_X12_of⟩
theorem kv_X12_doHours_93 : x_LV MX12_doHours 93 MX12_of 2 := ⟨⟨kc_X12_of.1, ⟨Nat.le_of_ble_eq_true rfl, Nat.le_of_ble_eq_true rfl⟩, kc_X12_of.2.1, kc_X12_of.2.2.1, kc_X12_of.2.2.2, rfl⟩, km_X12_93, kt_X12_of, ke_X12_of⟩
theorem kv_X12_doHours_124 : x_LV MX12_doHours 124 MX12_is 2 := ⟨⟨kc_X12_is.1, ⟨Nat.le_of_ble_eq_true rfl, Nat.le_of_ble_eq_true rfl⟩, kc_X12_is.2.1, kc_X12_is.2.2.1, kc_X12_is.2.2.2, rfl⟩, km_X12_124, kt_X12_is, ke_X12_is⟩
theorem kv_X12_doHours_197 : x_LV MX12_doHours 197 MX12_later 2 := ⟨⟨kc_X12_later.1, ⟨Nat.le_of_ble_eq_true rfl, Nat.le_of_ble_eq_true rfl⟩, kc_X12_later.2.1, kc_X12_later.2.2.1, kc_X12_later.2.2.2, rfl⟩, km_X12_197, kt_X12_later, ke_X12_later⟩
theorem kv_X12_doHours_90 : x_LV MX12_doHours 90 MX12_lay 3 := ⟨⟨kc_X12_lay.1, ⟨Nat.le_of_ble_eq_true rfl, Nat.le_of_ble_eq_true rfl⟩, kc_X12_lay.2.1, kc_X12_lay.2.2.1, kc_X12_lay.2.2.2, rfl⟩, km_X12_90, kt_X12_lay, ke_X12_lay⟩
theorem kv_X12_doHours_210 : x_LV MX12_doHours 210 MX12_countWarm 0 := ⟨⟨kc_X12_countWarm.1, ⟨Nat.le_of_ble_eq_true rfl, Nat.le_of_ble_eq_true rfl⟩, kc_X12_countWarm.2.1, kc_X12_countWarm.2.2.1, kc_X12_countWarm.2.2.2, rfl⟩, km_X12_210, kt_X12_countWarm, ke_X12_countWarm⟩
theorem kv_X12_doCut_111 : x_LV MX12_doCut 111 MX12_isSheet 1 := ⟨⟨kc_X12_isSheet.1, ⟨Nat.le_of_ble_eq_true rfl, Nat.le_of_ble_eq_true rfl⟩, kc_X12_isSheet.2.1, kc_X12_isSheet.2.2.1, kc_X12_isSheet.2.2.2, rfl⟩, km_X12_111, kt_X12_isSheet, ke_X12_isSheet⟩
theorem kv_X12_doCut_124 : x_LV MX12_doCut 124 MX12_is 2 := ⟨⟨kc_X12_is.1, ⟨Nat.le_of_ble_eq_true rfl, Nat.le_of_ble_eq_true rfl⟩, kc_X12_is.2.1, kc_X12_is.2.2.1, kc_X12_is.2.2.2, rfl⟩, km_X12_124, kt_X12_is, ke_X12_is⟩
theorem kv_X12_doCut_90 : x_LV MX12_doCut 90 MX12_lay 3 := ⟨⟨kc_X12_lay.1, ⟨Nat.le_of_ble_eq_true rfl, Nat.le_of_ble_eq_true rfl⟩, kc_X12_lay.2.1, kc_X12_lay.2.2.1, kc_X12_lay.2.2.2, rfl⟩, km_X12_90, kt_X12_lay, ke_X12_lay⟩
theorem kv_X12_doCut_168 : x_LV MX12_doCut 168 MX12_copySheet 2 := ⟨⟨kc_X12_copySheet.1, ⟨Nat.le_of_ble_eq_true rfl, Nat.le_of_ble_eq_true rfl⟩, kc_X12_copySheet.2.1, kc_X12_copySheet.2.2.1, kc_X12_copySheet.2.2.2, rfl⟩, km_X12_168, kt_X12_copySheet, ke_X12_copySheet⟩
theorem kv_X12_wouldJoin_124 : x_LV MX12_wouldJoin 124 MX12_is 2 := ⟨⟨kc_X12_is.1, ⟨Nat.le_of_ble_eq_true rfl, Nat.le_of_ble_eq_true rfl⟩, kc_X12_is.2.1, kc_X12_is.2.2.1, kc_X12_is.2.2.2, rfl⟩, km_X12_124, kt_X12_is, ke_X12_is⟩
theorem kv_X12_wouldJoin_93 : x_LV MX12_wouldJoin 93 MX12_of 2 := ⟨⟨kc_X12_of.1, ⟨Nat.le_of_ble_eq_true rfl, Nat.le_of_ble_eq_true rfl⟩, kc_X12_of.2.1, kc_X12_of.2.2.1, kc_X12_of.2.2.2, rfl⟩, km_X12_93, kt_X12_of, ke_X12_of⟩
theorem kv_X12_wouldJoin_97 : x_LV MX12_wouldJoin 97 MX12_layer 2 := ⟨⟨kc_X12_layer.1, ⟨Nat.le_of_ble_eq_true rfl, Nat.le_of_ble_eq_true rfl⟩, kc_X12_layer.2.1, kc_X12_layer.2.2.1, kc_X12_layer.2.2.2, rfl⟩, km_X12_97, kt_X12_layer, ke_X12_layer⟩
theorem kv_X12_wouldJoin_100 : x_LS MX12_wouldJoin 100 MX12_areAlike 2 := ⟨⟨kc_X12_areAlike.1, ⟨Nat.le_of_ble_eq_true rfl, Nat.le_of_ble_eq_true rfl⟩, kc_X12_areAlike.2.1, kc_X12_areAlike.2.2.1, kc_X12_areAlike.2.2.2, rfl⟩, km_X12_100, kt_X12_areAlike⟩
theorem kv_X12_areTooMuch_93 : x_LV MX12_areTooMuch 93 MX12_of 2 := ⟨⟨kc_X12_of.1, ⟨Nat.le_of_ble_eq_true rfl, Nat.le_of_ble_eq_true rfl⟩, kc_X12_of.2.1, kc_X12_of.2.2.1, kc_X12_of.2.2.2, rfl⟩, km_X12_93, kt_X12_of, ke_X12_of⟩
theorem kv_X12_areTooMuch_214 : x_LV MX12_areTooMuch 214 MX12_wouldJoin 2 := ⟨⟨kc_X12_wouldJoin.1, ⟨Nat.le_of_ble_eq_true rfl, Nat.le_of_ble_eq_true rfl⟩, kc_X12_wouldJoin.2.1, kc_X12_wouldJoin.2.2.1, kc_X12_wouldJoin.2.2.2, rfl⟩, km_X12_214, kt_X12_wouldJoin, ke_X12_wouldJoin⟩
theorem kv_X12_areTooMuch_136 : x_LV MX12_areTooMuch 136 MX12_heightOf 1 := ⟨⟨kc_X12_heightOf.1, ⟨Nat.le_of_ble_eq_true rfl, Nat.le_of_ble_eq_true rfl⟩, kc_X12_heightOf.2.1, kc_X12_heightOf.2.2.1, kc_X12_heightOf.2.2.2, rfl⟩, km_X12_136, kt_X12_heightOf, ke_X12_heightOf⟩
theorem kv_X12_doStack_111 : x_LV MX12_doStack 111 MX12_isSheet 1 := ⟨⟨kc_X12_isSheet.1, ⟨Nat.le_of_ble_eq_true rfl, Nat.le_of_ble_eq_true rfl⟩, kc_X12_isSheet.2.1, kc_X12_isSheet.2.2.1, kc_X12_isSheet.2.2.2, rfl⟩, km_X12_111, kt_X12_isSheet, ke_X12_isSheet⟩
theorem kv_X12_doStack_124 : x_LV MX12_doStack 124 MX12_is 2 := ⟨⟨kc_X12_is.1, ⟨Nat.le_of_ble_eq_true rfl, Nat.le_of_ble_eq_true rfl⟩, kc_X12_is.2.1, kc_X12_is.2.2.1, kc_X12_is.2.2.2, rfl⟩, km_X12_124, kt_X12_is, ke_X12_is⟩
theorem kv_X12_doStack_217 : x_LV MX12_doStack 217 MX12_areTooMuch 2 := ⟨⟨kc_X12_areTooMuch.1, ⟨Nat.le_of_ble_eq_true rfl, Nat.le_of_ble_eq_true rfl⟩, kc_X12_areTooMuch.2.1, kc_X12_areTooMuch.2.2.1, kc_X12_areTooMuch.2.2.2, rfl⟩, km_X12_217, kt_X12_areTooMuch, ke_X12_areTooMuch⟩
theorem kv_X12_doStack_93 : x_LV MX12_doStack 93 MX12_of 2 := ⟨⟨kc_X12_of.1, ⟨Nat.le_of_ble_eq_true rfl, Nat.le_of_ble_eq_true rfl⟩, kc_X12_of.2.1, kc_X12_of.2.2.1, kc_X12_of.2.2.2, rfl⟩, km_X12_93, kt_X12_of, ke_X12_of⟩
theorem kv_X12_doStack_97 : x_LV MX12_doStack 97 MX12_layer 2 := ⟨⟨kc_X12_layer.1, ⟨Nat.le_of_ble_eq_true rfl, Nat.le_of_ble_eq_true rfl⟩, kc_X12_layer.2.1, kc_X12_layer.2.2.1, kc_X12_layer.2.2.2, rfl⟩, km_X12_97, kt_X12_layer, ke_X12_layer⟩
theorem kv_X12_doStack_171 : x_LV MX12_doStack 171 MX12_putLayer 3 := ⟨⟨kc_X12_putLayer.1, ⟨Nat.le_of_ble_eq_true rfl, Nat.le_of_ble_eq_true rfl⟩, kc_X12_putLayer.2.1, kc_X12_putLayer.2.2.1, kc_X12_putLayer.2.2.2, rfl⟩, km_X12_171, kt_X12_putLayer, ke_X12_putLayer⟩
theorem kv_X12_doStack_90 : x_LV MX12_doStack 90 MX12_lay 3 := ⟨⟨kc_X12_lay.1, ⟨Nat.le_of_ble_eq_true rfl, Nat.le_of_ble_eq_true rfl⟩, kc_X12_lay.2.1, kc_X12_lay.2.2.1, kc_X12_lay.2.2.2, rfl⟩, km_X12_90, kt_X12_lay, ke_X12_lay⟩
theorem kv_X12_doStack_179 : x_LS MX12_doStack 179 MX12_most 2 := ⟨⟨kc_X12_most.1, ⟨Nat.le_of_ble_eq_true rfl, Nat.le_of_ble_eq_true rfl⟩, kc_X12_most.2.1, kc_X12_most.2.2.1, kc_X12_most.2.2.2, rfl⟩, km_X12_179, kt_X12_most⟩
theorem kv_X12_doStack_168 : x_LV MX12_doStack 168 MX12_copySheet 2 := ⟨⟨kc_X12_copySheet.1, ⟨Nat.le_of_ble_eq_true rfl, Nat.le_of_ble_eq_true rfl⟩, kc_X12_copySheet.2.1, kc_X12_copySheet.2.2.1, kc_X12_copySheet.2.2.2, rfl⟩, km_X12_168, kt_X12_copySheet, ke_X12_copySheet⟩
theorem kv_X12_doButter_124 : x_LV MX12_doButter 124 MX12_is 2 := ⟨⟨kc_X12_is.1, ⟨Nat.le_of_ble_eq_true rfl, Nat.le_of_ble_eq_true rfl⟩, kc_X12_is.2.1, kc_X12_is.2.2.1, kc_X12_is.2.2.2, rfl⟩, km_X12_124, kt_X12_is, ke_X12_is⟩
theorem kv_X12_doButter_93 : x_LV MX12_doButter 93 MX12_of 2 := ⟨⟨kc_X12_of.1, ⟨Nat.le_of_ble_eq_true rfl, Nat.le_of_ble_eq_true rfl⟩, kc_X12_of.2.1, kc_X12_of.2.2.1, kc_X12_of.2.2.2, rfl⟩, km_X12_93, kt_X12_of, ke_X12_of⟩
theorem kv_X12_doButter_136 : x_LV MX12_doButter 136 MX12_heightOf 1 := ⟨⟨kc_X12_heightOf.1, ⟨Nat.le_of_ble_eq_true rfl, Nat.le_of_ble_eq_true rfl⟩, kc_X12_heightOf.2.1, kc_X12_heightOf.2.2.1, kc_X12_heightOf.2.2.2, rfl⟩, km_X12_136, kt_X12_heightOf, ke_X12_heightOf⟩
theorem kv_X12_doButter_171 : x_LV MX12_doButter 171 MX12_putLayer 3 := ⟨⟨kc_X12_putLayer.1, ⟨Nat.le_of_ble_eq_true rfl, Nat.le_of_ble_eq_true rfl⟩, kc_X12_putLayer.2.1, kc_X12_putLayer.2.2.1, kc_X12_putLayer.2.2.2, rfl⟩, km_X12_171, kt_X12_putLayer, ke_X12_putLayer⟩
theorem kv_X12_doButter_90 : x_LV MX12_doButter 90 MX12_lay 3 := ⟨⟨kc_X12_lay.1, ⟨Nat.le_of_ble_eq_true rfl, Nat.le_of_ble_eq_true rfl⟩, kc_X12_lay.2.1, kc_X12_lay.2.2.1, kc_X12_lay.2.2.2, rfl⟩, km_X12_90, kt_X12_lay, ke_X12_lay⟩
theorem kv_X12_copy_115 (n : Nat) (hn : n ≤ 8) : x_CP MX12_copy 115 n := ⟨km_X12_115, ks_copy.1, ks_copy.2.1, ks_copy.2.2, Nat.le_of_ble_eq_true rfl, Nat.le_trans (Nat.add_le_add_right hn _) (by decide +kernel)⟩
theorem kv_X12_keep_220 : x_LS MX12_keep 220 MX12_copy 4 := ⟨⟨kc_X12_copy.1, ⟨Nat.le_of_ble_eq_true rfl, Nat.le_of_ble_eq_true rfl⟩, kc_X12_copy.2.1, kc_X12_copy.2.2.1, kc_X12_copy.2.2.2, rfl⟩, km_X12_220, kt_X12_copy⟩
theorem kv_X12_record_220 : x_LS MX12_record 220 MX12_copy 4 := ⟨⟨kc_X12_copy.1, ⟨Nat.le_of_ble_eq_true rfl, Nat.le_of_ble_eq_true rfl⟩, kc_X12_copy.2.1, kc_X12_copy.2.2.1, kc_X12_copy.2.2.2, rfl⟩, km_X12_220, kt_X12_copy⟩
theorem kv_X12_ends_227 : x_LV MX12_ends 227 MX12_record 0 := ⟨⟨kc_X12_record.1, ⟨Nat.le_of_ble_eq_true rfl, Nat.le_of_ble_eq_true rfl⟩, kc_X12_record.2.1, kc_X12_record.2.2.1, kc_X12_record.2.2.2, rfl⟩, km_X12_227, kt_X12_record, ke_X12_record⟩
theorem kv_X12_fold_159 : x_LV MX12_fold 159 MX12_lacksParts 2 := ⟨⟨kc_X12_lacksParts.1, ⟨Nat.le_of_ble_eq_true rfl, Nat.le_of_ble_eq_true rfl⟩, kc_X12_lacksParts.2.1, kc_X12_lacksParts.2.2.1, kc_X12_lacksParts.2.2.2, rfl⟩, km_X12_159, kt_X12_lacksParts, ke_X12_lacksParts⟩
theorem kv_X12_fold_230 : x_LV MX12_fold 230 MX12_keep 0 := ⟨⟨kc_X12_keep.1, ⟨Nat.le_of_ble_eq_true rfl, Nat.le_of_ble_eq_true rfl⟩, kc_X12_keep.2.1, kc_X12_keep.2.2.1, kc_X12_keep.2.2.2, rfl⟩, km_X12_230, kt_X12_keep, ke_X12_keep⟩
theorem kv_X12_fold_233 : x_LV MX12_fold 233 MX12_doFold 2 := ⟨⟨kc_X12_doFold.1, ⟨Nat.le_of_ble_eq_true rfl, Nat.le_of_ble_eq_true rfl⟩, kc_X12_doFold.2.1, kc_X12_doFold.2.2.1, kc_X12_doFold.2.2.2, rfl⟩, km_X12_233, kt_X12_doFold, ke_X12_doFold⟩
theorem kv_X12_fold_236 : x_LV MX12_fold 236 MX12_ends 1 := ⟨⟨kc_X12_ends.1, ⟨Nat.le_of_ble_eq_true rfl, Nat.le_of_ble_eq_true rfl⟩, kc_X12_ends.2.1, kc_X12_ends.2.2.1, kc_X12_ends.2.2.2, rfl⟩, km_X12_236, kt_X12_ends, ke_X12_ends⟩
theorem kv_X12_roll_159 : x_LV MX12_roll 159 MX12_lacksParts 2 := ⟨⟨kc_X12_lacksParts.1, ⟨Nat.le_of_ble_eq_true rfl, Nat.le_of_ble_eq_true rfl⟩, kc_X12_lacksParts.2.1, kc_X12_lacksParts.2.2.1, kc_X12_lacksParts.2.2.2, rfl⟩, km_X12_159, kt_X12_lacksParts, ke_X12_lacksParts⟩
theorem kv_X12_roll_230 : x_LV MX12_roll 230 MX12_keep 0 := ⟨⟨kc_X12_keep.1, ⟨Nat.le_of_ble_eq_true rfl, Nat.le_of_ble_eq_true rfl⟩, kc_X12_keep.2.1, kc_X12_keep.2.2.1, kc_X12_keep.2.2.2, rfl⟩, km_X12_230, kt_X12_keep, ke_X12_keep⟩
theorem kv_X12_roll_239 : x_LV MX12_roll 239 MX12_doRoll 2 := ⟨⟨kc_X12_doRoll.1, ⟨Nat.le_of_ble_eq_true rfl, Nat.le_of_ble_eq_true rfl⟩, kc_X12_doRoll.2.1, kc_X12_doRoll.2.2.1, kc_X12_doRoll.2.2.2, rfl⟩, km_X12_239, kt_X12_doRoll, ke_X12_doRoll⟩
theorem kv_X12_roll_236 : x_LV MX12_roll 236 MX12_ends 1 := ⟨⟨kc_X12_ends.1, ⟨Nat.le_of_ble_eq_true rfl, Nat.le_of_ble_eq_true rfl⟩, kc_X12_ends.2.1, kc_X12_ends.2.2.1, kc_X12_ends.2.2.2, rfl⟩, km_X12_236, kt_X12_ends, ke_X12_ends⟩
theorem kv_X12_dust_230 : x_LV MX12_dust 230 MX12_keep 0 := ⟨⟨kc_X12_keep.1, ⟨Nat.le_of_ble_eq_true rfl, Nat.le_of_ble_eq_true rfl⟩, kc_X12_keep.2.1, kc_X12_keep.2.2.1, kc_X12_keep.2.2.2, rfl⟩, km_X12_230, kt_X12_keep, ke_X12_keep⟩
theorem kv_X12_dust_242 : x_LV MX12_dust 242 MX12_doDust 1 := ⟨⟨kc_X12_doDust.1, ⟨Nat.le_of_ble_eq_true rfl, Nat.le_of_ble_eq_true rfl⟩, kc_X12_doDust.2.1, kc_X12_doDust.2.2.1, kc_X12_doDust.2.2.2, rfl⟩, km_X12_242, kt_X12_doDust, ke_X12_doDust⟩
theorem kv_X12_dust_236 : x_LV MX12_dust 236 MX12_ends 1 := ⟨⟨kc_X12_ends.1, ⟨Nat.le_of_ble_eq_true rfl, Nat.le_of_ble_eq_true rfl⟩, kc_X12_ends.2.1, kc_X12_ends.2.2.1, kc_X12_ends.2.2.2, rfl⟩, km_X12_236, kt_X12_ends, ke_X12_ends⟩
theorem kv_X12_seal_230 : x_LV MX12_seal 230 MX12_keep 0 := ⟨⟨kc_X12_keep.1, ⟨Nat.le_of_ble_eq_true rfl, Nat.le_of_ble_eq_true rfl⟩, kc_X12_keep.2.1, kc_X12_keep.2.2.1, kc_X12_keep.2.2.2, rfl⟩, km_X12_230, kt_X12_keep, ke_X12_keep⟩
theorem kv_X12_seal_245 : x_LV MX12_seal 245 MX12_doSeal 1 := ⟨⟨kc_X12_doSeal.1, ⟨Nat.le_of_ble_eq_true rfl, Nat.le_of_ble_eq_true rfl⟩, kc_X12_doSeal.2.1, kc_X12_doSeal.2.2.1, kc_X12_doSeal.2.2.2, rfl⟩, km_X12_245, kt_X12_doSeal, ke_X12_doSeal⟩
theorem kv_X12_seal_236 : x_LV MX12_seal 236 MX12_ends 1 := ⟨⟨kc_X12_ends.1, ⟨Nat.le_of_ble_eq_true rfl, Nat.le_of_ble_eq_true rfl⟩, kc_X12_ends.2.1, kc_X12_ends.2.2.1, kc_X12_ends.2.2.2, rfl⟩, km_X12_236, kt_X12_ends, ke_X12_ends⟩
theorem kv_X12_cool_230 : x_LV MX12_cool 230 MX12_keep 0 := ⟨⟨kc_X12_keep.1, ⟨Nat.le_of_ble_eq_true rfl, Nat.le_of_ble_eq_true rfl⟩, kc_X12_keep.2.1, kc_X12_keep.2.2.1, kc_X12_keep.2.2.2, rfl⟩, km_X12_230, kt_X12_keep, ke_X12_keep⟩
theorem kv_X12_cool_248 : x_LV MX12_cool 248 MX12_doCool 1 := ⟨⟨kc_X12_doCool.1, ⟨Nat.le_of_ble_eq_true rfl, Nat.le_of_ble_eq_true rfl⟩, kc_X12_doCool.2.1, kc_X12_doCool.2.2.1, kc_X12_doCool.2.2.2, rfl⟩, km_X12_248, kt_X12_doCool, ke_X12_doCool⟩
theorem kv_X12_cool_236 : x_LV MX12_cool 236 MX12_ends 1 := ⟨⟨kc_X12_ends.1, ⟨Nat.le_of_ble_eq_true rfl, Nat.le_of_ble_eq_true rfl⟩, kc_X12_ends.2.1, kc_X12_ends.2.2.1, kc_X12_ends.2.2.2, rfl⟩, km_X12_236, kt_X12_ends, ke_X12_ends⟩
theorem kv_X12_takeOut_230 : x_LV MX12_takeOut 230 MX12_keep 0 := ⟨⟨kc_X12_keep.1, ⟨Nat.le_of_ble_eq_true rfl, Nat.le_of_ble_eq_true rfl⟩, kc_X12_keep.2.1, kc_X12_keep.2.2.1, kc_X12_keep.2.2.2, rfl⟩, km_X12_230, kt_X12_keep, ke_X12_keep⟩
theorem kv_X12_takeOut_251 : x_LV MX12_takeOut 251 MX12_doTakeOut 1 := ⟨⟨kc_X12_doTakeOut.1, ⟨Nat.le_of_ble_eq_true rfl, Nat.le_of_ble_eq_true rfl⟩, kc_X12_doTakeOut.2.1, kc_X12_doTakeOut.2.2.1, kc_X12_doTakeOut.2.2.2, rfl⟩, km_X12_251, kt_X12_doTakeOut, ke_X12_doTakeOut⟩
theorem kv_X12_takeOut_236 : x_LV MX12_takeOut 236 MX12_ends 1 := ⟨⟨kc_X12_ends.1, ⟨Nat.le_of_ble_eq_true rfl, Nat.le_of_ble_eq_true rfl⟩, kc_X12_ends.2.1, kc_X12_ends.2.2.1, kc_X12_ends.2.2.2, rfl⟩, km_X12_236, kt_X12_ends, ke_X12_ends⟩
theorem kv_X12_passHours_107 : x_LS MX12_passHours 107 MX12_inRange 3 := ⟨⟨kc_X12_inRange.1, ⟨Nat.le_of_ble_eq_true rfl, Nat.le_of_ble_eq_true rfl⟩, kc_X12_inRange.2.1, kc_X12_inRange.2.2.1, kc_X12_inRange.2.2.2, rfl⟩, km_X12_107, kt_X12_inRange⟩
theorem kv_X12_passHours_82 : x_LV MX12_passHours 82 MX12_lacks 1 := ⟨⟨kc_X12_lacks.1, ⟨Nat.le_of_ble_eq_true rfl, Nat.le_of_ble_eq_true rfl⟩, kc_X12_lacks.2.1, kc_X12_lacks.2.2.1, kc_X12_lacks.2.2.2, rfl⟩, km_X12_82, kt_X12_lacks, ke_X12_lacks⟩
theorem kv_X12_passHours_230 : x_LV MX12_passHours 230 MX12_keep 0 := ⟨⟨kc_X12_keep.1, ⟨Nat.le_of_ble_eq_true rfl, Nat.le_of_ble_eq_true rfl⟩, kc_X12_keep.2.1, kc_X12_keep.2.2.1, kc_X12_keep.2.2.2, rfl⟩, km_X12_230, kt_X12_keep, ke_X12_keep⟩
theorem kv_X12_passHours_254 : x_LV MX12_passHours 254 MX12_doHours 1 := ⟨⟨kc_X12_doHours.1, ⟨Nat.le_of_ble_eq_true rfl, Nat.le_of_ble_eq_true rfl⟩, kc_X12_doHours.2.1, kc_X12_doHours.2.2.1, kc_X12_doHours.2.2.2, rfl⟩, km_X12_254, kt_X12_doHours, ke_X12_doHours⟩
theorem kv_X12_passHours_236 : x_LV MX12_passHours 236 MX12_ends 1 := ⟨⟨kc_X12_ends.1, ⟨Nat.le_of_ble_eq_true rfl, Nat.le_of_ble_eq_true rfl⟩, kc_X12_ends.2.1, kc_X12_ends.2.2.1, kc_X12_ends.2.2.2, rfl⟩, km_X12_236, kt_X12_ends, ke_X12_ends⟩
theorem kv_X12_cut_230 : x_LV MX12_cut 230 MX12_keep 0 := ⟨⟨kc_X12_keep.1, ⟨Nat.le_of_ble_eq_true rfl, Nat.le_of_ble_eq_true rfl⟩, kc_X12_keep.2.1, kc_X12_keep.2.2.1, kc_X12_keep.2.2.2, rfl⟩, km_X12_230, kt_X12_keep, ke_X12_keep⟩
theorem kv_X12_cut_257 : x_LV MX12_cut 257 MX12_doCut 1 := ⟨⟨kc_X12_doCut.1, ⟨Nat.le_of_ble_eq_true rfl, Nat.le_of_ble_eq_true rfl⟩, kc_X12_doCut.2.1, kc_X12_doCut.2.2.1, kc_X12_doCut.2.2.2, rfl⟩, km_X12_257, kt_X12_doCut, ke_X12_doCut⟩
theorem kv_X12_cut_236 : x_LV MX12_cut 236 MX12_ends 1 := ⟨⟨kc_X12_ends.1, ⟨Nat.le_of_ble_eq_true rfl, Nat.le_of_ble_eq_true rfl⟩, kc_X12_ends.2.1, kc_X12_ends.2.2.1, kc_X12_ends.2.2.2, rfl⟩, km_X12_236, kt_X12_ends, ke_X12_ends⟩
theorem kv_X12_stack_230 : x_LV MX12_stack 230 MX12_keep 0 := ⟨⟨kc_X12_keep.1, ⟨Nat.le_of_ble_eq_true rfl, Nat.le_of_ble_eq_true rfl⟩, kc_X12_keep.2.1, kc_X12_keep.2.2.1, kc_X12_keep.2.2.2, rfl⟩, km_X12_230, kt_X12_keep, ke_X12_keep⟩
theorem kv_X12_stack_260 : x_LV MX12_stack 260 MX12_doStack 2 := ⟨⟨kc_X12_doStack.1, ⟨Nat.le_of_ble_eq_true rfl, Nat.le_of_ble_eq_true rfl⟩, kc_X12_doStack.2.1, kc_X12_doStack.2.2.1, kc_X12_doStack.2.2.2, rfl⟩, km_X12_260, kt_X12_doStack, ke_X12_doStack⟩
theorem kv_X12_stack_236 : x_LV MX12_stack 236 MX12_ends 1 := ⟨⟨kc_X12_ends.1, ⟨Nat.le_of_ble_eq_true rfl, Nat.le_of_ble_eq_true rfl⟩, kc_X12_ends.2.1, kc_X12_ends.2.2.1, kc_X12_ends.2.2.2, rfl⟩, km_X12_236, kt_X12_ends, ke_X12_ends⟩
theorem kv_X12_addButter_111 : x_LV MX12_addButter 111 MX12_isSheet 1 := ⟨⟨kc_X12_isSheet.1, ⟨Nat.le_of_ble_eq_true rfl, Nat.le_of_ble_eq_true rfl⟩, kc_X12_isSheet.2.1, kc_X12_isSheet.2.2.1, kc_X12_isSheet.2.2.2, rfl⟩, km_X12_111, kt_X12_isSheet, ke_X12_isSheet⟩
theorem kv_X12_addButter_107 : x_LS MX12_addButter 107 MX12_inRange 3 := ⟨⟨kc_X12_inRange.1, ⟨Nat.le_of_ble_eq_true rfl, Nat.le_of_ble_eq_true rfl⟩, kc_X12_inRange.2.1, kc_X12_inRange.2.2.1, kc_X12_inRange.2.2.2, rfl⟩, km_X12_107, kt_X12_inRange⟩
theorem kv_X12_addButter_155 : x_LV MX12_addButter 155 MX12_lacksBoth 2 := ⟨⟨kc_X12_lacksBoth.1, ⟨Nat.le_of_ble_eq_true rfl, Nat.le_of_ble_eq_true rfl⟩, kc_X12_lacksBoth.2.1, kc_X12_lacksBoth.2.2.1, kc_X12_lacksBoth.2.2.2, rfl⟩, km_X12_155, kt_X12_lacksBoth, ke_X12_lacksBoth⟩
theorem kv_X12_addButter_230 : x_LV MX12_addButter 230 MX12_keep 0 := ⟨⟨kc_X12_keep.1, ⟨Nat.le_of_ble_eq_true rfl, Nat.le_of_ble_eq_true rfl⟩, kc_X12_keep.2.1, kc_X12_keep.2.2.1, kc_X12_keep.2.2.2, rfl⟩, km_X12_230, kt_X12_keep, ke_X12_keep⟩
theorem kv_X12_addButter_263 : x_LV MX12_addButter 263 MX12_doButter 2 := ⟨⟨kc_X12_doButter.1, ⟨Nat.le_of_ble_eq_true rfl, Nat.le_of_ble_eq_true rfl⟩, kc_X12_doButter.2.1, kc_X12_doButter.2.2.1, kc_X12_doButter.2.2.2, rfl⟩, km_X12_263, kt_X12_doButter, ke_X12_doButter⟩
theorem kv_X12_addButter_236 : x_LV MX12_addButter 236 MX12_ends 1 := ⟨⟨kc_X12_ends.1, ⟨Nat.le_of_ble_eq_true rfl, Nat.le_of_ble_eq_true rfl⟩, kc_X12_ends.2.1, kc_X12_ends.2.2.1, kc_X12_ends.2.2.2, rfl⟩, km_X12_236, kt_X12_ends, ke_X12_ends⟩
theorem kv_X12_buyFlour_107 : x_LS MX12_buyFlour 107 MX12_inRange 3 := ⟨⟨kc_X12_inRange.1, ⟨Nat.le_of_ble_eq_true rfl, Nat.le_of_ble_eq_true rfl⟩, kc_X12_inRange.2.1, kc_X12_inRange.2.2.1, kc_X12_inRange.2.2.2, rfl⟩, km_X12_107, kt_X12_inRange⟩
theorem kv_X12_buyFlour_155 : x_LV MX12_buyFlour 155 MX12_lacksBoth 2 := ⟨⟨kc_X12_lacksBoth.1, ⟨Nat.le_of_ble_eq_true rfl, Nat.le_of_ble_eq_true rfl⟩, kc_X12_lacksBoth.2.1, kc_X12_lacksBoth.2.2.1, kc_X12_lacksBoth.2.2.2, rfl⟩, km_X12_155, kt_X12_lacksBoth, ke_X12_lacksBoth⟩
theorem kv_X12_buyFlour_230 : x_LV MX12_buyFlour 230 MX12_keep 0 := ⟨⟨kc_X12_keep.1, ⟨Nat.le_of_ble_eq_true rfl, Nat.le_of_ble_eq_true rfl⟩, kc_X12_keep.2.1, kc_X12_keep.2.2.1, kc_X12_keep.2.2.2, rfl⟩, km_X12_230, kt_X12_keep, ke_X12_keep⟩
theorem kv_X12_buyFlour_236 : x_LV MX12_buyFlour 236 MX12_ends 1 := ⟨⟨kc_X12_ends.1, ⟨Nat.le_of_ble_eq_true rfl, Nat.le_of_ble_eq_true rfl⟩, kc_X12_ends.2.1, kc_X12_ends.2.2.1, kc_X12_ends.2.2.2, rfl⟩, km_X12_236, kt_X12_ends, ke_X12_ends⟩
theorem kv_X12_writeNumber_269 : x_LV MX12_writeNumber 269 MX12_write 1 := ⟨⟨kc_X12_write.1, ⟨Nat.le_of_ble_eq_true rfl, Nat.le_of_ble_eq_true rfl⟩, kc_X12_write.2.1, kc_X12_write.2.2.1, kc_X12_write.2.2.2, rfl⟩, km_X12_269, kt_X12_write, ke_X12_write⟩
theorem kv_X12_writeSheet_111 : x_LV MX12_writeSheet 111 MX12_isSheet 1 := ⟨⟨kc_X12_isSheet.1, ⟨Nat.le_of_ble_eq_true rfl, Nat.le_of_ble_eq_true rfl⟩, kc_X12_isSheet.2.1, kc_X12_isSheet.2.2.1, kc_X12_isSheet.2.2.2, rfl⟩, km_X12_111, kt_X12_isSheet, ke_X12_isSheet⟩
theorem kv_X12_writeSheet_82 : x_LV MX12_writeSheet 82 MX12_lacks 1 := ⟨⟨kc_X12_lacks.1, ⟨Nat.le_of_ble_eq_true rfl, Nat.le_of_ble_eq_true rfl⟩, kc_X12_lacks.2.1, kc_X12_lacks.2.2.1, kc_X12_lacks.2.2.2, rfl⟩, km_X12_82, kt_X12_lacks, ke_X12_lacks⟩
theorem kv_X12_writeSheet_93 : x_LV MX12_writeSheet 93 MX12_of 2 := ⟨⟨kc_X12_of.1, ⟨Nat.le_of_ble_eq_true rfl, Nat.le_of_ble_eq_true rfl⟩, kc_X12_of.2.1, kc_X12_of.2.2.1, kc_X12_of.2.2.2, rfl⟩, km_X12_93, kt_X12_of, ke_X12_of⟩
theorem kv_X12_writeSheet_97 : x_LV MX12_writeSheet 97 MX12_layer 2 := ⟨⟨kc_X12_layer.1, ⟨Nat.le_of_ble_eq_true rfl, Nat.le_of_ble_eq_true rfl⟩, kc_X12_layer.2.1, kc_X12_layer.2.2.1, kc_X12_layer.2.2.2, rfl⟩, km_X12_97, kt_X12_layer, ke_X12_layer⟩
theorem kv_X12_writeSheet_269 : x_LV MX12_writeSheet 269 MX12_write 1 := ⟨⟨kc_X12_write.1, ⟨Nat.le_of_ble_eq_true rfl, Nat.le_of_ble_eq_true rfl⟩, kc_X12_write.2.1, kc_X12_write.2.2.1, kc_X12_write.2.2.2, rfl⟩, km_X12_269, kt_X12_write, ke_X12_write⟩
theorem kv_X12_writeSheet_121 : x_LS MX12_writeSheet 121 MX12_sizeOf 1 := ⟨⟨kc_X12_sizeOf.1, ⟨Nat.le_of_ble_eq_true rfl, Nat.le_of_ble_eq_true rfl⟩, kc_X12_sizeOf.2.1, kc_X12_sizeOf.2.2.1, kc_X12_sizeOf.2.2.2, rfl⟩, km_X12_121, kt_X12_sizeOf⟩
theorem kv_X12_writeSheet_272 : x_LV MX12_writeSheet 272 MX12_writeNumber 1 := ⟨⟨kc_X12_writeNumber.1, ⟨Nat.le_of_ble_eq_true rfl, Nat.le_of_ble_eq_true rfl⟩, kc_X12_writeNumber.2.1, kc_X12_writeNumber.2.2.1, kc_X12_writeNumber.2.2.2, rfl⟩, km_X12_272, kt_X12_writeNumber, ke_X12_writeNumber⟩
theorem kv_X12_outputByte_107 : x_LS MX12_outputByte 107 MX12_inRange 3 := ⟨⟨kc_X12_inRange.1, ⟨Nat.le_of_ble_eq_true rfl, Nat.le_of_ble_eq_true rfl⟩, kc_X12_inRange.2.1, kc_X12_inRange.2.2.1, kc_X12_inRange.2.2.2, rfl⟩, km_X12_107, kt_X12_inRange⟩
theorem kv_X12_outputByte_82 : x_LV MX12_outputByte 82 MX12_lacks 1 := ⟨⟨kc_X12_lacks.1, ⟨Nat.le_of_ble_eq_true rfl, Nat.le_of_ble_eq_true rfl⟩, kc_X12_lacks.2.1, kc_X12_lacks.2.2.1, kc_X12_lacks.2.2.2, rfl⟩, km_X12_82, kt_X12_lacks, ke_X12_lacks⟩
theorem kv_X12_undo_82 : x_LV MX12_undo 82 MX12_lacks 1 := ⟨⟨kc_X12_lacks.1, ⟨Nat.le_of_ble_eq_true rfl, Nat.le_of_ble_eq_true rfl⟩, kc_X12_lacks.2.1, kc_X12_lacks.2.2.1, kc_X12_lacks.2.2.2, rfl⟩, km_X12_82, kt_X12_lacks, ke_X12_lacks⟩
theorem kv_X12_undo_220 : x_LS MX12_undo 220 MX12_copy 4 := ⟨⟨kc_X12_copy.1, ⟨Nat.le_of_ble_eq_true rfl, Nat.le_of_ble_eq_true rfl⟩, kc_X12_copy.2.1, kc_X12_copy.2.2.1, kc_X12_copy.2.2.2, rfl⟩, km_X12_220, kt_X12_copy⟩
theorem kv_X12_saveSnapshot_220 : x_LS MX12_saveSnapshot 220 MX12_copy 4 := ⟨⟨kc_X12_copy.1, ⟨Nat.le_of_ble_eq_true rfl, Nat.le_of_ble_eq_true rfl⟩, kc_X12_copy.2.1, kc_X12_copy.2.2.1, kc_X12_copy.2.2.2, rfl⟩, km_X12_220, kt_X12_copy⟩
theorem kv_X12_restoreSnapshot_82 : x_LV MX12_restoreSnapshot 82 MX12_lacks 1 := ⟨⟨kc_X12_lacks.1, ⟨Nat.le_of_ble_eq_true rfl, Nat.le_of_ble_eq_true rfl⟩, kc_X12_lacks.2.1, kc_X12_lacks.2.2.1, kc_X12_lacks.2.2.2, rfl⟩, km_X12_82, kt_X12_lacks, ke_X12_lacks⟩
theorem kv_X12_restoreSnapshot_220 : x_LS MX12_restoreSnapshot 220 MX12_copy 4 := ⟨⟨kc_X12_copy.1, ⟨Nat.le_of_ble_eq_true rfl, Nat.le_of_ble_eq_true rfl⟩, kc_X12_copy.2.1, kc_X12_copy.2.2.1, kc_X12_copy.2.2.2, rfl⟩, km_X12_220, kt_X12_copy⟩
theorem kv_X12_isLetter_285 : x_LV MX12_isLetter 285 MX12_byteAt 1 := ⟨⟨kc_X12_byteAt.1, ⟨Nat.le_of_ble_eq_true rfl, Nat.le_of_ble_eq_true rfl⟩, kc_X12_byteAt.2.1, kc_X12_byteAt.2.2.1, kc_X12_byteAt.2.2.2, rfl⟩, km_X12_285, kt_X12_byteAt, ke_X12_byteAt⟩
theorem kv_X12_isDigit_285 : x_LV MX12_isDigit 285 MX12_byteAt 1 := ⟨⟨kc_X12_byteAt.1, ⟨Nat.le_of_ble_eq_true rfl, Nat.le_of_ble_eq_true rfl⟩, kc_X12_byteAt.2.1, kc_X12_byteAt.2.2.1, kc_X12_byteAt.2.2.2, rfl⟩, km_X12_285, kt_X12_byteAt, ke_X12_byteAt⟩
theorem kv_X12_scan_285 : x_LV MX12_scan 285 MX12_byteAt 1 := ⟨⟨kc_X12_byteAt.1, ⟨Nat.le_of_ble_eq_true rfl, Nat.le_of_ble_eq_true rfl⟩, kc_X12_byteAt.2.1, kc_X12_byteAt.2.2.1, kc_X12_byteAt.2.2.2, rfl⟩, km_X12_285, kt_X12_byteAt, ke_X12_byteAt⟩
theorem kv_X12_scan_297 : x_LV MX12_scan 297 MX12_isLetter 1 := ⟨⟨kc_X12_isLetter.1, ⟨Nat.le_of_ble_eq_true rfl, Nat.le_of_ble_eq_true rfl⟩, kc_X12_isLetter.2.1, kc_X12_isLetter.2.2.1, kc_X12_isLetter.2.2.2, rfl⟩, km_X12_297, kt_X12_isLetter, ke_X12_isLetter⟩
theorem kv_X12_scan_300 : x_LV MX12_scan 300 MX12_isDigit 1 := ⟨⟨kc_X12_isDigit.1, ⟨Nat.le_of_ble_eq_true rfl, Nat.le_of_ble_eq_true rfl⟩, kc_X12_isDigit.2.1, kc_X12_isDigit.2.2.1, kc_X12_isDigit.2.2.2, rfl⟩, km_X12_300, kt_X12_isDigit, ke_X12_isDigit⟩
theorem kv_X12_startText_309 : x_LV MX12_startText 309 MX12_scan 0 := ⟨⟨kc_X12_scan.1, ⟨Nat.le_of_ble_eq_true rfl, Nat.le_of_ble_eq_true rfl⟩, kc_X12_scan.2.1, kc_X12_scan.2.2.1, kc_X12_scan.2.2.2, rfl⟩, km_X12_309, kt_X12_scan, ke_X12_scan⟩
theorem kv_X12_advance_309 : x_LV MX12_advance 309 MX12_scan 0 := ⟨⟨kc_X12_scan.1, ⟨Nat.le_of_ble_eq_true rfl, Nat.le_of_ble_eq_true rfl⟩, kc_X12_scan.2.1, kc_X12_scan.2.2.1, kc_X12_scan.2.2.2, rfl⟩, km_X12_309, kt_X12_scan, ke_X12_scan⟩
theorem kv_X12_isWord_315 : x_LV MX12_isWord 315 MJ0_length_8abf5 0 := ⟨⟨kc_J0_length_8abf5.1, ⟨Nat.le_of_ble_eq_true rfl, Nat.le_of_ble_eq_true rfl⟩, kc_J0_length_8abf5.2.1, kc_J0_length_8abf5.2.2.1, kc_J0_length_8abf5.2.2.2, rfl⟩, km_X12_315, kt_J0_length_8abf5, ke_J0_length_8abf5⟩
theorem kv_X12_isWord_318 : x_LV MX12_isWord 318 MJ0_charAt_5068e 1 := ⟨⟨kc_J0_charAt_5068e.1, ⟨Nat.le_of_ble_eq_true rfl, Nat.le_of_ble_eq_true rfl⟩, kc_J0_charAt_5068e.2.1, kc_J0_charAt_5068e.2.2.1, kc_J0_charAt_5068e.2.2.2, rfl⟩, km_X12_318, kt_J0_charAt_5068e, ke_J0_charAt_5068e⟩
theorem kv_X12_expect_326 : x_LV MX12_expect 326 MX12_isSymbol 1 := ⟨⟨kc_X12_isSymbol.1, ⟨Nat.le_of_ble_eq_true rfl, Nat.le_of_ble_eq_true rfl⟩, kc_X12_isSymbol.2.1, kc_X12_isSymbol.2.2.1, kc_X12_isSymbol.2.2.2, rfl⟩, km_X12_326, kt_X12_isSymbol, ke_X12_isSymbol⟩
theorem kv_X12_expect_329 : x_LV MX12_expect 329 MX12_check 2 := ⟨⟨kc_X12_check.1, ⟨Nat.le_of_ble_eq_true rfl, Nat.le_of_ble_eq_true rfl⟩, kc_X12_check.2.1, kc_X12_check.2.2.1, kc_X12_check.2.2.2, rfl⟩, km_X12_329, kt_X12_check, ke_X12_check⟩
theorem kv_X12_expect_333 : x_LV MX12_expect 333 MX12_advance 0 := ⟨⟨kc_X12_advance.1, ⟨Nat.le_of_ble_eq_true rfl, Nat.le_of_ble_eq_true rfl⟩, kc_X12_advance.2.1, kc_X12_advance.2.2.1, kc_X12_advance.2.2.2, rfl⟩, km_X12_333, kt_X12_advance, ke_X12_advance⟩
theorem kv_X12_look_329 : x_LV MX12_look 329 MX12_check 2 := ⟨⟨kc_X12_check.1, ⟨Nat.le_of_ble_eq_true rfl, Nat.le_of_ble_eq_true rfl⟩, kc_X12_check.2.1, kc_X12_check.2.2.1, kc_X12_check.2.2.2, rfl⟩, km_X12_329, kt_X12_check, ke_X12_check⟩
theorem kv_X12_look_337 : x_LV MX12_look 337 MX12_value 0 := ⟨⟨kc_X12_value.1, ⟨Nat.le_of_ble_eq_true rfl, Nat.le_of_ble_eq_true rfl⟩, kc_X12_value.2.1, kc_X12_value.2.2.1, kc_X12_value.2.2.2, rfl⟩, km_X12_337, kt_X12_value, ke_X12_value⟩
theorem kv_X12_look_107 : x_LS MX12_look 107 MX12_inRange 3 := ⟨⟨kc_X12_inRange.1, ⟨Nat.le_of_ble_eq_true rfl, Nat.le_of_ble_eq_true rfl⟩, kc_X12_inRange.2.1, kc_X12_inRange.2.2.1, kc_X12_inRange.2.2.2, rfl⟩, km_X12_107, kt_X12_inRange⟩
theorem kv_X12_readNumber_340 : x_LV MX12_readNumber 340 MX12_look 2 := ⟨⟨kc_X12_look.1, ⟨Nat.le_of_ble_eq_true rfl, Nat.le_of_ble_eq_true rfl⟩, kc_X12_look.2.1, kc_X12_look.2.2.1, kc_X12_look.2.2.2, rfl⟩, km_X12_340, kt_X12_look, ke_X12_look⟩
theorem kv_X12_readNumber_333 : x_LV MX12_readNumber 333 MX12_advance 0 := ⟨⟨kc_X12_advance.1, ⟨Nat.le_of_ble_eq_true rfl, Nat.le_of_ble_eq_true rfl⟩, kc_X12_advance.2.1, kc_X12_advance.2.2.1, kc_X12_advance.2.2.2, rfl⟩, km_X12_333, kt_X12_advance, ke_X12_advance⟩
theorem kv_X12_isFaulty_346 : x_LV MX12_isFaulty 346 MX12_finish 0 := ⟨⟨kc_X12_finish.1, ⟨Nat.le_of_ble_eq_true rfl, Nat.le_of_ble_eq_true rfl⟩, kc_X12_finish.2.1, kc_X12_finish.2.2.1, kc_X12_finish.2.2.2, rfl⟩, km_X12_346, kt_X12_finish, ke_X12_finish⟩
theorem kv_X12_isLength_107 : x_LS MX12_isLength 107 MX12_inRange 3 := ⟨⟨kc_X12_inRange.1, ⟨Nat.le_of_ble_eq_true rfl, Nat.le_of_ble_eq_true rfl⟩, kc_X12_inRange.2.1, kc_X12_inRange.2.2.1, kc_X12_inRange.2.2.2, rfl⟩, km_X12_107, kt_X12_inRange⟩
theorem kv_X12_isLayerHere_322 : x_LV MX12_isLayerHere 322 MX12_isWord 1 := ⟨⟨kc_X12_isWord.1, ⟨Nat.le_of_ble_eq_true rfl, Nat.le_of_ble_eq_true rfl⟩, kc_X12_isWord.2.1, kc_X12_isWord.2.2.1, kc_X12_isWord.2.2.2, rfl⟩, km_X12_322, kt_X12_isWord, ke_X12_isWord⟩
theorem kv_X12_readLayer_353 : x_LV MX12_readLayer 353 MX12_isLayerHere 0 := ⟨⟨kc_X12_isLayerHere.1, ⟨Nat.le_of_ble_eq_true rfl, Nat.le_of_ble_eq_true rfl⟩, kc_X12_isLayerHere.2.1, kc_X12_isLayerHere.2.2.1, kc_X12_isLayerHere.2.2.2, rfl⟩, km_X12_353, kt_X12_isLayerHere, ke_X12_isLayerHere⟩
theorem kv_X12_readLayer_329 : x_LV MX12_readLayer 329 MX12_check 2 := ⟨⟨kc_X12_check.1, ⟨Nat.le_of_ble_eq_true rfl, Nat.le_of_ble_eq_true rfl⟩, kc_X12_check.2.1, kc_X12_check.2.2.1, kc_X12_check.2.2.2, rfl⟩, km_X12_329, kt_X12_check, ke_X12_check⟩
theorem kv_X12_readLayer_93 : x_LV MX12_readLayer 93 MX12_of 2 := ⟨⟨kc_X12_of.1, ⟨Nat.le_of_ble_eq_true rfl, Nat.le_of_ble_eq_true rfl⟩, kc_X12_of.2.1, kc_X12_of.2.2.1, kc_X12_of.2.2.2, rfl⟩, km_X12_93, kt_X12_of, ke_X12_of⟩
theorem kv_X12_readLayer_322 : x_LV MX12_readLayer 322 MX12_isWord 1 := ⟨⟨kc_X12_isWord.1, ⟨Nat.le_of_ble_eq_true rfl, Nat.le_of_ble_eq_true rfl⟩, kc_X12_isWord.2.1, kc_X12_isWord.2.2.1, kc_X12_isWord.2.2.2, rfl⟩, km_X12_322, kt_X12_isWord, ke_X12_isWord⟩
theorem kv_X12_readLayer_333 : x_LV MX12_readLayer 333 MX12_advance 0 := ⟨⟨kc_X12_advance.1, ⟨Nat.le_of_ble_eq_true rfl, Nat.le_of_ble_eq_true rfl⟩, kc_X12_advance.2.1, kc_X12_advance.2.2.1, kc_X12_advance.2.2.2, rfl⟩, km_X12_333, kt_X12_advance, ke_X12_advance⟩
theorem kv_X12_readLayer_357 : x_LV MX12_readLayer 357 MX12_readNumber 2 := ⟨⟨kc_X12_readNumber.1, ⟨Nat.le_of_ble_eq_true rfl, Nat.le_of_ble_eq_true rfl⟩, kc_X12_readNumber.2.1, kc_X12_readNumber.2.2.1, kc_X12_readNumber.2.2.2, rfl⟩, km_X12_357, kt_X12_readNumber, ke_X12_readNumber⟩
theorem kv_X12_readLayer_73 : x_LV MX12_readLayer 73 MX12_addLayer 2 := ⟨⟨kc_X12_addLayer.1, ⟨Nat.le_of_ble_eq_true rfl, Nat.le_of_ble_eq_true rfl⟩, kc_X12_addLayer.2.1, kc_X12_addLayer.2.2.1, kc_X12_addLayer.2.2.2, rfl⟩, km_X12_73, kt_X12_addLayer, ke_X12_addLayer⟩
theorem kv_X12_readSheet_322 : x_LV MX12_readSheet 322 MX12_isWord 1 := ⟨⟨kc_X12_isWord.1, ⟨Nat.le_of_ble_eq_true rfl, Nat.le_of_ble_eq_true rfl⟩, kc_X12_isWord.2.1, kc_X12_isWord.2.2.1, kc_X12_isWord.2.2.2, rfl⟩, km_X12_322, kt_X12_isWord, ke_X12_isWord⟩
theorem kv_X12_readSheet_329 : x_LV MX12_readSheet 329 MX12_check 2 := ⟨⟨kc_X12_check.1, ⟨Nat.le_of_ble_eq_true rfl, Nat.le_of_ble_eq_true rfl⟩, kc_X12_check.2.1, kc_X12_check.2.2.1, kc_X12_check.2.2.2, rfl⟩, km_X12_329, kt_X12_check, ke_X12_check⟩
theorem kv_X12_readSheet_333 : x_LV MX12_readSheet 333 MX12_advance 0 := ⟨⟨kc_X12_advance.1, ⟨Nat.le_of_ble_eq_true rfl, Nat.le_of_ble_eq_true rfl⟩, kc_X12_advance.2.1, kc_X12_advance.2.2.1, kc_X12_advance.2.2.2, rfl⟩, km_X12_333, kt_X12_advance, ke_X12_advance⟩
theorem kv_X12_readSheet_357 : x_LV MX12_readSheet 357 MX12_readNumber 2 := ⟨⟨kc_X12_readNumber.1, ⟨Nat.le_of_ble_eq_true rfl, Nat.le_of_ble_eq_true rfl⟩, kc_X12_readNumber.2.1, kc_X12_readNumber.2.2.1, kc_X12_readNumber.2.2.2, rfl⟩, km_X12_357, kt_X12_readNumber, ke_X12_readNumber⟩
theorem kv_X12_readSheet_69 : x_LV MX12_readSheet 69 MX12_startSheet 2 := ⟨⟨kc_X12_startSheet.1, ⟨Nat.le_of_ble_eq_true rfl, Nat.le_of_ble_eq_true rfl⟩, kc_X12_startSheet.2.1, kc_X12_startSheet.2.2.1, kc_X12_startSheet.2.2.2, rfl⟩, km_X12_69, kt_X12_startSheet, ke_X12_startSheet⟩
theorem kv_X12_readSheet_362 : x_LV MX12_readSheet 362 MX12_readLayer 1 := ⟨⟨kc_X12_readLayer.1, ⟨Nat.le_of_ble_eq_true rfl, Nat.le_of_ble_eq_true rfl⟩, kc_X12_readLayer.2.1, kc_X12_readLayer.2.2.1, kc_X12_readLayer.2.2.2, rfl⟩, km_X12_362, kt_X12_readLayer, ke_X12_readLayer⟩
theorem kv_X12_readSheet_353 : x_LV MX12_readSheet 353 MX12_isLayerHere 0 := ⟨⟨kc_X12_isLayerHere.1, ⟨Nat.le_of_ble_eq_true rfl, Nat.le_of_ble_eq_true rfl⟩, kc_X12_isLayerHere.2.1, kc_X12_isLayerHere.2.2.1, kc_X12_isLayerHere.2.2.2, rfl⟩, km_X12_353, kt_X12_isLayerHere, ke_X12_isLayerHere⟩
theorem kv_X12_readSheet_365 : x_LV MX12_readSheet 365 MX12_expect 1 := ⟨⟨kc_X12_expect.1, ⟨Nat.le_of_ble_eq_true rfl, Nat.le_of_ble_eq_true rfl⟩, kc_X12_expect.2.1, kc_X12_expect.2.2.1, kc_X12_expect.2.2.2, rfl⟩, km_X12_365, kt_X12_expect, ke_X12_expect⟩
theorem kv_X12_readBench_322 : x_LV MX12_readBench 322 MX12_isWord 1 := ⟨⟨kc_X12_isWord.1, ⟨Nat.le_of_ble_eq_true rfl, Nat.le_of_ble_eq_true rfl⟩, kc_X12_isWord.2.1, kc_X12_isWord.2.2.1, kc_X12_isWord.2.2.2, rfl⟩, km_X12_322, kt_X12_isWord, ke_X12_isWord⟩
theorem kv_X12_readBench_329 : x_LV MX12_readBench 329 MX12_check 2 := ⟨⟨kc_X12_check.1, ⟨Nat.le_of_ble_eq_true rfl, Nat.le_of_ble_eq_true rfl⟩, kc_X12_check.2.1, kc_X12_check.2.2.1, kc_X12_check.2.2.2, rfl⟩, km_X12_329, kt_X12_check, ke_X12_check⟩
theorem kv_X12_readBench_333 : x_LV MX12_readBench 333 MX12_advance 0 := ⟨⟨kc_X12_advance.1, ⟨Nat.le_of_ble_eq_true rfl, Nat.le_of_ble_eq_true rfl⟩, kc_X12_advance.2.1, kc_X12_advance.2.2.1, kc_X12_advance.2.2.2, rfl⟩, km_X12_333, kt_X12_advance, ke_X12_advance⟩
theorem kv_X12_readBench_357 : x_LV MX12_readBench 357 MX12_readNumber 2 := ⟨⟨kc_X12_readNumber.1, ⟨Nat.le_of_ble_eq_true rfl, Nat.le_of_ble_eq_true rfl⟩, kc_X12_readNumber.2.1, kc_X12_readNumber.2.2.1, kc_X12_readNumber.2.2.2, rfl⟩, km_X12_357, kt_X12_readNumber, ke_X12_readNumber⟩
theorem kv_X12_readBench_365 : x_LV MX12_readBench 365 MX12_expect 1 := ⟨⟨kc_X12_expect.1, ⟨Nat.le_of_ble_eq_true rfl, Nat.le_of_ble_eq_true rfl⟩, kc_X12_expect.2.1, kc_X12_expect.2.2.1, kc_X12_expect.2.2.2, rfl⟩, km_X12_365, kt_X12_expect, ke_X12_expect⟩
theorem kv_X12_readBench_65 : x_LV MX12_readBench 65 MX12_begin 3 := ⟨⟨kc_X12_begin.1, ⟨Nat.le_of_ble_eq_true rfl, Nat.le_of_ble_eq_true rfl⟩, kc_X12_begin.2.1, kc_X12_begin.2.2.1, kc_X12_begin.2.2.2, rfl⟩, km_X12_65, kt_X12_begin, ke_X12_begin⟩
theorem kv_X12_readBench_370 : x_LV MX12_readBench 370 MX12_readSheet 0 := ⟨⟨kc_X12_readSheet.1, ⟨Nat.le_of_ble_eq_true rfl, Nat.le_of_ble_eq_true rfl⟩, kc_X12_readSheet.2.1, kc_X12_readSheet.2.2.1, kc_X12_readSheet.2.2.2, rfl⟩, km_X12_370, kt_X12_readSheet, ke_X12_readSheet⟩
theorem kv_X12_readBench_76 : x_LV MX12_readBench 76 MX12_expectLayers 0 := ⟨⟨kc_X12_expectLayers.1, ⟨Nat.le_of_ble_eq_true rfl, Nat.le_of_ble_eq_true rfl⟩, kc_X12_expectLayers.2.1, kc_X12_expectLayers.2.2.1, kc_X12_expectLayers.2.2.2, rfl⟩, km_X12_76, kt_X12_expectLayers, ke_X12_expectLayers⟩
theorem kv_X12_loadBench_373 : x_LV MX12_loadBench 373 MX12_isLength 1 := ⟨⟨kc_X12_isLength.1, ⟨Nat.le_of_ble_eq_true rfl, Nat.le_of_ble_eq_true rfl⟩, kc_X12_isLength.2.1, kc_X12_isLength.2.2.1, kc_X12_isLength.2.2.2, rfl⟩, km_X12_373, kt_X12_isLength, ke_X12_isLength⟩
theorem kv_X12_loadBench_82 : x_LV MX12_loadBench 82 MX12_lacks 1 := ⟨⟨kc_X12_lacks.1, ⟨Nat.le_of_ble_eq_true rfl, Nat.le_of_ble_eq_true rfl⟩, kc_X12_lacks.2.1, kc_X12_lacks.2.2.1, kc_X12_lacks.2.2.2, rfl⟩, km_X12_82, kt_X12_lacks, ke_X12_lacks⟩
theorem kv_X12_loadBench_376 : x_LV MX12_loadBench 376 MX12_startText 1 := ⟨⟨kc_X12_startText.1, ⟨Nat.le_of_ble_eq_true rfl, Nat.le_of_ble_eq_true rfl⟩, kc_X12_startText.2.1, kc_X12_startText.2.2.1, kc_X12_startText.2.2.2, rfl⟩, km_X12_376, kt_X12_startText, ke_X12_startText⟩
theorem kv_X12_loadBench_379 : x_LV MX12_loadBench 379 MX12_readBench 0 := ⟨⟨kc_X12_readBench.1, ⟨Nat.le_of_ble_eq_true rfl, Nat.le_of_ble_eq_true rfl⟩, kc_X12_readBench.2.1, kc_X12_readBench.2.2.1, kc_X12_readBench.2.2.2, rfl⟩, km_X12_379, kt_X12_readBench, ke_X12_readBench⟩
theorem kv_X12_loadBench_382 : x_LV MX12_loadBench 382 MX12_isFaulty 0 := ⟨⟨kc_X12_isFaulty.1, ⟨Nat.le_of_ble_eq_true rfl, Nat.le_of_ble_eq_true rfl⟩, kc_X12_isFaulty.2.1, kc_X12_isFaulty.2.2.1, kc_X12_isFaulty.2.2.2, rfl⟩, km_X12_382, kt_X12_isFaulty, ke_X12_isFaulty⟩
theorem kv_X12_loadBench_220 : x_LS MX12_loadBench 220 MX12_copy 4 := ⟨⟨kc_X12_copy.1, ⟨Nat.le_of_ble_eq_true rfl, Nat.le_of_ble_eq_true rfl⟩, kc_X12_copy.2.1, kc_X12_copy.2.2.1, kc_X12_copy.2.2.2, rfl⟩, km_X12_220, kt_X12_copy⟩
theorem kv_X12_orderHere_322 : x_LV MX12_orderHere 322 MX12_isWord 1 := ⟨⟨kc_X12_isWord.1, ⟨Nat.le_of_ble_eq_true rfl, Nat.le_of_ble_eq_true rfl⟩, kc_X12_isWord.2.1, kc_X12_isWord.2.2.1, kc_X12_isWord.2.2.2, rfl⟩, km_X12_322, kt_X12_isWord, ke_X12_isWord⟩
theorem kv_X12_readSecond_357 : x_LV MX12_readSecond 357 MX12_readNumber 2 := ⟨⟨kc_X12_readNumber.1, ⟨Nat.le_of_ble_eq_true rfl, Nat.le_of_ble_eq_true rfl⟩, kc_X12_readNumber.2.1, kc_X12_readNumber.2.2.1, kc_X12_readNumber.2.2.2, rfl⟩, km_X12_357, kt_X12_readNumber, ke_X12_readNumber⟩
theorem kv_X12_readOrder_385 : x_LV MX12_readOrder 385 MX12_orderHere 0 := ⟨⟨kc_X12_orderHere.1, ⟨Nat.le_of_ble_eq_true rfl, Nat.le_of_ble_eq_true rfl⟩, kc_X12_orderHere.2.1, kc_X12_orderHere.2.2.1, kc_X12_orderHere.2.2.2, rfl⟩, km_X12_385, kt_X12_orderHere, ke_X12_orderHere⟩
theorem kv_X12_readOrder_329 : x_LV MX12_readOrder 329 MX12_check 2 := ⟨⟨kc_X12_check.1, ⟨Nat.le_of_ble_eq_true rfl, Nat.le_of_ble_eq_true rfl⟩, kc_X12_check.2.1, kc_X12_check.2.2.1, kc_X12_check.2.2.2, rfl⟩, km_X12_329, kt_X12_check, ke_X12_check⟩
theorem kv_X12_readOrder_333 : x_LV MX12_readOrder 333 MX12_advance 0 := ⟨⟨kc_X12_advance.1, ⟨Nat.le_of_ble_eq_true rfl, Nat.le_of_ble_eq_true rfl⟩, kc_X12_advance.2.1, kc_X12_advance.2.2.1, kc_X12_advance.2.2.2, rfl⟩, km_X12_333, kt_X12_advance, ke_X12_advance⟩
theorem kv_X12_readOrder_357 : x_LV MX12_readOrder 357 MX12_readNumber 2 := ⟨⟨kc_X12_readNumber.1, ⟨Nat.le_of_ble_eq_true rfl, Nat.le_of_ble_eq_true rfl⟩, kc_X12_readNumber.2.1, kc_X12_readNumber.2.2.1, kc_X12_readNumber.2.2.2, rfl⟩, km_X12_357, kt_X12_readNumber, ke_X12_readNumber⟩
theorem kv_X12_readOrder_391 : x_LV MX12_readOrder 391 MX12_readSecond 1 := ⟨⟨kc_X12_readSecond.1, ⟨Nat.le_of_ble_eq_true rfl, Nat.le_of_ble_eq_true rfl⟩, kc_X12_readSecond.2.1, kc_X12_readSecond.2.2.1, kc_X12_readSecond.2.2.2, rfl⟩, km_X12_391, kt_X12_readSecond, ke_X12_readSecond⟩
theorem kv_X12_readOrder_365 : x_LV MX12_readOrder 365 MX12_expect 1 := ⟨⟨kc_X12_expect.1, ⟨Nat.le_of_ble_eq_true rfl, Nat.le_of_ble_eq_true rfl⟩, kc_X12_expect.2.1, kc_X12_expect.2.2.1, kc_X12_expect.2.2.2, rfl⟩, km_X12_365, kt_X12_expect, ke_X12_expect⟩
theorem kv_X12_does_233 : x_LV MX12_does 233 MX12_doFold 2 := ⟨⟨kc_X12_doFold.1, ⟨Nat.le_of_ble_eq_true rfl, Nat.le_of_ble_eq_true rfl⟩, kc_X12_doFold.2.1, kc_X12_doFold.2.2.1, kc_X12_doFold.2.2.2, rfl⟩, km_X12_233, kt_X12_doFold, ke_X12_doFold⟩
theorem kv_X12_does_239 : x_LV MX12_does 239 MX12_doRoll 2 := ⟨⟨kc_X12_doRoll.1, ⟨Nat.le_of_ble_eq_true rfl, Nat.le_of_ble_eq_true rfl⟩, kc_X12_doRoll.2.1, kc_X12_doRoll.2.2.1, kc_X12_doRoll.2.2.2, rfl⟩, km_X12_239, kt_X12_doRoll, ke_X12_doRoll⟩
theorem kv_X12_does_242 : x_LV MX12_does 242 MX12_doDust 1 := ⟨⟨kc_X12_doDust.1, ⟨Nat.le_of_ble_eq_true rfl, Nat.le_of_ble_eq_true rfl⟩, kc_X12_doDust.2.1, kc_X12_doDust.2.2.1, kc_X12_doDust.2.2.2, rfl⟩, km_X12_242, kt_X12_doDust, ke_X12_doDust⟩
theorem kv_X12_does_245 : x_LV MX12_does 245 MX12_doSeal 1 := ⟨⟨kc_X12_doSeal.1, ⟨Nat.le_of_ble_eq_true rfl, Nat.le_of_ble_eq_true rfl⟩, kc_X12_doSeal.2.1, kc_X12_doSeal.2.2.1, kc_X12_doSeal.2.2.2, rfl⟩, km_X12_245, kt_X12_doSeal, ke_X12_doSeal⟩
theorem kv_X12_does_248 : x_LV MX12_does 248 MX12_doCool 1 := ⟨⟨kc_X12_doCool.1, ⟨Nat.le_of_ble_eq_true rfl, Nat.le_of_ble_eq_true rfl⟩, kc_X12_doCool.2.1, kc_X12_doCool.2.2.1, kc_X12_doCool.2.2.2, rfl⟩, km_X12_248, kt_X12_doCool, ke_X12_doCool⟩
theorem kv_X12_does_251 : x_LV MX12_does 251 MX12_doTakeOut 1 := ⟨⟨kc_X12_doTakeOut.1, ⟨Nat.le_of_ble_eq_true rfl, Nat.le_of_ble_eq_true rfl⟩, kc_X12_doTakeOut.2.1, kc_X12_doTakeOut.2.2.1, kc_X12_doTakeOut.2.2.2, rfl⟩, km_X12_251, kt_X12_doTakeOut, ke_X12_doTakeOut⟩
theorem kv_X12_does_254 : x_LV MX12_does 254 MX12_doHours 1 := ⟨⟨kc_X12_doHours.1, ⟨Nat.le_of_ble_eq_true rfl, Nat.le_of_ble_eq_true rfl⟩, kc_X12_doHours.2.1, kc_X12_doHours.2.2.1, kc_X12_doHours.2.2.2, rfl⟩, km_X12_254, kt_X12_doHours, ke_X12_doHours⟩
theorem kv_X12_does_257 : x_LV MX12_does 257 MX12_doCut 1 := ⟨⟨kc_X12_doCut.1, ⟨Nat.le_of_ble_eq_true rfl, Nat.le_of_ble_eq_true rfl⟩, kc_X12_doCut.2.1, kc_X12_doCut.2.2.1, kc_X12_doCut.2.2.2, rfl⟩, km_X12_257, kt_X12_doCut, ke_X12_doCut⟩
theorem kv_X12_does_260 : x_LV MX12_does 260 MX12_doStack 2 := ⟨⟨kc_X12_doStack.1, ⟨Nat.le_of_ble_eq_true rfl, Nat.le_of_ble_eq_true rfl⟩, kc_X12_doStack.2.1, kc_X12_doStack.2.2.1, kc_X12_doStack.2.2.2, rfl⟩, km_X12_260, kt_X12_doStack, ke_X12_doStack⟩
theorem kv_X12_runScript_373 : x_LV MX12_runScript 373 MX12_isLength 1 := ⟨⟨kc_X12_isLength.1, ⟨Nat.le_of_ble_eq_true rfl, Nat.le_of_ble_eq_true rfl⟩, kc_X12_isLength.2.1, kc_X12_isLength.2.2.1, kc_X12_isLength.2.2.2, rfl⟩, km_X12_373, kt_X12_isLength, ke_X12_isLength⟩
theorem kv_X12_runScript_82 : x_LV MX12_runScript 82 MX12_lacks 1 := ⟨⟨kc_X12_lacks.1, ⟨Nat.le_of_ble_eq_true rfl, Nat.le_of_ble_eq_true rfl⟩, kc_X12_lacks.2.1, kc_X12_lacks.2.2.1, kc_X12_lacks.2.2.2, rfl⟩, km_X12_82, kt_X12_lacks, ke_X12_lacks⟩
theorem kv_X12_runScript_376 : x_LV MX12_runScript 376 MX12_startText 1 := ⟨⟨kc_X12_startText.1, ⟨Nat.le_of_ble_eq_true rfl, Nat.le_of_ble_eq_true rfl⟩, kc_X12_startText.2.1, kc_X12_startText.2.2.1, kc_X12_startText.2.2.2, rfl⟩, km_X12_376, kt_X12_startText, ke_X12_startText⟩
theorem kv_X12_runScript_394 : x_LV MX12_runScript 394 MX12_readOrder 0 := ⟨⟨kc_X12_readOrder.1, ⟨Nat.le_of_ble_eq_true rfl, Nat.le_of_ble_eq_true rfl⟩, kc_X12_readOrder.2.1, kc_X12_readOrder.2.2.1, kc_X12_readOrder.2.2.2, rfl⟩, km_X12_394, kt_X12_readOrder, ke_X12_readOrder⟩
theorem kv_X12_runScript_382 : x_LV MX12_runScript 382 MX12_isFaulty 0 := ⟨⟨kc_X12_isFaulty.1, ⟨Nat.le_of_ble_eq_true rfl, Nat.le_of_ble_eq_true rfl⟩, kc_X12_isFaulty.2.1, kc_X12_isFaulty.2.2.1, kc_X12_isFaulty.2.2.2, rfl⟩, km_X12_382, kt_X12_isFaulty, ke_X12_isFaulty⟩
theorem kv_X12_runScript_230 : x_LV MX12_runScript 230 MX12_keep 0 := ⟨⟨kc_X12_keep.1, ⟨Nat.le_of_ble_eq_true rfl, Nat.le_of_ble_eq_true rfl⟩, kc_X12_keep.2.1, kc_X12_keep.2.2.1, kc_X12_keep.2.2.2, rfl⟩, km_X12_230, kt_X12_keep, ke_X12_keep⟩
theorem kv_X12_runScript_227 : x_LV MX12_runScript 227 MX12_record 0 := ⟨⟨kc_X12_record.1, ⟨Nat.le_of_ble_eq_true rfl, Nat.le_of_ble_eq_true rfl⟩, kc_X12_record.2.1, kc_X12_record.2.2.1, kc_X12_record.2.2.2, rfl⟩, km_X12_227, kt_X12_record, ke_X12_record⟩
theorem kv_X12_runScript_397 : x_LV MX12_runScript 397 MX12_does 1 := ⟨⟨kc_X12_does.1, ⟨Nat.le_of_ble_eq_true rfl, Nat.le_of_ble_eq_true rfl⟩, kc_X12_does.2.1, kc_X12_does.2.2.1, kc_X12_does.2.2.2, rfl⟩, km_X12_397, kt_X12_does, ke_X12_does⟩
theorem kv_L_loadBench_7 : x_LV ML_loadBench 7 MX11_loadBench 1 := ⟨⟨kc_X11_loadBench.1, ⟨Nat.le_of_ble_eq_true rfl, Nat.le_of_ble_eq_true rfl⟩, kc_X11_loadBench.2.1, kc_X11_loadBench.2.2.1, kc_X11_loadBench.2.2.2, rfl⟩, km_L_7, kt_X11_loadBench, ke_X11_loadBench⟩
theorem kv_L_layerCount_15 : x_LV ML_layerCount 15 MX11_layerCount 1 := ⟨⟨kc_X11_layerCount.1, ⟨Nat.le_of_ble_eq_true rfl, Nat.le_of_ble_eq_true rfl⟩, kc_X11_layerCount.2.1, kc_X11_layerCount.2.2.1, kc_X11_layerCount.2.2.2, rfl⟩, km_L_15, kt_X11_layerCount, ke_X11_layerCount⟩
theorem kv_L_butterLayerCount_20 : x_LV ML_butterLayerCount 20 MX11_butterLayerCount 1 := ⟨⟨kc_X11_butterLayerCount.1, ⟨Nat.le_of_ble_eq_true rfl, Nat.le_of_ble_eq_true rfl⟩, kc_X11_butterLayerCount.2.1, kc_X11_butterLayerCount.2.2.1, kc_X11_butterLayerCount.2.2.2, rfl⟩, km_L_20, kt_X11_butterLayerCount, ke_X11_butterLayerCount⟩
theorem kv_L_isButter_23 : x_LV ML_isButter 23 MX11_isButter 2 := ⟨⟨kc_X11_isButter.1, ⟨Nat.le_of_ble_eq_true rfl, Nat.le_of_ble_eq_true rfl⟩, kc_X11_isButter.2.1, kc_X11_isButter.2.2.1, kc_X11_isButter.2.2.2, rfl⟩, km_L_23, kt_X11_isButter, ke_X11_isButter⟩
theorem kv_L_thickness_27 : x_LV ML_thickness 27 MX11_thickness 2 := ⟨⟨kc_X11_thickness.1, ⟨Nat.le_of_ble_eq_true rfl, Nat.le_of_ble_eq_true rfl⟩, kc_X11_thickness.2.1, kc_X11_thickness.2.2.1, kc_X11_thickness.2.2.2, rfl⟩, km_L_27, kt_X11_thickness, ke_X11_thickness⟩
theorem kv_L_height_31 : x_LV ML_height 31 MX11_height 1 := ⟨⟨kc_X11_height.1, ⟨Nat.le_of_ble_eq_true rfl, Nat.le_of_ble_eq_true rfl⟩, kc_X11_height.2.1, kc_X11_height.2.2.1, kc_X11_height.2.2.2, rfl⟩, km_L_31, kt_X11_height, ke_X11_height⟩
theorem kv_L_butterHeight_34 : x_LV ML_butterHeight 34 MX11_butterHeight 1 := ⟨⟨kc_X11_butterHeight.1, ⟨Nat.le_of_ble_eq_true rfl, Nat.le_of_ble_eq_true rfl⟩, kc_X11_butterHeight.2.1, kc_X11_butterHeight.2.2.1, kc_X11_butterHeight.2.2.2, rfl⟩, km_L_34, kt_X11_butterHeight, ke_X11_butterHeight⟩
theorem kv_L_thinnestLayer_37 : x_LV ML_thinnestLayer 37 MX11_thinnestLayer 1 := ⟨⟨kc_X11_thinnestLayer.1, ⟨Nat.le_of_ble_eq_true rfl, Nat.le_of_ble_eq_true rfl⟩, kc_X11_thinnestLayer.2.1, kc_X11_thinnestLayer.2.2.1, kc_X11_thinnestLayer.2.2.2, rfl⟩, km_L_37, kt_X11_thinnestLayer, ke_X11_thinnestLayer⟩
theorem kv_L_thickestLayer_40 : x_LV ML_thickestLayer 40 MX11_thickestLayer 1 := ⟨⟨kc_X11_thickestLayer.1, ⟨Nat.le_of_ble_eq_true rfl, Nat.le_of_ble_eq_true rfl⟩, kc_X11_thickestLayer.2.1, kc_X11_thickestLayer.2.2.1, kc_X11_thickestLayer.2.2.2, rfl⟩, km_L_40, kt_X11_thickestLayer, ke_X11_thickestLayer⟩
theorem kv_L_seamCount_43 : x_LV ML_seamCount 43 MX11_seamCount 1 := ⟨⟨kc_X11_seamCount.1, ⟨Nat.le_of_ble_eq_true rfl, Nat.le_of_ble_eq_true rfl⟩, kc_X11_seamCount.2.1, kc_X11_seamCount.2.2.1, kc_X11_seamCount.2.2.2, rfl⟩, km_L_43, kt_X11_seamCount, ke_X11_seamCount⟩
theorem kv_L_isSymmetric_46 : x_LV ML_isSymmetric 46 MX11_isSymmetric 1 := ⟨⟨kc_X11_isSymmetric.1, ⟨Nat.le_of_ble_eq_true rfl, Nat.le_of_ble_eq_true rfl⟩, kc_X11_isSymmetric.2.1, kc_X11_isSymmetric.2.2.1, kc_X11_isSymmetric.2.2.2, rfl⟩, km_L_46, kt_X11_isSymmetric, ke_X11_isSymmetric⟩
theorem kv_L_temperature_50 : x_LV ML_temperature 50 MX11_temperature 1 := ⟨⟨kc_X11_temperature.1, ⟨Nat.le_of_ble_eq_true rfl, Nat.le_of_ble_eq_true rfl⟩, kc_X11_temperature.2.1, kc_X11_temperature.2.2.1, kc_X11_temperature.2.2.2, rfl⟩, km_L_50, kt_X11_temperature, ke_X11_temperature⟩
theorem kv_L_isDusted_53 : x_LV ML_isDusted 53 MX11_isDusted 1 := ⟨⟨kc_X11_isDusted.1, ⟨Nat.le_of_ble_eq_true rfl, Nat.le_of_ble_eq_true rfl⟩, kc_X11_isDusted.2.1, kc_X11_isDusted.2.2.1, kc_X11_isDusted.2.2.2, rfl⟩, km_L_53, kt_X11_isDusted, ke_X11_isDusted⟩
theorem kv_L_isSealed_56 : x_LV ML_isSealed 56 MX11_isSealed 1 := ⟨⟨kc_X11_isSealed.1, ⟨Nat.le_of_ble_eq_true rfl, Nat.le_of_ble_eq_true rfl⟩, kc_X11_isSealed.2.1, kc_X11_isSealed.2.2.1, kc_X11_isSealed.2.2.2, rfl⟩, km_L_56, kt_X11_isSealed, ke_X11_isSealed⟩
theorem kv_L_isCooling_59 : x_LV ML_isCooling 59 MX11_isCooling 1 := ⟨⟨kc_X11_isCooling.1, ⟨Nat.le_of_ble_eq_true rfl, Nat.le_of_ble_eq_true rfl⟩, kc_X11_isCooling.2.1, kc_X11_isCooling.2.2.1, kc_X11_isCooling.2.2.2, rfl⟩, km_L_59, kt_X11_isCooling, ke_X11_isCooling⟩
theorem kv_L_foldCount_62 : x_LV ML_foldCount 62 MX11_foldCount 1 := ⟨⟨kc_X11_foldCount.1, ⟨Nat.le_of_ble_eq_true rfl, Nat.le_of_ble_eq_true rfl⟩, kc_X11_foldCount.2.1, kc_X11_foldCount.2.2.1, kc_X11_foldCount.2.2.2, rfl⟩, km_L_62, kt_X11_foldCount, ke_X11_foldCount⟩
theorem kv_L_expectedLayers_65 : x_LV ML_expectedLayers 65 MX11_expectedLayers 1 := ⟨⟨kc_X11_expectedLayers.1, ⟨Nat.le_of_ble_eq_true rfl, Nat.le_of_ble_eq_true rfl⟩, kc_X11_expectedLayers.2.1, kc_X11_expectedLayers.2.2.1, kc_X11_expectedLayers.2.2.2, rfl⟩, km_L_65, kt_X11_expectedLayers, ke_X11_expectedLayers⟩
theorem kv_L_butterShare_68 : x_LV ML_butterShare 68 MX11_butterShare 1 := ⟨⟨kc_X11_butterShare.1, ⟨Nat.le_of_ble_eq_true rfl, Nat.le_of_ble_eq_true rfl⟩, kc_X11_butterShare.2.1, kc_X11_butterShare.2.2.1, kc_X11_butterShare.2.2.2, rfl⟩, km_L_68, kt_X11_butterShare, ke_X11_butterShare⟩
theorem kv_L_meanThickness_72 : x_LV ML_meanThickness 72 MX11_meanThickness 1 := ⟨⟨kc_X11_meanThickness.1, ⟨Nat.le_of_ble_eq_true rfl, Nat.le_of_ble_eq_true rfl⟩, kc_X11_meanThickness.2.1, kc_X11_meanThickness.2.2.1, kc_X11_meanThickness.2.2.2, rfl⟩, km_L_72, kt_X11_meanThickness, ke_X11_meanThickness⟩
theorem kv_L_foldObstacle_76 : x_LV ML_foldObstacle 76 MX11_foldObstacle 2 := ⟨⟨kc_X11_foldObstacle.1, ⟨Nat.le_of_ble_eq_true rfl, Nat.le_of_ble_eq_true rfl⟩, kc_X11_foldObstacle.2.1, kc_X11_foldObstacle.2.2.1, kc_X11_foldObstacle.2.2.2, rfl⟩, km_L_76, kt_X11_foldObstacle, ke_X11_foldObstacle⟩
theorem kv_L_layersAfterFold_79 : x_LV ML_layersAfterFold 79 MX11_layersAfterFold 2 := ⟨⟨kc_X11_layersAfterFold.1, ⟨Nat.le_of_ble_eq_true rfl, Nat.le_of_ble_eq_true rfl⟩, kc_X11_layersAfterFold.2.1, kc_X11_layersAfterFold.2.2.1, kc_X11_layersAfterFold.2.2.2, rfl⟩, km_L_79, kt_X11_layersAfterFold, ke_X11_layersAfterFold⟩
theorem kv_L_foldsPossible_82 : x_LV ML_foldsPossible 82 MX11_foldsPossible 2 := ⟨⟨kc_X11_foldsPossible.1, ⟨Nat.le_of_ble_eq_true rfl, Nat.le_of_ble_eq_true rfl⟩, kc_X11_foldsPossible.2.1, kc_X11_foldsPossible.2.2.1, kc_X11_foldsPossible.2.2.2, rfl⟩, km_L_82, kt_X11_foldsPossible, ke_X11_foldsPossible⟩
theorem kv_L_butterAtRisk_85 : x_LV ML_butterAtRisk 85 MX11_butterAtRisk 1 := ⟨⟨kc_X11_butterAtRisk.1, ⟨Nat.le_of_ble_eq_true rfl, Nat.le_of_ble_eq_true rfl⟩, kc_X11_butterAtRisk.2.1, kc_X11_butterAtRisk.2.2.1, kc_X11_butterAtRisk.2.2.2, rfl⟩, km_L_85, kt_X11_butterAtRisk, ke_X11_butterAtRisk⟩
theorem kv_L_layersAtRisk_88 : x_LV ML_layersAtRisk 88 MX11_layersAtRisk 2 := ⟨⟨kc_X11_layersAtRisk.1, ⟨Nat.le_of_ble_eq_true rfl, Nat.le_of_ble_eq_true rfl⟩, kc_X11_layersAtRisk.2.1, kc_X11_layersAtRisk.2.2.1, kc_X11_layersAtRisk.2.2.2, rfl⟩, km_L_88, kt_X11_layersAtRisk, ke_X11_layersAtRisk⟩
theorem kv_L_heightAfterRoll_91 : x_LV ML_heightAfterRoll 91 MX11_heightAfterRoll 2 := ⟨⟨kc_X11_heightAfterRoll.1, ⟨Nat.le_of_ble_eq_true rfl, Nat.le_of_ble_eq_true rfl⟩, kc_X11_heightAfterRoll.2.1, kc_X11_heightAfterRoll.2.2.1, kc_X11_heightAfterRoll.2.2.2, rfl⟩, km_L_91, kt_X11_heightAfterRoll, ke_X11_heightAfterRoll⟩
theorem kv_L_temperatureAfter_94 : x_LV ML_temperatureAfter 94 MX11_temperatureAfter 2 := ⟨⟨kc_X11_temperatureAfter.1, ⟨Nat.le_of_ble_eq_true rfl, Nat.le_of_ble_eq_true rfl⟩, kc_X11_temperatureAfter.2.1, kc_X11_temperatureAfter.2.2.1, kc_X11_temperatureAfter.2.2.2, rfl⟩, km_L_94, kt_X11_temperatureAfter, ke_X11_temperatureAfter⟩
theorem kv_L_hoursToSafety_97 : x_LV ML_hoursToSafety 97 MX11_hoursToSafety 1 := ⟨⟨kc_X11_hoursToSafety.1, ⟨Nat.le_of_ble_eq_true rfl, Nat.le_of_ble_eq_true rfl⟩, kc_X11_hoursToSafety.2.1, kc_X11_hoursToSafety.2.2.1, kc_X11_hoursToSafety.2.2.2, rfl⟩, km_L_97, kt_X11_hoursToSafety, ke_X11_hoursToSafety⟩
theorem kv_L_fold_100 : x_LV ML_fold 100 MX11_fold 2 := ⟨⟨kc_X11_fold.1, ⟨Nat.le_of_ble_eq_true rfl, Nat.le_of_ble_eq_true rfl⟩, kc_X11_fold.2.1, kc_X11_fold.2.2.1, kc_X11_fold.2.2.2, rfl⟩, km_L_100, kt_X11_fold, ke_X11_fold⟩
theorem kv_L_roll_105 : x_LV ML_roll 105 MX11_roll 2 := ⟨⟨kc_X11_roll.1, ⟨Nat.le_of_ble_eq_true rfl, Nat.le_of_ble_eq_true rfl⟩, kc_X11_roll.2.1, kc_X11_roll.2.2.1, kc_X11_roll.2.2.2, rfl⟩, km_L_105, kt_X11_roll, ke_X11_roll⟩
theorem kv_L_dust_108 : x_LV ML_dust 108 MX11_dust 1 := ⟨⟨kc_X11_dust.1, ⟨Nat.le_of_ble_eq_true rfl, Nat.le_of_ble_eq_true rfl⟩, kc_X11_dust.2.1, kc_X11_dust.2.2.1, kc_X11_dust.2.2.2, rfl⟩, km_L_108, kt_X11_dust, ke_X11_dust⟩
theorem kv_L_seal_111 : x_LV ML_seal 111 MX11_seal 1 := ⟨⟨kc_X11_seal.1, ⟨Nat.le_of_ble_eq_true rfl, Nat.le_of_ble_eq_true rfl⟩, kc_X11_seal.2.1, kc_X11_seal.2.2.1, kc_X11_seal.2.2.2, rfl⟩, km_L_111, kt_X11_seal, ke_X11_seal⟩
theorem kv_L_cool_114 : x_LV ML_cool 114 MX11_cool 1 := ⟨⟨kc_X11_cool.1, ⟨Nat.le_of_ble_eq_true rfl, Nat.le_of_ble_eq_true rfl⟩, kc_X11_cool.2.1, kc_X11_cool.2.2.1, kc_X11_cool.2.2.2, rfl⟩, km_L_114, kt_X11_cool, ke_X11_cool⟩
theorem kv_L_takeOut_117 : x_LV ML_takeOut 117 MX11_takeOut 1 := ⟨⟨kc_X11_takeOut.1, ⟨Nat.le_of_ble_eq_true rfl, Nat.le_of_ble_eq_true rfl⟩, kc_X11_takeOut.2.1, kc_X11_takeOut.2.2.1, kc_X11_takeOut.2.2.2, rfl⟩, km_L_117, kt_X11_takeOut, ke_X11_takeOut⟩
theorem kv_L_passHours_120 : x_LV ML_passHours 120 MX11_passHours 1 := ⟨⟨kc_X11_passHours.1, ⟨Nat.le_of_ble_eq_true rfl, Nat.le_of_ble_eq_true rfl⟩, kc_X11_passHours.2.1, kc_X11_passHours.2.2.1, kc_X11_passHours.2.2.2, rfl⟩, km_L_120, kt_X11_passHours, ke_X11_passHours⟩
theorem kv_L_cut_123 : x_LV ML_cut 123 MX11_cut 1 := ⟨⟨kc_X11_cut.1, ⟨Nat.le_of_ble_eq_true rfl, Nat.le_of_ble_eq_true rfl⟩, kc_X11_cut.2.1, kc_X11_cut.2.2.1, kc_X11_cut.2.2.2, rfl⟩, km_L_123, kt_X11_cut, ke_X11_cut⟩
theorem kv_L_stack_126 : x_LV ML_stack 126 MX11_stack 2 := ⟨⟨kc_X11_stack.1, ⟨Nat.le_of_ble_eq_true rfl, Nat.le_of_ble_eq_true rfl⟩, kc_X11_stack.2.1, kc_X11_stack.2.2.1, kc_X11_stack.2.2.2, rfl⟩, km_L_126, kt_X11_stack, ke_X11_stack⟩
theorem kv_L_addButter_129 : x_LV ML_addButter 129 MX11_addButter 2 := ⟨⟨kc_X11_addButter.1, ⟨Nat.le_of_ble_eq_true rfl, Nat.le_of_ble_eq_true rfl⟩, kc_X11_addButter.2.1, kc_X11_addButter.2.2.1, kc_X11_addButter.2.2.2, rfl⟩, km_L_129, kt_X11_addButter, ke_X11_addButter⟩
theorem kv_L_buyFlour_132 : x_LV ML_buyFlour 132 MX11_buyFlour 1 := ⟨⟨kc_X11_buyFlour.1, ⟨Nat.le_of_ble_eq_true rfl, Nat.le_of_ble_eq_true rfl⟩, kc_X11_buyFlour.2.1, kc_X11_buyFlour.2.2.1, kc_X11_buyFlour.2.2.2, rfl⟩, km_L_132, kt_X11_buyFlour, ke_X11_buyFlour⟩
theorem kv_L_runScript_135 : x_LV ML_runScript 135 MX11_runScript 1 := ⟨⟨kc_X11_runScript.1, ⟨Nat.le_of_ble_eq_true rfl, Nat.le_of_ble_eq_true rfl⟩, kc_X11_runScript.2.1, kc_X11_runScript.2.2.1, kc_X11_runScript.2.2.2, rfl⟩, km_L_135, kt_X11_runScript, ke_X11_runScript⟩
theorem kv_L_writeSheet_138 : x_LV ML_writeSheet 138 MX11_writeSheet 1 := ⟨⟨kc_X11_writeSheet.1, ⟨Nat.le_of_ble_eq_true rfl, Nat.le_of_ble_eq_true rfl⟩, kc_X11_writeSheet.2.1, kc_X11_writeSheet.2.2.1, kc_X11_writeSheet.2.2.2, rfl⟩, km_L_138, kt_X11_writeSheet, ke_X11_writeSheet⟩
theorem kv_L_outputByte_141 : x_LV ML_outputByte 141 MX11_outputByte 1 := ⟨⟨kc_X11_outputByte.1, ⟨Nat.le_of_ble_eq_true rfl, Nat.le_of_ble_eq_true rfl⟩, kc_X11_outputByte.2.1, kc_X11_outputByte.2.2.1, kc_X11_outputByte.2.2.2, rfl⟩, km_L_141, kt_X11_outputByte, ke_X11_outputByte⟩
theorem kv_L_undo_144 : x_LV ML_undo 144 MX11_undo 0 := ⟨⟨kc_X11_undo.1, ⟨Nat.le_of_ble_eq_true rfl, Nat.le_of_ble_eq_true rfl⟩, kc_X11_undo.2.1, kc_X11_undo.2.2.1, kc_X11_undo.2.2.2, rfl⟩, km_L_144, kt_X11_undo, ke_X11_undo⟩
theorem kv_L_restoreSnapshot_148 : x_LV ML_restoreSnapshot 148 MX11_restoreSnapshot 0 := ⟨⟨kc_X11_restoreSnapshot.1, ⟨Nat.le_of_ble_eq_true rfl, Nat.le_of_ble_eq_true rfl⟩, kc_X11_restoreSnapshot.2.1, kc_X11_restoreSnapshot.2.2.1, kc_X11_restoreSnapshot.2.2.2, rfl⟩, km_L_148, kt_X11_restoreSnapshot, ke_X11_restoreSnapshot⟩
theorem kv_L_law_151 : x_LI ML_law 151 MX11_init 0 := ⟨⟨kc_X11_init.1, ⟨Nat.le_of_ble_eq_true rfl, Nat.le_of_ble_eq_true rfl⟩, kc_X11_init.2.1, kc_X11_init.2.2.1, kc_X11_init.2.2.2, rfl⟩, km_L_151, kt_X11_init, rfl, rfl⟩
theorem kv_L_law_154 : x_LI ML_law 154 MX12_init 0 := ⟨⟨kc_X12_init.1, ⟨Nat.le_of_ble_eq_true rfl, Nat.le_of_ble_eq_true rfl⟩, kc_X12_init.2.1, kc_X12_init.2.2.1, kc_X12_init.2.2.2, rfl⟩, km_L_154, kt_X12_init, rfl, rfl⟩
theorem kv_L_law_155 : x_LV ML_law 155 MX11_appendText 5 := ⟨⟨kc_X11_appendText.1, ⟨Nat.le_of_ble_eq_true rfl, Nat.le_of_ble_eq_true rfl⟩, kc_X11_appendText.2.1, kc_X11_appendText.2.2.1, kc_X11_appendText.2.2.2, rfl⟩, km_L_155, kt_X11_appendText, ke_X11_appendText⟩
theorem kv_L_law_159 : x_LV ML_law 159 MX12_appendText 5 := ⟨⟨kc_X12_appendText.1, ⟨Nat.le_of_ble_eq_true rfl, Nat.le_of_ble_eq_true rfl⟩, kc_X12_appendText.2.1, kc_X12_appendText.2.2.1, kc_X12_appendText.2.2.2, rfl⟩, km_L_159, kt_X12_appendText, ke_X12_appendText⟩
theorem kv_L_law_165 : x_LV ML_law 165 MX12_loadBench 1 := ⟨⟨kc_X12_loadBench.1, ⟨Nat.le_of_ble_eq_true rfl, Nat.le_of_ble_eq_true rfl⟩, kc_X12_loadBench.2.1, kc_X12_loadBench.2.2.1, kc_X12_loadBench.2.2.2, rfl⟩, km_L_165, kt_X12_loadBench, ke_X12_loadBench⟩
theorem kv_L_law_166 : x_LV ML_law 166 MX12_thrown 0 := ⟨⟨kc_X12_thrown.1, ⟨Nat.le_of_ble_eq_true rfl, Nat.le_of_ble_eq_true rfl⟩, kc_X12_thrown.2.1, kc_X12_thrown.2.2.1, kc_X12_thrown.2.2.2, rfl⟩, km_L_166, kt_X12_thrown, ke_X12_thrown⟩
theorem kv_L_law_169 : x_LV ML_law 169 MX11_errorCode 0 := ⟨⟨kc_X11_errorCode.1, ⟨Nat.le_of_ble_eq_true rfl, Nat.le_of_ble_eq_true rfl⟩, kc_X11_errorCode.2.1, kc_X11_errorCode.2.2.1, kc_X11_errorCode.2.2.2, rfl⟩, km_L_169, kt_X11_errorCode, ke_X11_errorCode⟩
theorem kv_L_law_172 : x_LV ML_law 172 MX12_errorCode 0 := ⟨⟨kc_X12_errorCode.1, ⟨Nat.le_of_ble_eq_true rfl, Nat.le_of_ble_eq_true rfl⟩, kc_X12_errorCode.2.1, kc_X12_errorCode.2.2.1, kc_X12_errorCode.2.2.2, rfl⟩, km_L_172, kt_X12_errorCode, ke_X12_errorCode⟩
theorem kv_L_law_173 : x_LV ML_law 173 MX11_errorOffset 0 := ⟨⟨kc_X11_errorOffset.1, ⟨Nat.le_of_ble_eq_true rfl, Nat.le_of_ble_eq_true rfl⟩, kc_X11_errorOffset.2.1, kc_X11_errorOffset.2.2.1, kc_X11_errorOffset.2.2.2, rfl⟩, km_L_173, kt_X11_errorOffset, ke_X11_errorOffset⟩
theorem kv_L_law_176 : x_LV ML_law 176 MX12_errorOffset 0 := ⟨⟨kc_X12_errorOffset.1, ⟨Nat.le_of_ble_eq_true rfl, Nat.le_of_ble_eq_true rfl⟩, kc_X12_errorOffset.2.1, kc_X12_errorOffset.2.2.1, kc_X12_errorOffset.2.2.2, rfl⟩, km_L_176, kt_X12_errorOffset, ke_X12_errorOffset⟩
theorem kv_L_law_177 : x_LV ML_law 177 MX11_sheetCount 0 := ⟨⟨kc_X11_sheetCount.1, ⟨Nat.le_of_ble_eq_true rfl, Nat.le_of_ble_eq_true rfl⟩, kc_X11_sheetCount.2.1, kc_X11_sheetCount.2.2.1, kc_X11_sheetCount.2.2.2, rfl⟩, km_L_177, kt_X11_sheetCount, ke_X11_sheetCount⟩
theorem kv_L_law_180 : x_LV ML_law 180 MX12_sheetCount 0 := ⟨⟨kc_X12_sheetCount.1, ⟨Nat.le_of_ble_eq_true rfl, Nat.le_of_ble_eq_true rfl⟩, kc_X12_sheetCount.2.1, kc_X12_sheetCount.2.2.1, kc_X12_sheetCount.2.2.2, rfl⟩, km_L_180, kt_X12_sheetCount, ke_X12_sheetCount⟩
theorem kv_L_law_181 : x_LV ML_law 181 MX11_roomTemperature 0 := ⟨⟨kc_X11_roomTemperature.1, ⟨Nat.le_of_ble_eq_true rfl, Nat.le_of_ble_eq_true rfl⟩, kc_X11_roomTemperature.2.1, kc_X11_roomTemperature.2.2.1, kc_X11_roomTemperature.2.2.2, rfl⟩, km_L_181, kt_X11_roomTemperature, ke_X11_roomTemperature⟩
theorem kv_L_law_184 : x_LV ML_law 184 MX12_roomTemperature 0 := ⟨⟨kc_X12_roomTemperature.1, ⟨Nat.le_of_ble_eq_true rfl, Nat.le_of_ble_eq_true rfl⟩, kc_X12_roomTemperature.2.1, kc_X12_roomTemperature.2.2.1, kc_X12_roomTemperature.2.2.2, rfl⟩, km_L_184, kt_X12_roomTemperature, ke_X12_roomTemperature⟩
theorem kv_L_law_185 : x_LV ML_law 185 MX11_meltingPoint 0 := ⟨⟨kc_X11_meltingPoint.1, ⟨Nat.le_of_ble_eq_true rfl, Nat.le_of_ble_eq_true rfl⟩, kc_X11_meltingPoint.2.1, kc_X11_meltingPoint.2.2.1, kc_X11_meltingPoint.2.2.2, rfl⟩, km_L_185, kt_X11_meltingPoint, ke_X11_meltingPoint⟩
theorem kv_L_law_188 : x_LV ML_law 188 MX12_meltingPoint 0 := ⟨⟨kc_X12_meltingPoint.1, ⟨Nat.le_of_ble_eq_true rfl, Nat.le_of_ble_eq_true rfl⟩, kc_X12_meltingPoint.2.1, kc_X12_meltingPoint.2.2.1, kc_X12_meltingPoint.2.2.2, rfl⟩, km_L_188, kt_X12_meltingPoint, ke_X12_meltingPoint⟩
theorem kv_L_law_189 : x_LV ML_law 189 MX11_flour 0 := ⟨⟨kc_X11_flour.1, ⟨Nat.le_of_ble_eq_true rfl, Nat.le_of_ble_eq_true rfl⟩, kc_X11_flour.2.1, kc_X11_flour.2.2.1, kc_X11_flour.2.2.2, rfl⟩, km_L_189, kt_X11_flour, ke_X11_flour⟩
theorem kv_L_law_192 : x_LV ML_law 192 MX12_flour 0 := ⟨⟨kc_X12_flour.1, ⟨Nat.le_of_ble_eq_true rfl, Nat.le_of_ble_eq_true rfl⟩, kc_X12_flour.2.1, kc_X12_flour.2.2.1, kc_X12_flour.2.2.2, rfl⟩, km_L_192, kt_X12_flour, ke_X12_flour⟩
theorem kv_L_law_193 : x_LV ML_law 193 MX11_hoursPassed 0 := ⟨⟨kc_X11_hoursPassed.1, ⟨Nat.le_of_ble_eq_true rfl, Nat.le_of_ble_eq_true rfl⟩, kc_X11_hoursPassed.2.1, kc_X11_hoursPassed.2.2.1, kc_X11_hoursPassed.2.2.2, rfl⟩, km_L_193, kt_X11_hoursPassed, ke_X11_hoursPassed⟩
theorem kv_L_law_196 : x_LV ML_law 196 MX12_hoursPassed 0 := ⟨⟨kc_X12_hoursPassed.1, ⟨Nat.le_of_ble_eq_true rfl, Nat.le_of_ble_eq_true rfl⟩, kc_X12_hoursPassed.2.1, kc_X12_hoursPassed.2.2.1, kc_X12_hoursPassed.2.2.2, rfl⟩, km_L_196, kt_X12_hoursPassed, ke_X12_hoursPassed⟩
theorem kv_L_law_197 : x_LV ML_law 197 MX11_escapedButter 0 := ⟨⟨kc_X11_escapedButter.1, ⟨Nat.le_of_ble_eq_true rfl, Nat.le_of_ble_eq_true rfl⟩, kc_X11_escapedButter.2.1, kc_X11_escapedButter.2.2.1, kc_X11_escapedButter.2.2.2, rfl⟩, km_L_197, kt_X11_escapedButter, ke_X11_escapedButter⟩
theorem kv_L_law_200 : x_LV ML_law 200 MX12_escapedButter 0 := ⟨⟨kc_X12_escapedButter.1, ⟨Nat.le_of_ble_eq_true rfl, Nat.le_of_ble_eq_true rfl⟩, kc_X12_escapedButter.2.1, kc_X12_escapedButter.2.2.1, kc_X12_escapedButter.2.2.2, rfl⟩, km_L_200, kt_X12_escapedButter, ke_X12_escapedButter⟩
theorem kv_L_law_201 : x_LV ML_law 201 MX11_brokenLayers 0 := ⟨⟨kc_X11_brokenLayers.1, ⟨Nat.le_of_ble_eq_true rfl, Nat.le_of_ble_eq_true rfl⟩, kc_X11_brokenLayers.2.1, kc_X11_brokenLayers.2.2.1, kc_X11_brokenLayers.2.2.2, rfl⟩, km_L_201, kt_X11_brokenLayers, ke_X11_brokenLayers⟩
theorem kv_L_law_204 : x_LV ML_law 204 MX12_brokenLayers 0 := ⟨⟨kc_X12_brokenLayers.1, ⟨Nat.le_of_ble_eq_true rfl, Nat.le_of_ble_eq_true rfl⟩, kc_X12_brokenLayers.2.1, kc_X12_brokenLayers.2.2.1, kc_X12_brokenLayers.2.2.2, rfl⟩, km_L_204, kt_X12_brokenLayers, ke_X12_brokenLayers⟩
theorem kv_L_law_205 : x_LV ML_law 205 MX11_warmestSheet 0 := ⟨⟨kc_X11_warmestSheet.1, ⟨Nat.le_of_ble_eq_true rfl, Nat.le_of_ble_eq_true rfl⟩, kc_X11_warmestSheet.2.1, kc_X11_warmestSheet.2.2.1, kc_X11_warmestSheet.2.2.2, rfl⟩, km_L_205, kt_X11_warmestSheet, ke_X11_warmestSheet⟩
theorem kv_L_law_208 : x_LV ML_law 208 MX12_warmestSheet 0 := ⟨⟨kc_X12_warmestSheet.1, ⟨Nat.le_of_ble_eq_true rfl, Nat.le_of_ble_eq_true rfl⟩, kc_X12_warmestSheet.2.1, kc_X12_warmestSheet.2.2.1, kc_X12_warmestSheet.2.2.2, rfl⟩, km_L_208, kt_X12_warmestSheet, ke_X12_warmestSheet⟩
theorem kv_L_law_209 : x_LV ML_law 209 MX11_finestSheet 0 := ⟨⟨kc_X11_finestSheet.1, ⟨Nat.le_of_ble_eq_true rfl, Nat.le_of_ble_eq_true rfl⟩, kc_X11_finestSheet.2.1, kc_X11_finestSheet.2.2.1, kc_X11_finestSheet.2.2.2, rfl⟩, km_L_209, kt_X11_finestSheet, ke_X11_finestSheet⟩
theorem kv_L_law_212 : x_LV ML_law 212 MX12_finestSheet 0 := ⟨⟨kc_X12_finestSheet.1, ⟨Nat.le_of_ble_eq_true rfl, Nat.le_of_ble_eq_true rfl⟩, kc_X12_finestSheet.2.1, kc_X12_finestSheet.2.2.1, kc_X12_finestSheet.2.2.2, rfl⟩, km_L_212, kt_X12_finestSheet, ke_X12_finestSheet⟩
theorem kv_L_law_215 : x_LV ML_law 215 MX12_layerCount 1 := ⟨⟨kc_X12_layerCount.1, ⟨Nat.le_of_ble_eq_true rfl, Nat.le_of_ble_eq_true rfl⟩, kc_X12_layerCount.2.1, kc_X12_layerCount.2.2.1, kc_X12_layerCount.2.2.2, rfl⟩, km_L_215, kt_X12_layerCount, ke_X12_layerCount⟩
theorem kv_L_law_218 : x_LV ML_law 218 MX12_butterLayerCount 1 := ⟨⟨kc_X12_butterLayerCount.1, ⟨Nat.le_of_ble_eq_true rfl, Nat.le_of_ble_eq_true rfl⟩, kc_X12_butterLayerCount.2.1, kc_X12_butterLayerCount.2.2.1, kc_X12_butterLayerCount.2.2.2, rfl⟩, km_L_218, kt_X12_butterLayerCount, ke_X12_butterLayerCount⟩
theorem kv_L_law_222 : x_LV ML_law 222 MX12_isButter 2 := ⟨⟨kc_X12_isButter.1, ⟨Nat.le_of_ble_eq_true rfl, Nat.le_of_ble_eq_true rfl⟩, kc_X12_isButter.2.1, kc_X12_isButter.2.2.1, kc_X12_isButter.2.2.2, rfl⟩, km_L_222, kt_X12_isButter, ke_X12_isButter⟩
theorem kv_L_law_225 : x_LV ML_law 225 MX12_thickness 2 := ⟨⟨kc_X12_thickness.1, ⟨Nat.le_of_ble_eq_true rfl, Nat.le_of_ble_eq_true rfl⟩, kc_X12_thickness.2.1, kc_X12_thickness.2.2.1, kc_X12_thickness.2.2.2, rfl⟩, km_L_225, kt_X12_thickness, ke_X12_thickness⟩
theorem kv_L_law_228 : x_LV ML_law 228 MX12_height 1 := ⟨⟨kc_X12_height.1, ⟨Nat.le_of_ble_eq_true rfl, Nat.le_of_ble_eq_true rfl⟩, kc_X12_height.2.1, kc_X12_height.2.2.1, kc_X12_height.2.2.2, rfl⟩, km_L_228, kt_X12_height, ke_X12_height⟩
theorem kv_L_law_231 : x_LV ML_law 231 MX12_butterHeight 1 := ⟨⟨kc_X12_butterHeight.1, ⟨Nat.le_of_ble_eq_true rfl, Nat.le_of_ble_eq_true rfl⟩, kc_X12_butterHeight.2.1, kc_X12_butterHeight.2.2.1, kc_X12_butterHeight.2.2.2, rfl⟩, km_L_231, kt_X12_butterHeight, ke_X12_butterHeight⟩
theorem kv_L_law_234 : x_LV ML_law 234 MX12_thinnestLayer 1 := ⟨⟨kc_X12_thinnestLayer.1, ⟨Nat.le_of_ble_eq_true rfl, Nat.le_of_ble_eq_true rfl⟩, kc_X12_thinnestLayer.2.1, kc_X12_thinnestLayer.2.2.1, kc_X12_thinnestLayer.2.2.2, rfl⟩, km_L_234, kt_X12_thinnestLayer, ke_X12_thinnestLayer⟩
theorem kv_L_law_237 : x_LV ML_law 237 MX12_thickestLayer 1 := ⟨⟨kc_X12_thickestLayer.1, ⟨Nat.le_of_ble_eq_true rfl, Nat.le_of_ble_eq_true rfl⟩, kc_X12_thickestLayer.2.1, kc_X12_thickestLayer.2.2.1, kc_X12_thickestLayer.2.2.2, rfl⟩, km_L_237, kt_X12_thickestLayer, ke_X12_thickestLayer⟩
theorem kv_L_law_240 : x_LV ML_law 240 MX12_seamCount 1 := ⟨⟨kc_X12_seamCount.1, ⟨Nat.le_of_ble_eq_true rfl, Nat.le_of_ble_eq_true rfl⟩, kc_X12_seamCount.2.1, kc_X12_seamCount.2.2.1, kc_X12_seamCount.2.2.2, rfl⟩, km_L_240, kt_X12_seamCount, ke_X12_seamCount⟩
theorem kv_L_law_243 : x_LV ML_law 243 MX12_isSymmetric 1 := ⟨⟨kc_X12_isSymmetric.1, ⟨Nat.le_of_ble_eq_true rfl, Nat.le_of_ble_eq_true rfl⟩, kc_X12_isSymmetric.2.1, kc_X12_isSymmetric.2.2.1, kc_X12_isSymmetric.2.2.2, rfl⟩, km_L_243, kt_X12_isSymmetric, ke_X12_isSymmetric⟩
theorem kv_L_law_246 : x_LV ML_law 246 MX12_temperature 1 := ⟨⟨kc_X12_temperature.1, ⟨Nat.le_of_ble_eq_true rfl, Nat.le_of_ble_eq_true rfl⟩, kc_X12_temperature.2.1, kc_X12_temperature.2.2.1, kc_X12_temperature.2.2.2, rfl⟩, km_L_246, kt_X12_temperature, ke_X12_temperature⟩
theorem kv_L_law_249 : x_LV ML_law 249 MX12_isDusted 1 := ⟨⟨kc_X12_isDusted.1, ⟨Nat.le_of_ble_eq_true rfl, Nat.le_of_ble_eq_true rfl⟩, kc_X12_isDusted.2.1, kc_X12_isDusted.2.2.1, kc_X12_isDusted.2.2.2, rfl⟩, km_L_249, kt_X12_isDusted, ke_X12_isDusted⟩
theorem kv_L_law_252 : x_LV ML_law 252 MX12_isSealed 1 := ⟨⟨kc_X12_isSealed.1, ⟨Nat.le_of_ble_eq_true rfl, Nat.le_of_ble_eq_true rfl⟩, kc_X12_isSealed.2.1, kc_X12_isSealed.2.2.1, kc_X12_isSealed.2.2.2, rfl⟩, km_L_252, kt_X12_isSealed, ke_X12_isSealed⟩
theorem kv_L_law_255 : x_LV ML_law 255 MX12_isCooling 1 := ⟨⟨kc_X12_isCooling.1, ⟨Nat.le_of_ble_eq_true rfl, Nat.le_of_ble_eq_true rfl⟩, kc_X12_isCooling.2.1, kc_X12_isCooling.2.2.1, kc_X12_isCooling.2.2.2, rfl⟩, km_L_255, kt_X12_isCooling, ke_X12_isCooling⟩
theorem kv_L_law_258 : x_LV ML_law 258 MX12_foldCount 1 := ⟨⟨kc_X12_foldCount.1, ⟨Nat.le_of_ble_eq_true rfl, Nat.le_of_ble_eq_true rfl⟩, kc_X12_foldCount.2.1, kc_X12_foldCount.2.2.1, kc_X12_foldCount.2.2.2, rfl⟩, km_L_258, kt_X12_foldCount, ke_X12_foldCount⟩
theorem kv_L_law_261 : x_LV ML_law 261 MX12_expectedLayers 1 := ⟨⟨kc_X12_expectedLayers.1, ⟨Nat.le_of_ble_eq_true rfl, Nat.le_of_ble_eq_true rfl⟩, kc_X12_expectedLayers.2.1, kc_X12_expectedLayers.2.2.1, kc_X12_expectedLayers.2.2.2, rfl⟩, km_L_261, kt_X12_expectedLayers, ke_X12_expectedLayers⟩
theorem kv_L_law_265 : x_LV ML_law 265 MX12_butterShare 1 := ⟨⟨kc_X12_butterShare.1, ⟨Nat.le_of_ble_eq_true rfl, Nat.le_of_ble_eq_true rfl⟩, kc_X12_butterShare.2.1, kc_X12_butterShare.2.2.1, kc_X12_butterShare.2.2.2, rfl⟩, km_L_265, kt_X12_butterShare, ke_X12_butterShare⟩
theorem kv_L_law_268 : x_LV ML_law 268 MX12_meanThickness 1 := ⟨⟨kc_X12_meanThickness.1, ⟨Nat.le_of_ble_eq_true rfl, Nat.le_of_ble_eq_true rfl⟩, kc_X12_meanThickness.2.1, kc_X12_meanThickness.2.2.1, kc_X12_meanThickness.2.2.2, rfl⟩, km_L_268, kt_X12_meanThickness, ke_X12_meanThickness⟩
theorem kv_L_law_271 : x_LV ML_law 271 MX12_foldObstacle 2 := ⟨⟨kc_X12_foldObstacle.1, ⟨Nat.le_of_ble_eq_true rfl, Nat.le_of_ble_eq_true rfl⟩, kc_X12_foldObstacle.2.1, kc_X12_foldObstacle.2.2.1, kc_X12_foldObstacle.2.2.2, rfl⟩, km_L_271, kt_X12_foldObstacle, ke_X12_foldObstacle⟩
theorem kv_L_law_274 : x_LV ML_law 274 MX12_layersAfterFold 2 := ⟨⟨kc_X12_layersAfterFold.1, ⟨Nat.le_of_ble_eq_true rfl, Nat.le_of_ble_eq_true rfl⟩, kc_X12_layersAfterFold.2.1, kc_X12_layersAfterFold.2.2.1, kc_X12_layersAfterFold.2.2.2, rfl⟩, km_L_274, kt_X12_layersAfterFold, ke_X12_layersAfterFold⟩
theorem kv_L_law_277 : x_LV ML_law 277 MX12_foldsPossible 2 := ⟨⟨kc_X12_foldsPossible.1, ⟨Nat.le_of_ble_eq_true rfl, Nat.le_of_ble_eq_true rfl⟩, kc_X12_foldsPossible.2.1, kc_X12_foldsPossible.2.2.1, kc_X12_foldsPossible.2.2.2, rfl⟩, km_L_277, kt_X12_foldsPossible, ke_X12_foldsPossible⟩
theorem kv_L_law_280 : x_LV ML_law 280 MX12_butterAtRisk 1 := ⟨⟨kc_X12_butterAtRisk.1, ⟨Nat.le_of_ble_eq_true rfl, Nat.le_of_ble_eq_true rfl⟩, kc_X12_butterAtRisk.2.1, kc_X12_butterAtRisk.2.2.1, kc_X12_butterAtRisk.2.2.2, rfl⟩, km_L_280, kt_X12_butterAtRisk, ke_X12_butterAtRisk⟩
theorem kv_L_law_283 : x_LV ML_law 283 MX12_layersAtRisk 2 := ⟨⟨kc_X12_layersAtRisk.1, ⟨Nat.le_of_ble_eq_true rfl, Nat.le_of_ble_eq_true rfl⟩, kc_X12_layersAtRisk.2.1, kc_X12_layersAtRisk.2.2.1, kc_X12_layersAtRisk.2.2.2, rfl⟩, km_L_283, kt_X12_layersAtRisk, ke_X12_layersAtRisk⟩
theorem kv_L_law_286 : x_LV ML_law 286 MX12_heightAfterRoll 2 := ⟨⟨kc_X12_heightAfterRoll.1, ⟨Nat.le_of_ble_eq_true rfl, Nat.le_of_ble_eq_true rfl⟩, kc_X12_heightAfterRoll.2.1, kc_X12_heightAfterRoll.2.2.1, kc_X12_heightAfterRoll.2.2.2, rfl⟩, km_L_286, kt_X12_heightAfterRoll, ke_X12_heightAfterRoll⟩
theorem kv_L_law_289 : x_LV ML_law 289 MX12_temperatureAfter 2 := ⟨⟨kc_X12_temperatureAfter.1, ⟨Nat.le_of_ble_eq_true rfl, Nat.le_of_ble_eq_true rfl⟩, kc_X12_temperatureAfter.2.1, kc_X12_temperatureAfter.2.2.1, kc_X12_temperatureAfter.2.2.2, rfl⟩, km_L_289, kt_X12_temperatureAfter, ke_X12_temperatureAfter⟩
theorem kv_L_law_292 : x_LV ML_law 292 MX12_hoursToSafety 1 := ⟨⟨kc_X12_hoursToSafety.1, ⟨Nat.le_of_ble_eq_true rfl, Nat.le_of_ble_eq_true rfl⟩, kc_X12_hoursToSafety.2.1, kc_X12_hoursToSafety.2.2.1, kc_X12_hoursToSafety.2.2.2, rfl⟩, km_L_292, kt_X12_hoursToSafety, ke_X12_hoursToSafety⟩
theorem kv_L_law_295 : x_LV ML_law 295 MX12_fold 2 := ⟨⟨kc_X12_fold.1, ⟨Nat.le_of_ble_eq_true rfl, Nat.le_of_ble_eq_true rfl⟩, kc_X12_fold.2.1, kc_X12_fold.2.2.1, kc_X12_fold.2.2.2, rfl⟩, km_L_295, kt_X12_fold, ke_X12_fold⟩
theorem kv_L_law_298 : x_LV ML_law 298 MX12_roll 2 := ⟨⟨kc_X12_roll.1, ⟨Nat.le_of_ble_eq_true rfl, Nat.le_of_ble_eq_true rfl⟩, kc_X12_roll.2.1, kc_X12_roll.2.2.1, kc_X12_roll.2.2.2, rfl⟩, km_L_298, kt_X12_roll, ke_X12_roll⟩
theorem kv_L_law_301 : x_LV ML_law 301 MX12_dust 1 := ⟨⟨kc_X12_dust.1, ⟨Nat.le_of_ble_eq_true rfl, Nat.le_of_ble_eq_true rfl⟩, kc_X12_dust.2.1, kc_X12_dust.2.2.1, kc_X12_dust.2.2.2, rfl⟩, km_L_301, kt_X12_dust, ke_X12_dust⟩
theorem kv_L_law_304 : x_LV ML_law 304 MX12_seal 1 := ⟨⟨kc_X12_seal.1, ⟨Nat.le_of_ble_eq_true rfl, Nat.le_of_ble_eq_true rfl⟩, kc_X12_seal.2.1, kc_X12_seal.2.2.1, kc_X12_seal.2.2.2, rfl⟩, km_L_304, kt_X12_seal, ke_X12_seal⟩
theorem kv_L_law_307 : x_LV ML_law 307 MX12_cool 1 := ⟨⟨kc_X12_cool.1, ⟨Nat.le_of_ble_eq_true rfl, Nat.le_of_ble_eq_true rfl⟩, kc_X12_cool.2.1, kc_X12_cool.2.2.1, kc_X12_cool.2.2.2, rfl⟩, km_L_307, kt_X12_cool, ke_X12_cool⟩
theorem kv_L_law_310 : x_LV ML_law 310 MX12_takeOut 1 := ⟨⟨kc_X12_takeOut.1, ⟨Nat.le_of_ble_eq_true rfl, Nat.le_of_ble_eq_true rfl⟩, kc_X12_takeOut.2.1, kc_X12_takeOut.2.2.1, kc_X12_takeOut.2.2.2, rfl⟩, km_L_310, kt_X12_takeOut, ke_X12_takeOut⟩
theorem kv_L_law_313 : x_LV ML_law 313 MX12_passHours 1 := ⟨⟨kc_X12_passHours.1, ⟨Nat.le_of_ble_eq_true rfl, Nat.le_of_ble_eq_true rfl⟩, kc_X12_passHours.2.1, kc_X12_passHours.2.2.1, kc_X12_passHours.2.2.2, rfl⟩, km_L_313, kt_X12_passHours, ke_X12_passHours⟩
theorem kv_L_law_316 : x_LV ML_law 316 MX12_cut 1 := ⟨⟨kc_X12_cut.1, ⟨Nat.le_of_ble_eq_true rfl, Nat.le_of_ble_eq_true rfl⟩, kc_X12_cut.2.1, kc_X12_cut.2.2.1, kc_X12_cut.2.2.2, rfl⟩, km_L_316, kt_X12_cut, ke_X12_cut⟩
theorem kv_L_law_319 : x_LV ML_law 319 MX12_stack 2 := ⟨⟨kc_X12_stack.1, ⟨Nat.le_of_ble_eq_true rfl, Nat.le_of_ble_eq_true rfl⟩, kc_X12_stack.2.1, kc_X12_stack.2.2.1, kc_X12_stack.2.2.2, rfl⟩, km_L_319, kt_X12_stack, ke_X12_stack⟩
theorem kv_L_law_322 : x_LV ML_law 322 MX12_addButter 2 := ⟨⟨kc_X12_addButter.1, ⟨Nat.le_of_ble_eq_true rfl, Nat.le_of_ble_eq_true rfl⟩, kc_X12_addButter.2.1, kc_X12_addButter.2.2.1, kc_X12_addButter.2.2.2, rfl⟩, km_L_322, kt_X12_addButter, ke_X12_addButter⟩
theorem kv_L_law_325 : x_LV ML_law 325 MX12_buyFlour 1 := ⟨⟨kc_X12_buyFlour.1, ⟨Nat.le_of_ble_eq_true rfl, Nat.le_of_ble_eq_true rfl⟩, kc_X12_buyFlour.2.1, kc_X12_buyFlour.2.2.1, kc_X12_buyFlour.2.2.2, rfl⟩, km_L_325, kt_X12_buyFlour, ke_X12_buyFlour⟩
theorem kv_L_law_328 : x_LV ML_law 328 MX12_runScript 1 := ⟨⟨kc_X12_runScript.1, ⟨Nat.le_of_ble_eq_true rfl, Nat.le_of_ble_eq_true rfl⟩, kc_X12_runScript.2.1, kc_X12_runScript.2.2.1, kc_X12_runScript.2.2.2, rfl⟩, km_L_328, kt_X12_runScript, ke_X12_runScript⟩
theorem kv_L_law_331 : x_LV ML_law 331 MX12_writeSheet 1 := ⟨⟨kc_X12_writeSheet.1, ⟨Nat.le_of_ble_eq_true rfl, Nat.le_of_ble_eq_true rfl⟩, kc_X12_writeSheet.2.1, kc_X12_writeSheet.2.2.1, kc_X12_writeSheet.2.2.2, rfl⟩, km_L_331, kt_X12_writeSheet, ke_X12_writeSheet⟩
theorem kv_L_law_334 : x_LV ML_law 334 MX12_outputByte 1 := ⟨⟨kc_X12_outputByte.1, ⟨Nat.le_of_ble_eq_true rfl, Nat.le_of_ble_eq_true rfl⟩, kc_X12_outputByte.2.1, kc_X12_outputByte.2.2.1, kc_X12_outputByte.2.2.2, rfl⟩, km_L_334, kt_X12_outputByte, ke_X12_outputByte⟩
theorem kv_L_law_335 : x_LV ML_law 335 MX11_undoableCount 0 := ⟨⟨kc_X11_undoableCount.1, ⟨Nat.le_of_ble_eq_true rfl, Nat.le_of_ble_eq_true rfl⟩, kc_X11_undoableCount.2.1, kc_X11_undoableCount.2.2.1, kc_X11_undoableCount.2.2.2, rfl⟩, km_L_335, kt_X11_undoableCount, ke_X11_undoableCount⟩
theorem kv_L_law_338 : x_LV ML_law 338 MX12_undoableCount 0 := ⟨⟨kc_X12_undoableCount.1, ⟨Nat.le_of_ble_eq_true rfl, Nat.le_of_ble_eq_true rfl⟩, kc_X12_undoableCount.2.1, kc_X12_undoableCount.2.2.1, kc_X12_undoableCount.2.2.2, rfl⟩, km_L_338, kt_X12_undoableCount, ke_X12_undoableCount⟩
theorem kv_L_law_342 : x_LV ML_law 342 MX12_undo 0 := ⟨⟨kc_X12_undo.1, ⟨Nat.le_of_ble_eq_true rfl, Nat.le_of_ble_eq_true rfl⟩, kc_X12_undo.2.1, kc_X12_undo.2.2.1, kc_X12_undo.2.2.2, rfl⟩, km_L_342, kt_X12_undo, ke_X12_undo⟩
theorem kv_L_law_343 : x_LV ML_law 343 MX11_saveSnapshot 0 := ⟨⟨kc_X11_saveSnapshot.1, ⟨Nat.le_of_ble_eq_true rfl, Nat.le_of_ble_eq_true rfl⟩, kc_X11_saveSnapshot.2.1, kc_X11_saveSnapshot.2.2.1, kc_X11_saveSnapshot.2.2.2, rfl⟩, km_L_343, kt_X11_saveSnapshot, ke_X11_saveSnapshot⟩
theorem kv_L_law_346 : x_LV ML_law 346 MX12_saveSnapshot 0 := ⟨⟨kc_X12_saveSnapshot.1, ⟨Nat.le_of_ble_eq_true rfl, Nat.le_of_ble_eq_true rfl⟩, kc_X12_saveSnapshot.2.1, kc_X12_saveSnapshot.2.2.1, kc_X12_saveSnapshot.2.2.2, rfl⟩, km_L_346, kt_X12_saveSnapshot, ke_X12_saveSnapshot⟩
theorem kv_L_law_349 : x_LV ML_law 349 MX12_restoreSnapshot 0 := ⟨⟨kc_X12_restoreSnapshot.1, ⟨Nat.le_of_ble_eq_true rfl, Nat.le_of_ble_eq_true rfl⟩, kc_X12_restoreSnapshot.2.1, kc_X12_restoreSnapshot.2.2.1, kc_X12_restoreSnapshot.2.2.2, rfl⟩, km_L_349, kt_X12_restoreSnapshot, ke_X12_restoreSnapshot⟩
