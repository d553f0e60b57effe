/-! ===== printed by wip/tools/links.py: the methods with their rooms, and the words of the tables that their instructions ask ===== -/
def MX8_init : xM := (yX8_init, cX8_init, 1, none, [], (1, 20, 2, 400))
def MX1_init : xM := (yX1_init, cX1_init, 2, none, [], (2, 40, 19, 2460))
def MX1_begin : xM := (yX1_begin, cX1_begin, 4, none, [], (0, 0, 0, 0))
def MX8_begin : xM := (yX8_begin, cX8_begin, 2, none, [], (0, 0, 0, 0))
def MX1_addSheet : xM := (yX1_addSheet, cX1_addSheet, 2, none, [], (1, 21, 0, 0))
def MX8_wouldJoin : xM := (yX8_wouldJoin, cX8_wouldJoin, 2, (some .boolean), [], (0, 0, 0, 0))
def MX8_putLayer : xM := (yX8_putLayer, cX8_putLayer, 4, (some .boolean), [], (1, 21, 0, 0))
def MX8_load : xM := (yX8_load, cX8_load, 3, none, [], (2, 44, 0, 0))
def MX1_addLayer : xM := (yX1_addLayer, cX1_addLayer, 3, none, [], (3, 66, 0, 0))
def MX1_first : xM := (yX1_first, cX1_first, 1, (some (.object "PastryBench$Bench")), [], (4, 88, 20, 2468))
def MX8_copyFrom : xM := (yX8_copyFrom, cX8_copyFrom, 3, none, [], (0, 0, 0, 0))
def MX1_copyFrom : xM := (yX1_copyFrom, cX1_copyFrom, 3, none, [], (1, 22, 0, 0))
def MX1_hasSheet : xM := (yX1_hasSheet, cX1_hasSheet, 2, (some .boolean), [], (0, 0, 0, 0))
def MX1_findWarmest : xM := (yX1_findWarmest, cX1_findWarmest, 3, (some .int), [], (0, 0, 0, 0))
def MX1_findFinest : xM := (yX1_findFinest, cX1_findFinest, 3, (some .int), [], (0, 0, 0, 0))
def MX1_countSealed : xM := (yX1_countSealed, cX1_countSealed, 3, (some .int), [], (0, 0, 0, 0))
def MX1_countCooling : xM := (yX1_countCooling, cX1_countCooling, 3, (some .int), [], (0, 0, 0, 0))
def MX1_countUnsafe : xM := (yX1_countUnsafe, cX1_countUnsafe, 3, (some .int), [], (0, 0, 0, 0))
def MX1_stateRefusal : xM := (yX1_stateRefusal, cX1_stateRefusal, 1, (some (.object "PastryBench$Refusal")), [], (0, 0, 0, 0))
def MX11_isFactor : xM := (yX11_isFactor, cX11_isFactor, 1, (some .boolean), [], (0, 0, 0, 0))
def MX11_layersFolded : xM := (yX11_layersFolded, cX11_layersFolded, 4, (some .int), [], (0, 0, 0, 0))
def MX8_totalHeight : xM := (yX8_totalHeight, cX8_totalHeight, 3, (some .int), [], (0, 0, 0, 0))
def MX8_findFoldObstacle : xM := (yX8_findFoldObstacle, cX8_findFoldObstacle, 2, (some .int), [], (1, 23, 0, 0))
def MX1_refusalOfFold : xM := (yX1_refusalOfFold, cX1_refusalOfFold, 3, (some (.object "PastryBench$Refusal")), [], (2, 44, 0, 0))
def MX11_warmedByWork : xM := (yX11_warmedByWork, cX11_warmedByWork, 1, (some .int), [], (1, 21, 0, 0))
def MX8_foldUp : xM := (yX8_foldUp, cX8_foldUp, 10, none, [], (2, 44, 0, 0))
def MX1_applyFold : xM := (yX1_applyFold, cX1_applyFold, 3, (some .int), [], (3, 73, 0, 0))
def MX8_lossPerLayer : xM := (yX8_lossPerLayer, cX8_lossPerLayer, 2, (some .int), [], (1, 21, 0, 0))
def MX8_thicknessRolled : xM := (yX8_thicknessRolled, cX8_thicknessRolled, 4, (some .int), [], (1, 21, 0, 0))
def MX8_sumRolled : xM := (yX8_sumRolled, cX8_sumRolled, 6, (some .int), [], (2, 44, 0, 0))
def MX1_refusalOfRoll : xM := (yX1_refusalOfRoll, cX1_refusalOfRoll, 3, (some (.object "PastryBench$Refusal")), [], (3, 69, 0, 0))
def MX8_sumEscaping : xM := (yX8_sumEscaping, cX8_sumEscaping, 5, (some .int), [], (2, 42, 0, 0))
def MX8_rollOut : xM := (yX8_rollOut, cX8_rollOut, 10, (some .int), [], (2, 44, 0, 0))
def MX1_applyRoll : xM := (yX1_applyRoll, cX1_applyRoll, 3, (some .int), [], (3, 73, 0, 0))
def MX1_refusalOfDust : xM := (yX1_refusalOfDust, cX1_refusalOfDust, 2, (some (.object "PastryBench$Refusal")), [], (1, 21, 0, 0))
def MX1_applyDust : xM := (yX1_applyDust, cX1_applyDust, 2, (some .int), [], (0, 0, 0, 0))
def MX1_refusalOfSeal : xM := (yX1_refusalOfSeal, cX1_refusalOfSeal, 2, (some (.object "PastryBench$Refusal")), [], (1, 21, 0, 0))
def MX1_applySeal : xM := (yX1_applySeal, cX1_applySeal, 2, (some .int), [], (1, 22, 0, 0))
def MX1_refusalOfCool : xM := (yX1_refusalOfCool, cX1_refusalOfCool, 2, (some (.object "PastryBench$Refusal")), [], (1, 22, 0, 0))
def MX1_applyCool : xM := (yX1_applyCool, cX1_applyCool, 2, (some .int), [], (1, 22, 0, 0))
def MX1_refusalOfTakeOut : xM := (yX1_refusalOfTakeOut, cX1_refusalOfTakeOut, 2, (some (.object "PastryBench$Refusal")), [], (1, 21, 0, 0))
def MX1_applyTakeOut : xM := (yX1_applyTakeOut, cX1_applyTakeOut, 2, (some .int), [], (0, 0, 0, 0))
def MX1_refusalOfHours : xM := (yX1_refusalOfHours, cX1_refusalOfHours, 2, (some (.object "PastryBench$Refusal")), [], (1, 20, 0, 0))
def MX11_cooledByFridge : xM := (yX11_cooledByFridge, cX11_cooledByFridge, 1, (some .int), [], (1, 21, 0, 0))
def MX11_drawnToRoom : xM := (yX11_drawnToRoom, cX11_drawnToRoom, 2, (some .int), [], (0, 0, 0, 0))
def MX8_warmthAfter : xM := (yX8_warmthAfter, cX8_warmthAfter, 5, (some .int), [], (2, 41, 0, 0))
def MX1_applyHours : xM := (yX1_applyHours, cX1_applyHours, 3, (some .int), [], (3, 65, 0, 0))
def MX1_refusalOfCut : xM := (yX1_refusalOfCut, cX1_refusalOfCut, 2, (some (.object "PastryBench$Refusal")), [], (1, 21, 0, 0))
def MX1_applyCut : xM := (yX1_applyCut, cX1_applyCut, 3, (some .int), [], (1, 22, 0, 0))
def MX8_joinsWith : xM := (yX8_joinsWith, cX8_joinsWith, 2, (some .boolean), [], (1, 21, 0, 0))
def MX8_layersWith : xM := (yX8_layersWith, cX8_layersWith, 2, (some .int), [], (2, 42, 0, 0))
def MX1_refusalOfStack : xM := (yX1_refusalOfStack, cX1_refusalOfStack, 7, (some (.object "PastryBench$Refusal")), [], (3, 63, 0, 0))
def MX8_carry : xM := (yX8_carry, cX8_carry, 4, none, [], (2, 44, 0, 0))
def MX1_removeSheet : xM := (yX1_removeSheet, cX1_removeSheet, 4, none, [], (0, 0, 0, 0))
def MX1_applyStack : xM := (yX1_applyStack, cX1_applyStack, 4, (some .int), [], (3, 67, 0, 0))
def MX1_refusalOfButter : xM := (yX1_refusalOfButter, cX1_refusalOfButter, 5, (some (.object "PastryBench$Refusal")), [], (1, 22, 0, 0))
def MX8_butterTop : xM := (yX8_butterTop, cX8_butterTop, 3, none, [], (2, 44, 0, 0))
def MX1_applyButter : xM := (yX1_applyButter, cX1_applyButter, 3, (some .int), [], (3, 66, 0, 0))
def MX1_refusalOfFlour : xM := (yX1_refusalOfFlour, cX1_refusalOfFlour, 2, (some (.object "PastryBench$Refusal")), [], (1, 20, 0, 0))
def MX1_applyFlour : xM := (yX1_applyFlour, cX1_applyFlour, 2, (some .int), [], (0, 0, 0, 0))
def MX3_init : xM := (yX3_init, cX3_init, 2, none, [], (3, 61, 161, 19752))
def MX3_forget : xM := (yX3_forget, cX3_forget, 1, none, [], (0, 0, 0, 0))
def MX3_dropOldest : xM := (yX3_dropOldest, cX3_dropOldest, 3, none, [], (0, 0, 0, 0))
def MX3_remember : xM := (yX3_remember, cX3_remember, 2, none, [], (2, 44, 0, 0))
def MX3_takeBack : xM := (yX3_takeBack, cX3_takeBack, 2, none, [], (2, 44, 0, 0))
def MX4_init : xM := (yX4_init, cX4_init, 1, none, [], (1, 20, 1, 1200))
def MX10_init : xM := (yX10_init, cX10_init, 1, none, [], (1, 20, 1, 0))
def MX5_init : xM := (yX5_init, cX5_init, 1, none, [], (2, 40, 2, 6))
def MX10_isSeparator : xM := (yX10_isSeparator, cX10_isSeparator, 1, (some .boolean), [], (0, 0, 0, 0))
def MX10_isLetter : xM := (yX10_isLetter, cX10_isLetter, 1, (some .boolean), [], (0, 0, 0, 0))
def MX10_isDigit : xM := (yX10_isDigit, cX10_isDigit, 1, (some .boolean), [], (0, 0, 0, 0))
def MX10_advance : xM := (yX10_advance, cX10_advance, 2, none, [], (1, 21, 0, 0))
def MX10_begin : xM := (yX10_begin, cX10_begin, 3, none, [], (2, 42, 0, 0))
def MX5_begin : xM := (yX5_begin, cX5_begin, 3, none, [], (3, 64, 0, 0))
def MX5_fail : xM := (yX5_fail, cX5_fail, 2, (some .boolean), [], (0, 0, 0, 0))
def MJ0_coder_7d493 : xM := (yJ0_coder_7d493, cJ0_coder_7d493, 1, (some .byte), [], (0, 0, 0, 0))
def MJ0_length_8abf5 : xM := (yJ0_length_8abf5, cJ0_length_8abf5, 1, (some .int), [], (1, 20, 0, 0))
def MJ0_isLatin1_aae02 : xM := (yJ0_isLatin1_aae02, cJ0_isLatin1_aae02, 1, (some .boolean), [], (0, 0, 0, 0))
def MJ3_checkIndex_8e157 : xM := (yJ3_checkIndex_8e157, cJ3_checkIndex_8e157, 3, (some .int), [], (0, 0, 0, 0))
def MJ0_checkIndex_df160 : xM := (yJ0_checkIndex_df160, cJ0_checkIndex_df160, 2, none, [], (1, 22, 0, 0))
def MJ1_charAt_3b067 : xM := (yJ1_charAt_3b067, cJ1_charAt_3b067, 2, (some .char), [], (2, 43, 0, 0))
def MJ2_length_9d52b : xM := (yJ2_length_9d52b, cJ2_length_9d52b, 1, (some .int), [], (0, 0, 0, 0))
def MJ2_checkIndex_2214a : xM := (yJ2_checkIndex_2214a, cJ2_checkIndex_2214a, 2, none, [], (2, 43, 0, 0))
def MJ2_getChar_3b067 : xM := (yJ2_getChar_3b067, cJ2_getChar_3b067, 2, (some .char), [], (1, 20, 0, 0))
def MJ2_charAt_3b067 : xM := (yJ2_charAt_3b067, cJ2_charAt_3b067, 2, (some .char), [], (3, 64, 0, 0))
def MJ0_charAt_5068e : xM := (yJ0_charAt_5068e, cJ0_charAt_5068e, 2, (some .char), [], (4, 85, 0, 0))
def MX10_isWord : xM := (yX10_isWord, cX10_isWord, 3, (some .boolean), [], (5, 106, 0, 0))
def MX5_takeWord : xM := (yX5_takeWord, cX5_takeWord, 2, (some .boolean), [], (6, 128, 0, 0))
def MX5_takeSemicolon : xM := (yX5_takeSemicolon, cX5_takeSemicolon, 1, (some .boolean), [], (2, 42, 0, 0))
def MX5_takeNumber : xM := (yX5_takeNumber, cX5_takeNumber, 3, (some .boolean), [], (2, 42, 0, 0))
def MX5_readHeader : xM := (yX5_readHeader, cX5_readHeader, 4, (some .boolean), [], (7, 149, 0, 0))
def MX5_isLayerWord : xM := (yX5_isLayerWord, cX5_isLayerWord, 1, (some .boolean), [], (6, 128, 0, 0))
def MX5_readLayer : xM := (yX5_readLayer, cX5_readLayer, 3, (some .boolean), [], (7, 148, 0, 0))
def MX5_readSheet : xM := (yX5_readSheet, cX5_readSheet, 3, (some .boolean), [], (8, 170, 0, 0))
def MX5_readBench : xM := (yX5_readBench, cX5_readBench, 5, (some .boolean), [], (9, 192, 0, 0))
def MX7_init : xM := (yX7_init, cX7_init, 1, none, [], (1, 20, 3, 60))
def MX8_countButterLayers : xM := (yX8_countButterLayers, cX8_countButterLayers, 3, (some .int), [], (0, 0, 0, 0))
def MX8_totalButter : xM := (yX8_totalButter, cX8_totalButter, 3, (some .int), [], (0, 0, 0, 0))
def MX8_findThinnest : xM := (yX8_findThinnest, cX8_findThinnest, 3, (some .int), [], (0, 0, 0, 0))
def MX8_findThickest : xM := (yX8_findThickest, cX8_findThickest, 3, (some .int), [], (0, 0, 0, 0))
def MX8_countSeams : xM := (yX8_countSeams, cX8_countSeams, 3, (some .int), [], (0, 0, 0, 0))
def MX8_sameFromBothSides : xM := (yX8_sameFromBothSides, cX8_sameFromBothSides, 3, (some .boolean), [], (0, 0, 0, 0))
def MX8_countPossibleFolds : xM := (yX8_countPossibleFolds, cX8_countPossibleFolds, 5, (some .int), [], (1, 23, 0, 0))
def MX8_countBreaking : xM := (yX8_countBreaking, cX8_countBreaking, 6, (some .int), [], (2, 44, 0, 0))
def MX8_countHoursToSafety : xM := (yX8_countHoursToSafety, cX8_countHoursToSafety, 4, (some .int), [], (2, 41, 0, 0))
def MX11_init : xM := (yX11_init, cX11_init, 1, none, [], (5, 108, 232, 28934))
def MX11_appendWord : xM := (yX11_appendWord, cX11_appendWord, 3, none, [], (0, 0, 0, 0))
def MX11_appendText : xM := (yX11_appendText, cX11_appendText, 6, (some .int), [], (1, 22, 0, 0))
def MX11_requireLength : xM := (yX11_requireLength, cX11_requireLength, 2, none, [], (0, 0, 0, 0))
def MX11_loadBench : xM := (yX11_loadBench, cX11_loadBench, 3, (some .int), [], (10, 216, 0, 0))
def MX11_sheetCount : xM := (yX11_sheetCount, cX11_sheetCount, 1, (some .int), [], (0, 0, 0, 0))
def MX11_meltingPoint : xM := (yX11_meltingPoint, cX11_meltingPoint, 1, (some .int), [], (0, 0, 0, 0))
def MX11_flour : xM := (yX11_flour, cX11_flour, 1, (some .int), [], (0, 0, 0, 0))
def MX11_hoursPassed : xM := (yX11_hoursPassed, cX11_hoursPassed, 1, (some .int), [], (0, 0, 0, 0))
def MX11_escapedButter : xM := (yX11_escapedButter, cX11_escapedButter, 1, (some .int), [], (0, 0, 0, 0))
def MX11_brokenLayers : xM := (yX11_brokenLayers, cX11_brokenLayers, 1, (some .int), [], (0, 0, 0, 0))
def MX11_warmestSheet : xM := (yX11_warmestSheet, cX11_warmestSheet, 1, (some .int), [], (1, 22, 0, 0))
def MX11_finestSheet : xM := (yX11_finestSheet, cX11_finestSheet, 1, (some .int), [], (1, 22, 0, 0))
def MX11_sheetAt : xM := (yX11_sheetAt, cX11_sheetAt, 2, (some (.object "PastryBench$Sheet")), [], (1, 21, 0, 0))
def MX11_layerCount : xM := (yX11_layerCount, cX11_layerCount, 2, (some .int), [], (2, 42, 0, 0))
def MX11_butterLayerCount : xM := (yX11_butterLayerCount, cX11_butterLayerCount, 2, (some .int), [], (2, 42, 0, 0))
def MX11_requireLayer : xM := (yX11_requireLayer, cX11_requireLayer, 2, none, [], (0, 0, 0, 0))
def MX11_isButter : xM := (yX11_isButter, cX11_isButter, 4, (some .boolean), [], (2, 42, 0, 0))
def MX11_thickness : xM := (yX11_thickness, cX11_thickness, 4, (some .int), [], (2, 42, 0, 0))
def MX11_height : xM := (yX11_height, cX11_height, 2, (some .int), [], (2, 42, 0, 0))
def MX11_butterHeight : xM := (yX11_butterHeight, cX11_butterHeight, 2, (some .int), [], (2, 42, 0, 0))
def MX11_thinnestLayer : xM := (yX11_thinnestLayer, cX11_thinnestLayer, 2, (some .int), [], (2, 42, 0, 0))
def MX11_thickestLayer : xM := (yX11_thickestLayer, cX11_thickestLayer, 2, (some .int), [], (2, 42, 0, 0))
def MX11_seamCount : xM := (yX11_seamCount, cX11_seamCount, 2, (some .int), [], (2, 42, 0, 0))
def MX11_isSymmetric : xM := (yX11_isSymmetric, cX11_isSymmetric, 2, (some .boolean), [], (2, 42, 0, 0))
def MX11_temperature : xM := (yX11_temperature, cX11_temperature, 2, (some .int), [], (2, 42, 0, 0))
def MX11_isDusted : xM := (yX11_isDusted, cX11_isDusted, 2, (some .boolean), [], (2, 42, 0, 0))
def MX11_isSealed : xM := (yX11_isSealed, cX11_isSealed, 2, (some .boolean), [], (2, 42, 0, 0))
def MX11_isCooling : xM := (yX11_isCooling, cX11_isCooling, 2, (some .boolean), [], (2, 42, 0, 0))
def MX11_foldCount : xM := (yX11_foldCount, cX11_foldCount, 2, (some .int), [], (2, 42, 0, 0))
def MX11_expectedLayers : xM := (yX11_expectedLayers, cX11_expectedLayers, 2, (some .int), [], (2, 42, 0, 0))
def MX11_butterShare : xM := (yX11_butterShare, cX11_butterShare, 4, (some .float), [], (2, 42, 0, 0))
def MX11_requireFactor : xM := (yX11_requireFactor, cX11_requireFactor, 1, none, [], (1, 20, 0, 0))
def MX11_foldObstacle : xM := (yX11_foldObstacle, cX11_foldObstacle, 4, (some .int), [], (2, 44, 0, 0))
def MX11_layersAfterFold : xM := (yX11_layersAfterFold, cX11_layersAfterFold, 4, (some .int), [], (2, 44, 0, 0))
def MX11_foldsPossible : xM := (yX11_foldsPossible, cX11_foldsPossible, 4, (some .int), [], (2, 47, 0, 0))
def MX11_butterAtRisk : xM := (yX11_butterAtRisk, cX11_butterAtRisk, 2, (some .int), [], (3, 66, 0, 0))
def MX11_layersAtRisk : xM := (yX11_layersAtRisk, cX11_layersAtRisk, 4, (some .int), [], (3, 69, 0, 0))
def MX11_heightAfterRoll : xM := (yX11_heightAfterRoll, cX11_heightAfterRoll, 4, (some .int), [], (3, 69, 0, 0))
def MX11_temperatureAfter : xM := (yX11_temperatureAfter, cX11_temperatureAfter, 4, (some .int), [], (3, 65, 0, 0))
def MX11_hoursToSafety : xM := (yX11_hoursToSafety, cX11_hoursToSafety, 2, (some .int), [], (3, 64, 0, 0))
def MX11_throwIfRefused : xM := (yX11_throwIfRefused, cX11_throwIfRefused, 1, none, [], (0, 0, 0, 0))
def MX11_fold : xM := (yX11_fold, cX11_fold, 3, (some .int), [], (4, 95, 0, 0))
def MX11_roll : xM := (yX11_roll, cX11_roll, 3, (some .int), [], (4, 95, 0, 0))
def MX11_dust : xM := (yX11_dust, cX11_dust, 2, (some .int), [], (3, 65, 0, 0))
def MX11_seal : xM := (yX11_seal, cX11_seal, 2, (some .int), [], (3, 65, 0, 0))
def MX11_cool : xM := (yX11_cool, cX11_cool, 2, (some .int), [], (3, 65, 0, 0))
def MX11_takeOut : xM := (yX11_takeOut, cX11_takeOut, 2, (some .int), [], (3, 65, 0, 0))
def MX11_passHours : xM := (yX11_passHours, cX11_passHours, 2, (some .int), [], (4, 87, 0, 0))
def MX11_cut : xM := (yX11_cut, cX11_cut, 2, (some .int), [], (3, 65, 0, 0))
def MX11_stack : xM := (yX11_stack, cX11_stack, 3, (some .int), [], (4, 90, 0, 0))
def MX11_addButter : xM := (yX11_addButter, cX11_addButter, 3, (some .int), [], (4, 88, 0, 0))
def MX11_buyFlour : xM := (yX11_buyFlour, cX11_buyFlour, 2, (some .int), [], (3, 65, 0, 0))
def MX11_undoableCount : xM := (yX11_undoableCount, cX11_undoableCount, 1, (some .int), [], (0, 0, 0, 0))
def MX11_undo : xM := (yX11_undo, cX11_undo, 1, (some .int), [], (3, 65, 0, 0))
def MX11_saveSnapshot : xM := (yX11_saveSnapshot, cX11_saveSnapshot, 1, none, [], (2, 44, 0, 0))
def MX11_restoreSnapshot : xM := (yX11_restoreSnapshot, cX11_restoreSnapshot, 1, (some .int), [], (2, 44, 0, 0))
def MJ2_newBytesLength_0f7a4 : xM := (yJ2_newBytesLength_0f7a4, cJ2_newBytesLength_0f7a4, 1, (some .int), [], (0, 0, 0, 0))
def MJ2_newBytesFor_77867 : xM := (yJ2_newBytesFor_77867, cJ2_newBytesFor_77867, 1, (some (.array .byte)), [], (1, 20, 0, 0))
def MJ8_hugeLength_7cf53 : xM := (yJ8_hugeLength_7cf53, cJ8_hugeLength_7cf53, 3, (some .int), [], (0, 0, 0, 0))
def MJ8_newLength_cabcc : xM := (yJ8_newLength_cabcc, cJ8_newLength_cabcc, 4, (some .int), [], (1, 22, 0, 0))
def MJ5_newCapacity_0f7a4 : xM := (yJ5_newCapacity_0f7a4, cJ5_newCapacity_0f7a4, 6, (some .int), [], (2, 45, 0, 0))
def MJ7_copyOf_9075b : xM := (yJ7_copyOf_9075b, cJ7_copyOf_9075b, 3, (some (.array .byte)), [], (1, 40, 1, 1000))
def MJ5_ensureCapacityInternal_d00df : xM := (yJ5_ensureCapacityInternal_d00df, cJ5_ensureCapacityInternal_d00df, 3, none, [], (3, 70, 1, 1000))
def MJ5_isLatin1_aae02 : xM := (yJ5_isLatin1_aae02, cJ5_isLatin1_aae02, 1, (some .boolean), [], (0, 0, 0, 0))
def MJ3_checkFromToIndex_8c36e : xM := (yJ3_checkFromToIndex_8c36e, cJ3_checkFromToIndex_8c36e, 4, (some .int), [], (0, 0, 0, 0))
def MJ0_checkBoundsBeginEnd_23922 : xM := (yJ0_checkBoundsBeginEnd_23922, cJ0_checkBoundsBeginEnd_23922, 3, none, [], (1, 23, 0, 0))
def MJ2_checkBoundsBeginEnd_d044e : xM := (yJ2_checkBoundsBeginEnd_d044e, cJ2_checkBoundsBeginEnd_d044e, 3, none, [], (2, 45, 0, 0))
def MJ2_putChar_b72d1 : xM := (yJ2_putChar_b72d1, cJ2_putChar_b72d1, 3, none, [], (1, 20, 0, 0))
def MJ2_putCharsAt_cd4e5 : xM := (yJ2_putCharsAt_cd4e5, cJ2_putCharsAt_cd4e5, 7, (some .int), [], (3, 67, 0, 0))
def MJ5_appendNull_278bc : xM := (yJ5_appendNull_278bc, cJ5_appendNull_278bc, 3, (some (.object "java/lang/AbstractStringBuilder")), [], (4, 93, 1, 1000))
def MJ3_checkFromIndexSize_8c36e : xM := (yJ3_checkFromIndexSize_8c36e, cJ3_checkFromIndexSize_8c36e, 4, (some .int), [], (0, 0, 0, 0))
def MJ0_checkBoundsOffCount_cabcc : xM := (yJ0_checkBoundsOffCount_cabcc, cJ0_checkBoundsOffCount_cabcc, 3, (some .int), [], (1, 23, 0, 0))
def MJ2_checkBoundsOffCount_d044e : xM := (yJ2_checkBoundsOffCount_d044e, cJ2_checkBoundsOffCount_d044e, 3, none, [], (2, 45, 0, 0))
def MJ2_inflate_0e8fd : xM := (yJ2_inflate_0e8fd, cJ2_inflate_0e8fd, 6, none, [], (3, 67, 0, 0))
def MJ1_inflate_0e8fd : xM := (yJ1_inflate_0e8fd, cJ1_inflate_0e8fd, 5, none, [], (4, 92, 0, 0))
def MJ5_inflate_da8c8 : xM := (yJ5_inflate_da8c8, cJ5_inflate_da8c8, 2, none, [], (5, 116, 0, 0))
def MJ5_inflateIfNeededFor_a7421 : xM := (yJ5_inflateIfNeededFor_a7421, cJ5_inflateIfNeededFor_a7421, 2, none, [], (1, 20, 0, 0))
def MJ0_getBytes_840e7 : xM := (yJ0_getBytes_840e7, cJ0_getBytes_840e7, 4, none, [], (1, 40, 0, 0))
def MJ5_putStringAt_47b60 : xM := (yJ5_putStringAt_47b60, cJ5_putStringAt_47b60, 3, none, [], (2, 63, 0, 0))
def MJ5_append_cf1ce : xM := (yJ5_append_cf1ce, cJ5_append_cf1ce, 3, (some (.object "java/lang/AbstractStringBuilder")), [], (4, 92, 1, 1000))
def MJ4_append_15ec4 : xM := (yJ4_append_15ec4, cJ4_append_15ec4, 2, (some (.object "java/lang/StringBuilder")), [], (5, 114, 1, 1000))
def MJ4_append_cf1ce : xM := (yJ4_append_cf1ce, cJ4_append_cf1ce, 2, (some (.object "java/lang/AbstractStringBuilder")), [], (6, 135, 1, 1000))
def MJ5_init_a7421 : xM := (yJ5_init_a7421, cJ5_init_a7421, 5, none, [], (7, 156, 2, 1100))
def MJ5_length_8abf5 : xM := (yJ5_length_8abf5, cJ5_length_8abf5, 1, (some .int), [], (0, 0, 0, 0))
def MJ1_canEncode_fc78d : xM := (yJ1_canEncode_fc78d, cJ1_canEncode_fc78d, 1, (some .boolean), [], (0, 0, 0, 0))
def MJ2_putCharSB_b72d1 : xM := (yJ2_putCharSB_b72d1, cJ2_putCharSB_b72d1, 3, none, [], (3, 64, 0, 0))
def MJ5_append_3fe6f : xM := (yJ5_append_3fe6f, cJ5_append_3fe6f, 2, (some (.object "java/lang/AbstractStringBuilder")), [], (6, 137, 1, 1000))
def MJ6_stringSize_0f7a4 : xM := (yJ6_stringSize_0f7a4, cJ6_stringSize_0f7a4, 4, (some .int), [], (0, 0, 0, 0))
def MJ6_getChars_ba4f3 : xM := (yJ6_getChars_ba4f3, cJ6_getChars_ba4f3, 7, (some .int), [], (0, 0, 0, 0))
def MJ2_getChars_ba4f3 : xM := (yJ2_getChars_ba4f3, cJ2_getChars_ba4f3, 7, (some .int), [], (2, 42, 0, 0))
def MJ2_getChars_46870 : xM := (yJ2_getChars_46870, cJ2_getChars_46870, 5, (some .int), [], (3, 68, 0, 0))
def MJ5_append_c97b9 : xM := (yJ5_append_c97b9, cJ5_append_c97b9, 4, (some (.object "java/lang/AbstractStringBuilder")), [], (4, 92, 1, 1000))
def MJ5_getValue_6d5f1 : xM := (yJ5_getValue_6d5f1, cJ5_getValue_6d5f1, 1, (some (.array .byte)), [], (0, 0, 0, 0))
def MJ9_max_7cf53 : xM := (yJ9_max_7cf53, cJ9_max_7cf53, 2, (some .int), [], (0, 0, 0, 0))
def MJ9_min_7cf53 : xM := (yJ9_min_7cf53, cJ9_min_7cf53, 2, (some .int), [], (0, 0, 0, 0))
def MJ4_length_8abf5 : xM := (yJ4_length_8abf5, cJ4_length_8abf5, 1, (some .int), [], (1, 20, 0, 0))
def MJ7_checkLength_df160 : xM := (yJ7_checkLength_df160, cJ7_checkLength_df160, 2, none, [], (0, 0, 0, 0))
def MJ7_copyOfRangeByte_39247 : xM := (yJ7_copyOfRangeByte_39247, cJ7_copyOfRangeByte_39247, 5, (some (.array .byte)), [], (1, 40, 1, 1000))
def MJ7_copyOfRange_39247 : xM := (yJ7_copyOfRange_39247, cJ7_copyOfRange_39247, 3, (some (.array .byte)), [], (2, 64, 1, 1000))
def MJ2_compress_5af95 : xM := (yJ2_compress_5af95, cJ2_compress_5af95, 7, (some .int), [], (3, 67, 0, 0))
def MJ2_compress_39247 : xM := (yJ2_compress_39247, cJ2_compress_39247, 6, (some (.array .byte)), [], (4, 93, 1, 1000))
def MJ2_coderFromArrayLen_85cad : xM := (yJ2_coderFromArrayLen_85cad, cJ2_coderFromArrayLen_85cad, 2, (some .byte), [], (0, 0, 0, 0))
def MJ0_init_db425 : xM := (yJ0_init_db425, cJ0_init_db425, 5, none, [], (3, 86, 1, 1000))
def MJ0_init_81219 : xM := (yJ0_init_81219, cJ0_init_81219, 2, none, [], (4, 110, 1, 1000))
def MJ4_init_a7421 : xM := (yJ4_init_a7421, cJ4_init_a7421, 2, none, [], (8, 180, 2, 1100))
def MJ4_append_cf468 : xM := (yJ4_append_cf468, cJ4_append_cf468, 2, (some (.object "java/lang/StringBuilder")), [], (7, 158, 1, 1000))
def MJ4_append_bf812 : xM := (yJ4_append_bf812, cJ4_append_bf812, 2, (some (.object "java/lang/StringBuilder")), [], (5, 115, 1, 1000))
def MJ4_toString_0e30d : xM := (yJ4_toString_0e30d, cJ4_toString_0e30d, 1, (some (.object "java/lang/String")), [], (5, 131, 2, 1004))
def ML_most : xM := (yL_most, cL_most, 2, (some .int), [], (0, 0, 0, 0))
def ML_cell : xM := (yL_cell, cL_cell, 2, (some .int), [], (0, 0, 0, 0))
def ML_add : xM := (yL_add, cL_add, 4, none, [], (2, 47, 0, 0))
def ML_say : xM := (yL_say, cL_say, 4, none, [], (5, 106, 0, 0))
def ML_end : xM := (yL_end, cL_end, 3, (some .int), [], (3, 70, 0, 0))
def ML_all : xM := (yL_all, cL_all, 7, (some (.array .int)), [], (3, 65, 1, 1300))
def ML_alike : xM := (yL_alike, cL_alike, 3, (some .boolean), [], (0, 0, 0, 0))
def ML_isBench : xM := (yL_isBench, cL_isBench, 14, (some .boolean), [], (4, 92, 0, 0))
def ML_act : xM := (yL_act, cL_act, 16, (some .boolean), [], (5, 117, 0, 0))
def ML_law : xM := (yL_law, cL_law, 11, (some .boolean), [], (15, 578, 600086, 7301442))
theorem cl_X1 : x_CL 0 RX1 TX1 8 tyX1 := ⟨rfl, fun w hw => by
  rcases List.mem_map.mp hw with ⟨k, hk, rfl⟩
  have hk := List.mem_range.mp hk
  rcases (show k = 0 ∨ k = 1 ∨ k = 2 ∨ k = 3 ∨ k = 4 ∨ k = 5 ∨ k = 6 ∨ k = 7 by omega) with rfl | rfl | rfl | rfl | rfl | rfl | rfl | rfl
  · exact bg_in 190 (by decide +kernel) rfl
  · exact bg_in 192 (by decide +kernel) rfl
  · exact bg_in 194 (by decide +kernel) rfl
  · exact bg_in 196 (by decide +kernel) rfl
  · exact bg_in 198 (by decide +kernel) rfl
  · exact bg_in 200 (by decide +kernel) rfl
  · exact bg_in 202 (by decide +kernel) rfl
  · exact bg_in 204 (by decide +kernel) rfl
  , tyX1_ok, nmX1⟩
theorem cl_X3 : x_CL 1 RX3 TX3 2 tyX3 := ⟨rfl, fun w hw => by
  rcases List.mem_map.mp hw with ⟨k, hk, rfl⟩
  have hk := List.mem_range.mp hk
  rcases (show k = 0 ∨ k = 1 by omega) with rfl | rfl
  · exact bg_in 249 (by decide +kernel) rfl
  · exact bg_in 251 (by decide +kernel) rfl
  , tyX3_ok, nmX3⟩
theorem cl_X4 : x_CL 2 RX4 TX4 2 tyX4 := ⟨rfl, fun w hw => by
  rcases List.mem_map.mp hw with ⟨k, hk, rfl⟩
  have hk := List.mem_range.mp hk
  rcases (show k = 0 ∨ k = 1 by omega) with rfl | rfl
  · exact bg_in 261 (by decide +kernel) rfl
  · exact bg_in 263 (by decide +kernel) rfl
  , tyX4_ok, nmX4⟩
theorem cl_X5 : x_CL 3 RX5 TX5 4 tyX5 := ⟨rfl, fun w hw => by
  rcases List.mem_map.mp hw with ⟨k, hk, rfl⟩
  have hk := List.mem_range.mp hk
  rcases (show k = 0 ∨ k = 1 ∨ k = 2 ∨ k = 3 by omega) with rfl | rfl | rfl | rfl
  · exact bg_in 86 (by decide +kernel) rfl
  · exact bg_in 88 (by decide +kernel) rfl
  · exact bg_in 90 (by decide +kernel) rfl
  · exact bg_in 92 (by decide +kernel) rfl
  , tyX5_ok, nmX5⟩
theorem cl_X7 : x_CL 4 RX7 TX7 4 tyX7 := ⟨rfl, fun w hw => by
  rcases List.mem_map.mp hw with ⟨k, hk, rfl⟩
  have hk := List.mem_range.mp hk
  rcases (show k = 0 ∨ k = 1 ∨ k = 2 ∨ k = 3 by omega) with rfl | rfl | rfl | rfl
  · exact bg_in 106 (by decide +kernel) rfl
  · exact bg_in 108 (by decide +kernel) rfl
  · exact bg_in 110 (by decide +kernel) rfl
  · exact bg_in 112 (by decide +kernel) rfl
  , tyX7_ok, nmX7⟩
theorem cl_X8 : x_CL 5 RX8 TX8 9 tyX8 := ⟨rfl, fun w hw => by
  rcases List.mem_map.mp hw with ⟨k, hk, rfl⟩
  have hk := List.mem_range.mp hk
  rcases (show k = 0 ∨ k = 1 ∨ k = 2 ∨ k = 3 ∨ k = 4 ∨ k = 5 ∨ k = 6 ∨ k = 7 ∨ k = 8 by omega) with rfl | rfl | rfl | rfl | rfl | rfl | rfl | rfl | rfl
  · exact bg_in 154 (by decide +kernel) rfl
  · exact bg_in 156 (by decide +kernel) rfl
  · exact bg_in 158 (by decide +kernel) rfl
  · exact bg_in 160 (by decide +kernel) rfl
  · exact bg_in 162 (by decide +kernel) rfl
  · exact bg_in 164 (by decide +kernel) rfl
  · exact bg_in 166 (by decide +kernel) rfl
  · exact bg_in 168 (by decide +kernel) rfl
  · exact bg_in 170 (by decide +kernel) rfl
  , tyX8_ok, nmX8⟩
theorem cl_X10 : x_CL 6 RX10 TX10 6 tyX10 := ⟨rfl, fun w hw => by
  rcases List.mem_map.mp hw with ⟨k, hk, rfl⟩
  have hk := List.mem_range.mp hk
  rcases (show k = 0 ∨ k = 1 ∨ k = 2 ∨ k = 3 ∨ k = 4 ∨ k = 5 by omega) with rfl | rfl | rfl | rfl | rfl | rfl
  · exact bg_in 68 (by decide +kernel) rfl
  · exact bg_in 70 (by decide +kernel) rfl
  · exact bg_in 72 (by decide +kernel) rfl
  · exact bg_in 74 (by decide +kernel) rfl
  · exact bg_in 76 (by decide +kernel) rfl
  · exact bg_in 78 (by decide +kernel) rfl
  , tyX10_ok, nmX10⟩
theorem cl_X11 : x_CL 7 RX11 TX11 10 tyX11 := ⟨rfl, fun w hw => by
  rcases List.mem_map.mp hw with ⟨k, hk, rfl⟩
  have hk := List.mem_range.mp hk
  rcases (show k = 0 ∨ k = 1 ∨ k = 2 ∨ k = 3 ∨ k = 4 ∨ k = 5 ∨ k = 6 ∨ k = 7 ∨ k = 8 ∨ k = 9 by omega) with rfl | rfl | rfl | rfl | rfl | rfl | rfl | rfl | rfl | rfl
  · exact bg_in 276 (by decide +kernel) rfl
  · exact bg_in 278 (by decide +kernel) rfl
  · exact bg_in 280 (by decide +kernel) rfl
  · exact bg_in 282 (by decide +kernel) rfl
  · exact bg_in 284 (by decide +kernel) rfl
  · exact bg_in 286 (by decide +kernel) rfl
  · exact bg_in 288 (by decide +kernel) rfl
  · exact bg_in 290 (by decide +kernel) rfl
  · exact bg_in 292 (by decide +kernel) rfl
  · exact bg_in 294 (by decide +kernel) rfl
  , tyX11_ok, nmX11⟩
theorem cl_J0 : x_CL 8 RJ0 TJ0 4 tyJ0 := ⟨rfl, fun w hw => by
  rcases List.mem_map.mp hw with ⟨k, hk, rfl⟩
  have hk := List.mem_range.mp hk
  rcases (show k = 0 ∨ k = 1 ∨ k = 2 ∨ k = 3 by omega) with rfl | rfl | rfl | rfl
  · exact bg_in 1279 (by decide +kernel) rfl
  · exact bg_in 1281 (by decide +kernel) rfl
  · exact bg_in 1283 (by decide +kernel) rfl
  · exact bg_in 1285 (by decide +kernel) rfl
  , tyJ0_ok, nmJ0⟩
theorem cl_J4 : x_CL 9 RJ4 TJ4 4 tyJ4 := ⟨rfl, fun w hw => by
  rcases List.mem_map.mp hw with ⟨k, hk, rfl⟩
  have hk := List.mem_range.mp hk
  rcases (show k = 0 ∨ k = 1 ∨ k = 2 ∨ k = 3 by omega) with rfl | rfl | rfl | rfl
  · exact bg_in 1184 (by decide +kernel) rfl
  · exact bg_in 1186 (by decide +kernel) rfl
  · exact bg_in 1188 (by decide +kernel) rfl
  · exact bg_in 1190 (by decide +kernel) rfl
  , tyJ4_ok, nmJ4⟩
theorem kf_X11_9 : Cond.fieldLink RX11 9 (TX11 0).1 (TX11 0).2.1 (TX11 0).2.2.1 ∈ bg_L := bg_in 266 (by decide +kernel) rfl
theorem kl_X11_13 : Cond.classLink RX11 13 "PastryBench$Parser" ∈ bg_L := bg_in 45 (by decide +kernel) rfl
theorem kf_X11_16 : Cond.fieldLink RX11 16 (TX11 2).1 (TX11 2).2.1 (TX11 2).2.2.1 ∈ bg_L := bg_in 268 (by decide +kernel) rfl
theorem kl_X11_20 : Cond.classLink RX11 20 "PastryBench$Script" ∈ bg_L := bg_in 95 (by decide +kernel) rfl
theorem kf_X11_23 : Cond.fieldLink RX11 23 (TX11 3).1 (TX11 3).2.1 (TX11 3).2.2.1 ∈ bg_L := bg_in 269 (by decide +kernel) rfl
theorem kl_X11_28 : Cond.classLink RX11 28 "PastryBench$Bench" ∈ bg_L := bg_in 235 (by decide +kernel) rfl
theorem kf_X11_33 : Cond.fieldLink RX11 33 (TX11 4).1 (TX11 4).2.1 (TX11 4).2.2.1 ∈ bg_L := bg_in 270 (by decide +kernel) rfl
theorem kf_X11_38 : Cond.fieldLink RX11 38 (TX11 5).1 (TX11 5).2.1 (TX11 5).2.2.1 ∈ bg_L := bg_in 271 (by decide +kernel) rfl
theorem kf_X11_41 : Cond.fieldLink RX11 41 (TX11 6).1 (TX11 6).2.1 (TX11 6).2.2.1 ∈ bg_L := bg_in 272 (by decide +kernel) rfl
theorem kl_X11_44 : Cond.classLink RX11 44 "PastryBench$History" ∈ bg_L := bg_in 237 (by decide +kernel) rfl
theorem kf_X11_47 : Cond.fieldLink RX11 47 (TX11 8).1 (TX11 8).2.1 (TX11 8).2.2.1 ∈ bg_L := bg_in 274 (by decide +kernel) rfl
theorem kl_X11_51 : Cond.classLink RX11 51 "PastryBench$Output" ∈ bg_L := bg_in 254 (by decide +kernel) rfl
theorem kf_X11_54 : Cond.fieldLink RX11 54 (TX11 9).1 (TX11 9).2.1 (TX11 9).2.2.1 ∈ bg_L := bg_in 275 (by decide +kernel) rfl
theorem kf_X11_58 : Cond.fieldLink RX11 58 (TX11 1).1 (TX11 1).2.1 (TX11 1).2.2.1 ∈ bg_L := bg_in 267 (by decide +kernel) rfl
theorem kf_X11_80 : Cond.fieldLink RX11 80 (TX11 7).1 (TX11 7).2.1 (TX11 7).2.2.1 ∈ bg_L := bg_in 273 (by decide +kernel) rfl
theorem kf_X11_84 : Cond.fieldLink RX11 84 (TX1 1).1 (TX1 1).2.1 (TX1 1).2.2.1 ∈ bg_L := bg_in 177 (by decide +kernel) rfl
theorem kf_X11_93 : Cond.fieldLink RX11 93 (TX1 2).1 (TX1 2).2.1 (TX1 2).2.2.1 ∈ bg_L := bg_in 179 (by decide +kernel) rfl
theorem kf_X11_96 : Cond.fieldLink RX11 96 (TX1 3).1 (TX1 3).2.1 (TX1 3).2.2.1 ∈ bg_L := bg_in 181 (by decide +kernel) rfl
theorem kf_X11_99 : Cond.fieldLink RX11 99 (TX1 4).1 (TX1 4).2.1 (TX1 4).2.2.1 ∈ bg_L := bg_in 183 (by decide +kernel) rfl
theorem kf_X11_102 : Cond.fieldLink RX11 102 (TX1 5).1 (TX1 5).2.1 (TX1 5).2.2.1 ∈ bg_L := bg_in 185 (by decide +kernel) rfl
theorem kf_X11_105 : Cond.fieldLink RX11 105 (TX1 6).1 (TX1 6).2.1 (TX1 6).2.2.1 ∈ bg_L := bg_in 187 (by decide +kernel) rfl
theorem kf_X11_108 : Cond.fieldLink RX11 108 (TX1 7).1 (TX1 7).2.1 (TX1 7).2.2.1 ∈ bg_L := bg_in 189 (by decide +kernel) rfl
theorem kf_X11_122 : Cond.fieldLink RX11 122 (TX8 2).1 (TX8 2).2.1 (TX8 2).2.2.1 ∈ bg_L := bg_in 137 (by decide +kernel) rfl
theorem kf_X11_134 : Cond.fieldLink RX11 134 (TX8 1).1 (TX8 1).2.1 (TX8 1).2.2.1 ∈ bg_L := bg_in 134 (by decide +kernel) rfl
theorem kf_X11_138 : Cond.fieldLink RX11 138 (TX8 0).1 (TX8 0).2.1 (TX8 0).2.2.1 ∈ bg_L := bg_in 132 (by decide +kernel) rfl
theorem kf_X11_160 : Cond.fieldLink RX11 160 (TX8 5).1 (TX8 5).2.1 (TX8 5).2.2.1 ∈ bg_L := bg_in 144 (by decide +kernel) rfl
theorem kf_X11_163 : Cond.fieldLink RX11 163 (TX8 6).1 (TX8 6).2.1 (TX8 6).2.2.1 ∈ bg_L := bg_in 147 (by decide +kernel) rfl
theorem kf_X11_166 : Cond.fieldLink RX11 166 (TX8 7).1 (TX8 7).2.1 (TX8 7).2.2.1 ∈ bg_L := bg_in 150 (by decide +kernel) rfl
theorem kf_X11_169 : Cond.fieldLink RX11 169 (TX8 8).1 (TX8 8).2.1 (TX8 8).2.2.1 ∈ bg_L := bg_in 153 (by decide +kernel) rfl
theorem kf_X11_172 : Cond.fieldLink RX11 172 (TX8 4).1 (TX8 4).2.1 (TX8 4).2.2.1 ∈ bg_L := bg_in 141 (by decide +kernel) rfl
theorem kf_X11_175 : Cond.fieldLink RX11 175 (TX8 3).1 (TX8 3).2.1 (TX8 3).2.2.1 ∈ bg_L := bg_in 139 (by decide +kernel) rfl
theorem kl_X11_202 : Cond.classLink RX11 202 "java/lang/IllegalArgumentException" ∈ bg_L := bg_in 305 (by decide +kernel) rfl
theorem kl_X11_305 : Cond.classLink RX11 305 "java/lang/IndexOutOfBoundsException" ∈ bg_L := bg_in 600 (by decide +kernel) rfl
theorem kf_X11_313 : Cond.fieldLink RX11 313 (TX3 1).1 (TX3 1).2.1 (TX3 1).2.2.1 ∈ bg_L := bg_in 248 (by decide +kernel) rfl
theorem kl_X11_314 : Cond.classLink RX11 314 "java/lang/IllegalStateException" ∈ bg_L := bg_in 525 (by decide +kernel) rfl
theorem kf_X11_332 : Cond.fieldLink RX11 332 (TX1 0).1 (TX1 0).2.1 (TX1 0).2.2.1 ∈ bg_L := bg_in 175 (by decide +kernel) rfl
theorem kg_X11_343 : Cond.fieldLink RX11 343 "PastryBench$Refusal" "NO_SHEET" "LPastryBench$Refusal;" ∈ bg_L := bg_in 853 (by decide +kernel) rfl
theorem kg_X11_349 : Cond.fieldLink RX11 349 "PastryBench$Refusal" "BAD_ARGUMENT" "LPastryBench$Refusal;" ∈ bg_L := bg_in 855 (by decide +kernel) rfl
theorem kg_X11_354 : Cond.fieldLink RX11 354 "PastryBench$Refusal" "BAD_STATE" "LPastryBench$Refusal;" ∈ bg_L := bg_in 857 (by decide +kernel) rfl
theorem kl_X1_9 : Cond.classLink RX1 9 "PastryBench$Sheet" ∈ bg_L := bg_in 124 (by decide +kernel) rfl
theorem kf_X1_11 : Cond.fieldLink RX1 11 (TX1 0).1 (TX1 0).2.1 (TX1 0).2.2.1 ∈ bg_L := bg_in 174 (by decide +kernel) rfl
theorem kl_X1_12 : Cond.classLink RX1 12 "PastryBench$Bench" ∈ bg_L := bg_in 118 (by decide +kernel) rfl
theorem kf_X1_31 : Cond.fieldLink RX1 31 (TX1 1).1 (TX1 1).2.1 (TX1 1).2.2.1 ∈ bg_L := bg_in 176 (by decide +kernel) rfl
theorem kf_X1_35 : Cond.fieldLink RX1 35 (TX1 2).1 (TX1 2).2.1 (TX1 2).2.2.1 ∈ bg_L := bg_in 178 (by decide +kernel) rfl
theorem kf_X1_38 : Cond.fieldLink RX1 38 (TX1 3).1 (TX1 3).2.1 (TX1 3).2.2.1 ∈ bg_L := bg_in 180 (by decide +kernel) rfl
theorem kf_X1_41 : Cond.fieldLink RX1 41 (TX1 4).1 (TX1 4).2.1 (TX1 4).2.2.1 ∈ bg_L := bg_in 182 (by decide +kernel) rfl
theorem kf_X1_44 : Cond.fieldLink RX1 44 (TX1 5).1 (TX1 5).2.1 (TX1 5).2.2.1 ∈ bg_L := bg_in 184 (by decide +kernel) rfl
theorem kf_X1_47 : Cond.fieldLink RX1 47 (TX1 6).1 (TX1 6).2.1 (TX1 6).2.2.1 ∈ bg_L := bg_in 186 (by decide +kernel) rfl
theorem kf_X1_50 : Cond.fieldLink RX1 50 (TX1 7).1 (TX1 7).2.1 (TX1 7).2.2.1 ∈ bg_L := bg_in 188 (by decide +kernel) rfl
theorem kf_X1_62 : Cond.fieldLink RX1 62 (TX8 5).1 (TX8 5).2.1 (TX8 5).2.2.1 ∈ bg_L := bg_in 143 (by decide +kernel) rfl
theorem kf_X1_65 : Cond.fieldLink RX1 65 (TX8 2).1 (TX8 2).2.1 (TX8 2).2.2.1 ∈ bg_L := bg_in 136 (by decide +kernel) rfl
theorem kf_X1_68 : Cond.fieldLink RX1 68 (TX8 7).1 (TX8 7).2.1 (TX8 7).2.2.1 ∈ bg_L := bg_in 149 (by decide +kernel) rfl
theorem kf_X1_72 : Cond.fieldLink RX1 72 (TX8 8).1 (TX8 8).2.1 (TX8 8).2.2.1 ∈ bg_L := bg_in 152 (by decide +kernel) rfl
theorem kg_X1_75 : Cond.fieldLink RX1 75 "PastryBench$Refusal" "BAD_STATE" "LPastryBench$Refusal;" ∈ bg_L := bg_in 846 (by decide +kernel) rfl
theorem kg_X1_81 : Cond.fieldLink RX1 81 "PastryBench$Refusal" "NONE" "LPastryBench$Refusal;" ∈ bg_L := bg_in 848 (by decide +kernel) rfl
theorem kg_X1_88 : Cond.fieldLink RX1 88 "PastryBench$Refusal" "NO_SHEET" "LPastryBench$Refusal;" ∈ bg_L := bg_in 888 (by decide +kernel) rfl
theorem kg_X1_94 : Cond.fieldLink RX1 94 "PastryBench$Refusal" "BAD_ARGUMENT" "LPastryBench$Refusal;" ∈ bg_L := bg_in 841 (by decide +kernel) rfl
theorem kf_X1_118 : Cond.fieldLink RX1 118 (TX8 6).1 (TX8 6).2.1 (TX8 6).2.2.1 ∈ bg_L := bg_in 146 (by decide +kernel) rfl
theorem kl_X3_9 : Cond.classLink RX3 9 "PastryBench$Bench" ∈ bg_L := bg_in 243 (by decide +kernel) rfl
theorem kf_X3_11 : Cond.fieldLink RX3 11 (TX3 0).1 (TX3 0).2.1 (TX3 0).2.2.1 ∈ bg_L := bg_in 246 (by decide +kernel) rfl
theorem kf_X3_18 : Cond.fieldLink RX3 18 (TX3 1).1 (TX3 1).2.1 (TX3 1).2.2.1 ∈ bg_L := bg_in 247 (by decide +kernel) rfl
theorem kf_X4_9 : Cond.fieldLink RX4 9 (TX4 0).1 (TX4 0).2.1 (TX4 0).2.2.1 ∈ bg_L := bg_in 260 (by decide +kernel) rfl
theorem kl_X5_9 : Cond.classLink RX5 9 "PastryBench$Tokens" ∈ bg_L := bg_in 51 (by decide +kernel) rfl
theorem kf_X5_12 : Cond.fieldLink RX5 12 (TX5 0).1 (TX5 0).2.1 (TX5 0).2.2.1 ∈ bg_L := bg_in 82 (by decide +kernel) rfl
theorem kf_X5_18 : Cond.fieldLink RX5 18 (TX5 2).1 (TX5 2).2.1 (TX5 2).2.2.1 ∈ bg_L := bg_in 84 (by decide +kernel) rfl
