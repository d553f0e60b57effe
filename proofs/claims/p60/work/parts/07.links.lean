/-! ===== printed by wip/tools/links.py: the methods with their rooms, and the words of the tables that their instructions ask ===== -/
def MX8_init : xM := (yX8_init, cX8_init, 1, none, [], (1, 20, 2, 400))
def MX1_init : xM := (yX1_init, cX1_init, 2, none, [], (2, 40, 19, 2460))
def MX1_begin : xM := (yX1_begin, cX1_begin, 4, none, [], (0, 0, 0, 0))
def MX8_begin : xM := (yX8_begin, cX8_begin, 2, none, [], (0, 0, 0, 0))
def MX1_addSheet : xM := (yX1_addSheet, cX1_addSheet, 2, none, [], (1, 21, 0, 0))
def MX8_wouldJoin : xM := (yX8_wouldJoin, cX8_wouldJoin, 2, (some .boolean), [], (0, 0, 0, 0))
def MX8_putLayer : xM := (yX8_putLayer, cX8_putLayer, 4, (some .boolean), [], (1, 21, 0, 0))
def MX8_load : xM := (yX8_load, cX8_load, 3, none, [], (2, 44, 0, 0))
def MX1_addLayer : xM := (yX1_addLayer, cX1_addLayer, 3, none, [], (3, 66, 0, 0))
def MX1_first : xM := (yX1_first, cX1_first, 1, (some (.object "PastryBench$Bench")), [], (4, 88, 20, 2468))
def MX8_copyFrom : xM := (yX8_copyFrom, cX8_copyFrom, 3, none, [], (0, 0, 0, 0))
def MX1_copyFrom : xM := (yX1_copyFrom, cX1_copyFrom, 3, none, [], (1, 22, 0, 0))
def MX1_hasSheet : xM := (yX1_hasSheet, cX1_hasSheet, 2, (some .boolean), [], (0, 0, 0, 0))
def MX1_findWarmest : xM := (yX1_findWarmest, cX1_findWarmest, 3, (some .int), [], (0, 0, 0, 0))
def MX1_findFinest : xM := (yX1_findFinest, cX1_findFinest, 3, (some .int), [], (0, 0, 0, 0))
def MX1_countSealed : xM := (yX1_countSealed, cX1_countSealed, 3, (some .int), [], (0, 0, 0, 0))
def MX1_countCooling : xM := (yX1_countCooling, cX1_countCooling, 3, (some .int), [], (0, 0, 0, 0))
def MX1_countUnsafe : xM := (yX1_countUnsafe, cX1_countUnsafe, 3, (some .int), [], (0, 0, 0, 0))
def MX1_stateRefusal : xM := (yX1_stateRefusal, cX1_stateRefusal, 1, (some (.object "PastryBench$Refusal")), [], (0, 0, 0, 0))
def MX11_isFactor : xM := (yX11_isFactor, cX11_isFactor, 1, (some .boolean), [], (0, 0, 0, 0))
def MX11_layersFolded : xM := (yX11_layersFolded, cX11_layersFolded, 4, (some .int), [], (0, 0, 0, 0))
def MX8_totalHeight : xM := (yX8_totalHeight, cX8_totalHeight, 3, (some .int), [], (0, 0, 0, 0))
def MX8_findFoldObstacle : xM := (yX8_findFoldObstacle, cX8_findFoldObstacle, 2, (some .int), [], (1, 23, 0, 0))
def MX1_refusalOfFold : xM := (yX1_refusalOfFold, cX1_refusalOfFold, 3, (some (.object "PastryBench$Refusal")), [], (2, 44, 0, 0))
def MX11_warmedByWork : xM := (yX11_warmedByWork, cX11_warmedByWork, 1, (some .int), [], (1, 21, 0, 0))
def MX8_foldUp : xM := (yX8_foldUp, cX8_foldUp, 10, none, [], (2, 44, 0, 0))
def MX1_applyFold : xM := (yX1_applyFold, cX1_applyFold, 3, (some .int), [], (3, 73, 0, 0))
def MX8_lossPerLayer : xM := (yX8_lossPerLayer, cX8_lossPerLayer, 2, (some .int), [], (1, 21, 0, 0))
def MX8_thicknessRolled : xM := (yX8_thicknessRolled, cX8_thicknessRolled, 4, (some .int), [], (1, 21, 0, 0))
def MX8_sumRolled : xM := (yX8_sumRolled, cX8_sumRolled, 6, (some .int), [], (2, 44, 0, 0))
def MX1_refusalOfRoll : xM := (yX1_refusalOfRoll, cX1_refusalOfRoll, 3, (some (.object "PastryBench$Refusal")), [], (3, 69, 0, 0))
def MX8_sumEscaping : xM := (yX8_sumEscaping, cX8_sumEscaping, 5, (some .int), [], (2, 42, 0, 0))
def MX8_rollOut : xM := (yX8_rollOut, cX8_rollOut, 10, (some .int), [], (2, 44, 0, 0))
def MX1_applyRoll : xM := (yX1_applyRoll, cX1_applyRoll, 3, (some .int), [], (3, 73, 0, 0))
def MX1_refusalOfDust : xM := (yX1_refusalOfDust, cX1_refusalOfDust, 2, (some (.object "PastryBench$Refusal")), [], (1, 21, 0, 0))
def MX1_applyDust : xM := (yX1_applyDust, cX1_applyDust, 2, (some .int), [], (0, 0, 0, 0))
def MX1_refusalOfSeal : xM := (yX1_refusalOfSeal, cX1_refusalOfSeal, 2, (some (.object "PastryBench$Refusal")), [], (1, 21, 0, 0))
def MX1_applySeal : xM := (yX1_applySeal, cX1_applySeal, 2, (some .int), [], (1, 22, 0, 0))
def MX1_refusalOfCool : xM := (yX1_refusalOfCool, cX1_refusalOfCool, 2, (some (.object "PastryBench$Refusal")), [], (1, 22, 0, 0))
def MX1_applyCool : xM := (yX1_applyCool, cX1_applyCool, 2, (some .int), [], (1, 22, 0, 0))
def MX1_refusalOfTakeOut : xM := (yX1_refusalOfTakeOut, cX1_refusalOfTakeOut, 2, (some (.object "PastryBench$Refusal")), [], (1, 21, 0, 0))
def MX1_applyTakeOut : xM := (yX1_applyTakeOut, cX1_applyTakeOut, 2, (some .int), [], (0, 0, 0, 0))
def MX1_refusalOfHours : xM := (yX1_refusalOfHours, cX1_refusalOfHours, 2, (some (.object "PastryBench$Refusal")), [], (1, 20, 0, 0))
def MX11_cooledByFridge : xM := (yX11_cooledByFridge, cX11_cooledByFridge, 1, (some .int), [], (1, 21, 0, 0))
def MX11_drawnToRoom : xM := (yX11_drawnToRoom, cX11_drawnToRoom, 2, (some .int), [], (0, 0, 0, 0))
def MX8_warmthAfter : xM := (yX8_warmthAfter, cX8_warmthAfter, 5, (some .int), [], (2, 41, 0, 0))
def MX1_applyHours : xM := (yX1_applyHours, cX1_applyHours, 3, (some .int), [], (3, 65, 0, 0))
def MX1_refusalOfCut : xM := (yX1_refusalOfCut, cX1_refusalOfCut, 2, (some (.object "PastryBench$Refusal")), [], (1, 21, 0, 0))
def MX1_applyCut : xM := (yX1_applyCut, cX1_applyCut, 3, (some .int), [], (1, 22, 0, 0))
def MX8_joinsWith : xM := (yX8_joinsWith, cX8_joinsWith, 2, (some .boolean), [], (1, 21, 0, 0))
def MX8_layersWith : xM := (yX8_layersWith, cX8_layersWith, 2, (some .int), [], (2, 42, 0, 0))
def MX1_refusalOfStack : xM := (yX1_refusalOfStack, cX1_refusalOfStack, 7, (some (.object "PastryBench$Refusal")), [], (3, 63, 0, 0))
def MX8_carry : xM := (yX8_carry, cX8_carry, 4, none, [], (2, 44, 0, 0))
def MX1_removeSheet : xM := (yX1_removeSheet, cX1_removeSheet, 4, none, [], (0, 0, 0, 0))
def MX1_applyStack : xM := (yX1_applyStack, cX1_applyStack, 4, (some .int), [], (3, 67, 0, 0))
def MX1_refusalOfButter : xM := (yX1_refusalOfButter, cX1_refusalOfButter, 5, (some (.object "PastryBench$Refusal")), [], (1, 22, 0, 0))
def MX8_butterTop : xM := (yX8_butterTop, cX8_butterTop, 3, none, [], (2, 44, 0, 0))
def MX1_applyButter : xM := (yX1_applyButter, cX1_applyButter, 3, (some .int), [], (3, 66, 0, 0))
def MX1_refusalOfFlour : xM := (yX1_refusalOfFlour, cX1_refusalOfFlour, 2, (some (.object "PastryBench$Refusal")), [], (1, 20, 0, 0))
def MX1_applyFlour : xM := (yX1_applyFlour, cX1_applyFlour, 2, (some .int), [], (0, 0, 0, 0))
def MX3_init : xM := (yX3_init, cX3_init, 2, none, [], (3, 61, 161, 19752))
def MX3_forget : xM := (yX3_forget, cX3_forget, 1, none, [], (0, 0, 0, 0))
def MX3_dropOldest : xM := (yX3_dropOldest, cX3_dropOldest, 3, none, [], (0, 0, 0, 0))
def MX3_remember : xM := (yX3_remember, cX3_remember, 2, none, [], (2, 44, 0, 0))
def MX3_takeBack : xM := (yX3_takeBack, cX3_takeBack, 2, none, [], (2, 44, 0, 0))
def MX4_init : xM := (yX4_init, cX4_init, 1, none, [], (1, 20, 1, 1200))
def MX10_init : xM := (yX10_init, cX10_init, 1, none, [], (1, 20, 1, 0))
def MX5_init : xM := (yX5_init, cX5_init, 1, none, [], (2, 40, 2, 6))
def MX10_isSeparator : xM := (yX10_isSeparator, cX10_isSeparator, 1, (some .boolean), [], (0, 0, 0, 0))
def MX10_isLetter : xM := (yX10_isLetter, cX10_isLetter, 1, (some .boolean), [], (0, 0, 0, 0))
def MX10_isDigit : xM := (yX10_isDigit, cX10_isDigit, 1, (some .boolean), [], (0, 0, 0, 0))
def MX10_advance : xM := (yX10_advance, cX10_advance, 2, none, [], (1, 21, 0, 0))
def MX10_begin : xM := (yX10_begin, cX10_begin, 3, none, [], (2, 42, 0, 0))
def MX5_begin : xM := (yX5_begin, cX5_begin, 3, none, [], (3, 64, 0, 0))
def MX5_fail : xM := (yX5_fail, cX5_fail, 2, (some .boolean), [], (0, 0, 0, 0))
def MJ0_coder_7d493 : xM := (yJ0_coder_7d493, cJ0_coder_7d493, 1, (some .byte), [], (0, 0, 0, 0))
def MJ0_length_8abf5 : xM := (yJ0_length_8abf5, cJ0_length_8abf5, 1, (some .int), [], (1, 20, 0, 0))
def MJ0_isLatin1_aae02 : xM := (yJ0_isLatin1_aae02, cJ0_isLatin1_aae02, 1, (some .boolean), [], (0, 0, 0, 0))
def MJ3_checkIndex_8e157 : xM := (yJ3_checkIndex_8e157, cJ3_checkIndex_8e157, 3, (some .int), [], (0, 0, 0, 0))
def MJ0_checkIndex_df160 : xM := (yJ0_checkIndex_df160, cJ0_checkIndex_df160, 2, none, [], (1, 22, 0, 0))
def MJ1_charAt_3b067 : xM := (yJ1_charAt_3b067, cJ1_charAt_3b067, 2, (some .char), [], (2, 43, 0, 0))
def MJ2_length_9d52b : xM := (yJ2_length_9d52b, cJ2_length_9d52b, 1, (some .int), [], (0, 0, 0, 0))
def MJ2_checkIndex_2214a : xM := (yJ2_checkIndex_2214a, cJ2_checkIndex_2214a, 2, none, [], (2, 43, 0, 0))
def MJ2_getChar_3b067 : xM := (yJ2_getChar_3b067, cJ2_getChar_3b067, 2, (some .char), [], (1, 20, 0, 0))
def MJ2_charAt_3b067 : xM := (yJ2_charAt_3b067, cJ2_charAt_3b067, 2, (some .char), [], (3, 64, 0, 0))
def MJ0_charAt_5068e : xM := (yJ0_charAt_5068e, cJ0_charAt_5068e, 2, (some .char), [], (4, 85, 0, 0))
def MX10_isWord : xM := (yX10_isWord, cX10_isWord, 3, (some .boolean), [], (5, 106, 0, 0))
def MX5_takeWord : xM := (yX5_takeWord, cX5_takeWord, 2, (some .boolean), [], (6, 128, 0, 0))
def MX5_takeSemicolon : xM := (yX5_takeSemicolon, cX5_takeSemicolon, 1, (some .boolean), [], (2, 42, 0, 0))
def MX5_takeNumber : xM := (yX5_takeNumber, cX5_takeNumber, 3, (some .boolean), [], (2, 42, 0, 0))
def MX5_readHeader : xM := (yX5_readHeader, cX5_readHeader, 4, (some .boolean), [], (7, 149, 0, 0))
def MX5_isLayerWord : xM := (yX5_isLayerWord, cX5_isLayerWord, 1, (some .boolean), [], (6, 128, 0, 0))
def MX5_readLayer : xM := (yX5_readLayer, cX5_readLayer, 3, (some .boolean), [], (7, 148, 0, 0))
def MX5_readSheet : xM := (yX5_readSheet, cX5_readSheet, 3, (some .boolean), [], (8, 170, 0, 0))
def MX5_readBench : xM := (yX5_readBench, cX5_readBench, 5, (some .boolean), [], (9, 192, 0, 0))
def MX7_init : xM := (yX7_init, cX7_init, 1, none, [], (1, 20, 3, 60))
def MX8_countButterLayers : xM := (yX8_countButterLayers, cX8_countButterLayers, 3, (some .int), [], (0, 0, 0, 0))
def MX8_totalButter : xM := (yX8_totalButter, cX8_totalButter, 3, (some .int), [], (0, 0, 0, 0))
def MX8_findThinnest : xM := (yX8_findThinnest, cX8_findThinnest, 3, (some .int), [], (0, 0, 0, 0))
def MX8_findThickest : xM := (yX8_findThickest, cX8_findThickest, 3, (some .int), [], (0, 0, 0, 0))
def MX8_countSeams : xM := (yX8_countSeams, cX8_countSeams, 3, (some .int), [], (0, 0, 0, 0))
def MX8_sameFromBothSides : xM := (yX8_sameFromBothSides, cX8_sameFromBothSides, 3, (some .boolean), [], (0, 0, 0, 0))
def MX8_countPossibleFolds : xM := (yX8_countPossibleFolds, cX8_countPossibleFolds, 5, (some .int), [], (1, 23, 0, 0))
def MX8_countBreaking : xM := (yX8_countBreaking, cX8_countBreaking, 6, (some .int), [], (2, 44, 0, 0))
def MX8_countHoursToSafety : xM := (yX8_countHoursToSafety, cX8_countHoursToSafety, 4, (some .int), [], (2, 41, 0, 0))
def MX11_init : xM := (yX11_init, cX11_init, 1, none, [], (5, 108, 232, 28934))
def MX11_appendWord : xM := (yX11_appendWord, cX11_appendWord, 3, none, [], (0, 0, 0, 0))
def MX11_appendText : xM := (yX11_appendText, cX11_appendText, 6, (some .int), [], (1, 22, 0, 0))
def MX11_requireLength : xM := (yX11_requireLength, cX11_requireLength, 2, none, [], (0, 0, 0, 0))
def MX11_loadBench : xM := (yX11_loadBench, cX11_loadBench, 3, (some .int), [], (10, 216, 0, 0))
def MX11_sheetCount : xM := (yX11_sheetCount, cX11_sheetCount, 1, (some .int), [], (0, 0, 0, 0))
def MX11_meltingPoint : xM := (yX11_meltingPoint, cX11_meltingPoint, 1, (some .int), [], (0, 0, 0, 0))
def MX11_flour : xM := (yX11_flour, cX11_flour, 1, (some .int), [], (0, 0, 0, 0))
def MX11_hoursPassed : xM := (yX11_hoursPassed, cX11_hoursPassed, 1, (some .int), [], (0, 0, 0, 0))
def MX11_escapedButter : xM := (yX11_escapedButter, cX11_escapedButter, 1, (some .int), [], (0, 0, 0, 0))
def MX11_brokenLayers : xM := (yX11_brokenLayers, cX11_brokenLayers, 1, (some .int), [], (0, 0, 0, 0))
def MX11_warmestSheet : xM := (yX11_warmestSheet, cX11_warmestSheet, 1, (some .int), [], (1, 22, 0, 0))
def MX11_finestSheet : xM := (yX11_finestSheet, cX11_finestSheet, 1, (some .int), [], (1, 22, 0, 0))
def MX11_sheetAt : xM := (yX11_sheetAt, cX11_sheetAt, 2, (some (.object "PastryBench$Sheet")), [], (1, 21, 0, 0))
def MX11_layerCount : xM := (yX11_layerCount, cX11_layerCount, 2, (some .int), [], (2, 42, 0, 0))
def MX11_butterLayerCount : xM := (yX11_butterLayerCount, cX11_butterLayerCount, 2, (some .int), [], (2, 42, 0, 0))
def MX11_requireLayer : xM := (yX11_requireLayer, cX11_requireLayer, 2, none, [], (0, 0, 0, 0))
def MX11_isButter : xM := (yX11_isButter, cX11_isButter, 4, (some .boolean), [], (2, 42, 0, 0))
def MX11_thickness : xM := (yX11_thickness, cX11_thickness, 4, (some .int), [], (2, 42, 0, 0))
def MX11_height : xM := (yX11_height, cX11_height, 2, (some .int), [], (2, 42, 0, 0))
def MX11_butterHeight : xM := (yX11_butterHeight, cX11_butterHeight, 2, (some .int), [], (2, 42, 0, 0))
def MX11_thinnestLayer : xM := (yX11_thinnestLayer, cX11_thinnestLayer, 2, (some .int), [], (2, 42, 0, 0))
def MX11_thickestLayer : xM := (yX11_thickestLayer, cX11_thickestLayer, 2, (some .int), [], (2, 42, 0, 0))
def MX11_seamCount : xM := (yX11_seamCount, cX11_seamCount, 2, (some .int), [], (2, 42, 0, 0))
def MX11_isSymmetric : xM := (yX11_isSymmetric, cX11_isSymmetric, 2, (some .boolean), [], (2, 42, 0, 0))
def MX11_temperature : xM := (yX11_temperature, cX11_temperature, 2, (some .int), [], (2, 42, 0, 0))
def MX11_isDusted : xM := (yX11_isDusted, cX11_isDusted, 2, (some .boolean), [], (2, 42, 0, 0))
def MX11_isSealed : xM := (yX11_isSealed, cX11_isSealed, 2, (some .boolean), [], (2, 42, 0, 0))
def MX11_isCooling : xM := (yX11_isCooling, cX11_isCooling, 2, (some .boolean), [], (2, 42, 0, 0))
def MX11_foldCount : xM := (yX11_foldCount, cX11_foldCount, 2, (some .int), [], (2, 42, 0, 0))
def MX11_expectedLayers : xM := (yX11_expectedLayers, cX11_expectedLayers, 2, (some .int), [], (2, 42, 0, 0))
def MX11_butterShare : xM := (yX11_butterShare, cX11_butterShare, 4, (some .float), [], (2, 42, 0, 0))
def MX11_requireFactor : xM := (yX11_requireFactor, cX11_requireFactor, 1, none, [], (1, 20, 0, 0))
def MX11_foldObstacle : xM := (yX11_foldObstacle, cX11_foldObstacle, 4, (some .int), [], (2, 44, 0, 0))
def MX11_layersAfterFold : xM := (yX11_layersAfterFold, cX11_layersAfterFold, 4, (some .int), [], (2, 44, 0, 0))
def MX11_foldsPossible : xM := (yX11_foldsPossible, cX11_foldsPossible, 4, (some .int), [], (2, 47, 0, 0))
def MX11_butterAtRisk : xM := (yX11_butterAtRisk, cX11_butterAtRisk, 2, (some .int), [], (3, 66, 0, 0))
def MX11_layersAtRisk : xM := (yX11_layersAtRisk, cX11_layersAtRisk, 4, (some .int), [], (3, 69, 0, 0))
def MX11_heightAfterRoll : xM := (yX11_heightAfterRoll, cX11_heightAfterRoll, 4, (some .int), [], (3, 69, 0, 0))
def MX11_temperatureAfter : xM := (yX11_temperatureAfter, cX11_temperatureAfter, 4, (some .int), [], (3, 65, 0, 0))
def MX11_hoursToSafety : xM := (yX11_hoursToSafety, cX11_hoursToSafety, 2, (some .int), [], (3, 64, 0, 0))
def MX11_throwIfRefused : xM := (yX11_throwIfRefused, cX11_throwIfRefused, 1, none, [], (0, 0, 0, 0))
def MX11_fold : xM := (yX11_fold, cX11_fold, 3, (some .int), [], (4, 95, 0, 0))
def MX11_roll : xM := (yX11_roll, cX11_roll, 3, (some .int), [], (4, 95, 0, 0))
def MX11_dust : xM := (yX11_dust, cX11_dust, 2, (some .int), [], (3, 65, 0, 0))
def MX11_seal : xM := (yX11_seal, cX11_seal, 2, (some .int), [], (3, 65, 0, 0))
def MX11_cool : xM := (yX11_cool, cX11_cool, 2, (some .int), [], (3, 65, 0, 0))
def MX11_takeOut : xM := (yX11_takeOut, cX11_takeOut, 2, (some .int), [], (3, 65, 0, 0))
def MX11_passHours : xM := (yX11_passHours, cX11_passHours, 2, (some .int), [], (4, 87, 0, 0))
def MX11_cut : xM := (yX11_cut, cX11_cut, 2, (some .int), [], (3, 65, 0, 0))
def MX11_stack : xM := (yX11_stack, cX11_stack, 3, (some .int), [], (4, 90, 0, 0))
def MX11_addButter : xM := (yX11_addButter, cX11_addButter, 3, (some .int), [], (4, 88, 0, 0))
def MX11_buyFlour : xM := (yX11_buyFlour, cX11_buyFlour, 2, (some .int), [], (3, 65, 0, 0))
def MX11_undoableCount : xM := (yX11_undoableCount, cX11_undoableCount, 1, (some .int), [], (0, 0, 0, 0))
def MX11_undo : xM := (yX11_undo, cX11_undo, 1, (some .int), [], (3, 65, 0, 0))
def MX11_saveSnapshot : xM := (yX11_saveSnapshot, cX11_saveSnapshot, 1, none, [], (2, 44, 0, 0))
def MX11_restoreSnapshot : xM := (yX11_restoreSnapshot, cX11_restoreSnapshot, 1, (some .int), [], (2, 44, 0, 0))
def MJ2_newBytesLength_0f7a4 : xM := (yJ2_newBytesLength_0f7a4, cJ2_newBytesLength_0f7a4, 1, (some .int), [], (0, 0, 0, 0))
def MJ2_newBytesFor_77867 : xM := (yJ2_newBytesFor_77867, cJ2_newBytesFor_77867, 1, (some (.array .byte)), [], (1, 20, 0, 0))
def MJ8_hugeLength_7cf53 : xM := (yJ8_hugeLength_7cf53, cJ8_hugeLength_7cf53, 3, (some .int), [], (0, 0, 0, 0))
def MJ8_newLength_cabcc : xM := (yJ8_newLength_cabcc, cJ8_newLength_cabcc, 4, (some .int), [], (1, 22, 0, 0))
def MJ5_newCapacity_0f7a4 : xM := (yJ5_newCapacity_0f7a4, cJ5_newCapacity_0f7a4, 6, (some .int), [], (2, 45, 0, 0))
def MJ7_copyOf_9075b : xM := (yJ7_copyOf_9075b, cJ7_copyOf_9075b, 3, (some (.array .byte)), [], (1, 40, 1, 1000))
def MJ5_ensureCapacityInternal_d00df : xM := (yJ5_ensureCapacityInternal_d00df, cJ5_ensureCapacityInternal_d00df, 3, none, [], (3, 70, 1, 1000))
def MJ5_isLatin1_aae02 : xM := (yJ5_isLatin1_aae02, cJ5_isLatin1_aae02, 1, (some .boolean), [], (0, 0, 0, 0))
def MJ3_checkFromToIndex_8c36e : xM := (yJ3_checkFromToIndex_8c36e, cJ3_checkFromToIndex_8c36e, 4, (some .int), [], (0, 0, 0, 0))
def MJ0_checkBoundsBeginEnd_23922 : xM := (yJ0_checkBoundsBeginEnd_23922, cJ0_checkBoundsBeginEnd_23922, 3, none, [], (1, 23, 0, 0))
def MJ2_checkBoundsBeginEnd_d044e : xM := (yJ2_checkBoundsBeginEnd_d044e, cJ2_checkBoundsBeginEnd_d044e, 3, none, [], (2, 45, 0, 0))
def MJ2_putChar_b72d1 : xM := (yJ2_putChar_b72d1, cJ2_putChar_b72d1, 3, none, [], (1, 20, 0, 0))
def MJ2_putCharsAt_cd4e5 : xM := (yJ2_putCharsAt_cd4e5, cJ2_putCharsAt_cd4e5, 7, (some .int), [], (3, 67, 0, 0))
def MJ5_appendNull_278bc : xM := (yJ5_appendNull_278bc, cJ5_appendNull_278bc, 3, (some (.object "java/lang/AbstractStringBuilder")), [], (4, 93, 1, 1000))
def MJ3_checkFromIndexSize_8c36e : xM := (yJ3_checkFromIndexSize_8c36e, cJ3_checkFromIndexSize_8c36e, 4, (some .int), [], (0, 0, 0, 0))
def MJ0_checkBoundsOffCount_cabcc : xM := (yJ0_checkBoundsOffCount_cabcc, cJ0_checkBoundsOffCount_cabcc, 3, (some .int), [], (1, 23, 0, 0))
def MJ2_checkBoundsOffCount_d044e : xM := (yJ2_checkBoundsOffCount_d044e, cJ2_checkBoundsOffCount_d044e, 3, none, [], (2, 45, 0, 0))
def MJ2_inflate_0e8fd : xM := (yJ2_inflate_0e8fd, cJ2_inflate_0e8fd, 6, none, [], (3, 67, 0, 0))
def MJ1_inflate_0e8fd : xM := (yJ1_inflate_0e8fd, cJ1_inflate_0e8fd, 5, none, [], (4, 92, 0, 0))
def MJ5_inflate_da8c8 : xM := (yJ5_inflate_da8c8, cJ5_inflate_da8c8, 2, none, [], (5, 116, 0, 0))
def MJ5_inflateIfNeededFor_a7421 : xM := (yJ5_inflateIfNeededFor_a7421, cJ5_inflateIfNeededFor_a7421, 2, none, [], (1, 20, 0, 0))
def MJ0_getBytes_840e7 : xM := (yJ0_getBytes_840e7, cJ0_getBytes_840e7, 4, none, [], (1, 40, 0, 0))
def MJ5_putStringAt_47b60 : xM := (yJ5_putStringAt_47b60, cJ5_putStringAt_47b60, 3, none, [], (2, 63, 0, 0))
def MJ5_append_cf1ce : xM := (yJ5_append_cf1ce, cJ5_append_cf1ce, 3, (some (.object "java/lang/AbstractStringBuilder")), [], (4, 92, 1, 1000))
def MJ4_append_15ec4 : xM := (yJ4_append_15ec4, cJ4_append_15ec4, 2, (some (.object "java/lang/StringBuilder")), [], (5, 114, 1, 1000))
def MJ4_append_cf1ce : xM := (yJ4_append_cf1ce, cJ4_append_cf1ce, 2, (some (.object "java/lang/AbstractStringBuilder")), [], (6, 135, 1, 1000))
def MJ5_init_a7421 : xM := (yJ5_init_a7421, cJ5_init_a7421, 5, none, [], (5, 114, 2, 1100))
def MJ5_length_8abf5 : xM := (yJ5_length_8abf5, cJ5_length_8abf5, 1, (some .int), [], (0, 0, 0, 0))
def MJ1_canEncode_fc78d : xM := (yJ1_canEncode_fc78d, cJ1_canEncode_fc78d, 1, (some .boolean), [], (0, 0, 0, 0))
def MJ2_putCharSB_b72d1 : xM := (yJ2_putCharSB_b72d1, cJ2_putCharSB_b72d1, 3, none, [], (3, 64, 0, 0))
def MJ5_append_3fe6f : xM := (yJ5_append_3fe6f, cJ5_append_3fe6f, 2, (some (.object "java/lang/AbstractStringBuilder")), [], (6, 137, 1, 1000))
def MJ6_stringSize_0f7a4 : xM := (yJ6_stringSize_0f7a4, cJ6_stringSize_0f7a4, 4, (some .int), [], (0, 0, 0, 0))
def MJ6_getChars_ba4f3 : xM := (yJ6_getChars_ba4f3, cJ6_getChars_ba4f3, 7, (some .int), [], (0, 0, 0, 0))
def MJ2_getChars_ba4f3 : xM := (yJ2_getChars_ba4f3, cJ2_getChars_ba4f3, 7, (some .int), [], (2, 42, 0, 0))
def MJ2_getChars_46870 : xM := (yJ2_getChars_46870, cJ2_getChars_46870, 5, (some .int), [], (3, 68, 0, 0))
def MJ5_append_c97b9 : xM := (yJ5_append_c97b9, cJ5_append_c97b9, 4, (some (.object "java/lang/AbstractStringBuilder")), [], (4, 92, 1, 1000))
def MJ5_getValue_6d5f1 : xM := (yJ5_getValue_6d5f1, cJ5_getValue_6d5f1, 1, (some (.array .byte)), [], (0, 0, 0, 0))
def MJ9_max_7cf53 : xM := (yJ9_max_7cf53, cJ9_max_7cf53, 2, (some .int), [], (0, 0, 0, 0))
def MJ9_min_7cf53 : xM := (yJ9_min_7cf53, cJ9_min_7cf53, 2, (some .int), [], (0, 0, 0, 0))
def MJ4_length_8abf5 : xM := (yJ4_length_8abf5, cJ4_length_8abf5, 1, (some .int), [], (1, 20, 0, 0))
def MJ7_checkLength_df160 : xM := (yJ7_checkLength_df160, cJ7_checkLength_df160, 2, none, [], (0, 0, 0, 0))
def MJ7_copyOfRangeByte_39247 : xM := (yJ7_copyOfRangeByte_39247, cJ7_copyOfRangeByte_39247, 5, (some (.array .byte)), [], (1, 40, 1, 1000))
def MJ7_copyOfRange_39247 : xM := (yJ7_copyOfRange_39247, cJ7_copyOfRange_39247, 3, (some (.array .byte)), [], (2, 64, 1, 1000))
def MJ2_compress_5af95 : xM := (yJ2_compress_5af95, cJ2_compress_5af95, 7, (some .int), [], (3, 67, 0, 0))
def MJ2_compress_39247 : xM := (yJ2_compress_39247, cJ2_compress_39247, 6, (some (.array .byte)), [], (4, 93, 1, 1000))
def MJ2_coderFromArrayLen_85cad : xM := (yJ2_coderFromArrayLen_85cad, cJ2_coderFromArrayLen_85cad, 2, (some .byte), [], (0, 0, 0, 0))
def MJ0_init_db425 : xM := (yJ0_init_db425, cJ0_init_db425, 5, none, [], (3, 86, 1, 1000))
def MJ0_init_81219 : xM := (yJ0_init_81219, cJ0_init_81219, 2, none, [], (4, 110, 1, 1000))
def MJ4_init_a7421 : xM := (yJ4_init_a7421, cJ4_init_a7421, 2, none, [], (6, 138, 2, 1100))
def MJ4_append_cf468 : xM := (yJ4_append_cf468, cJ4_append_cf468, 2, (some (.object "java/lang/StringBuilder")), [], (7, 158, 1, 1000))
def MJ4_append_bf812 : xM := (yJ4_append_bf812, cJ4_append_bf812, 2, (some (.object "java/lang/StringBuilder")), [], (5, 115, 1, 1000))
def MJ4_toString_0e30d : xM := (yJ4_toString_0e30d, cJ4_toString_0e30d, 1, (some (.object "java/lang/String")), [], (5, 131, 2, 1004))
def ML_most : xM := (yL_most, cL_most, 2, (some .int), [], (0, 0, 0, 0))
def ML_cell : xM := (yL_cell, cL_cell, 2, (some .int), [], (0, 0, 0, 0))
def ML_add : xM := (yL_add, cL_add, 4, none, [], (2, 47, 0, 0))
def ML_say : xM := (yL_say, cL_say, 4, none, [], (5, 106, 0, 0))
def ML_end : xM := (yL_end, cL_end, 3, (some .int), [], (3, 70, 0, 0))
def ML_all : xM := (yL_all, cL_all, 7, (some (.array .int)), [], (3, 65, 1, 1300))
def ML_alike : xM := (yL_alike, cL_alike, 3, (some .boolean), [], (0, 0, 0, 0))
def ML_isBench : xM := (yL_isBench, cL_isBench, 14, (some .boolean), [], (4, 92, 0, 0))
def ML_act : xM := (yL_act, cL_act, 16, (some .boolean), [], (5, 117, 0, 0))
def ML_law : xM := (yL_law, cL_law, 11, (some .boolean), [], (15, 578, 600086, 7301442))
theorem cl_X1 : x_CL 0 RX1 TX1 8 tyX1 := ⟨rfl, fun w hw => by
  rcases List.mem_map.mp hw with ⟨k, hk, rfl⟩
  have hk := List.mem_range.mp hk
  rcases (show k = 0 ∨ k = 1 ∨ k = 2 ∨ k = 3 ∨ k = 4 ∨ k = 5 ∨ k = 6 ∨ k = 7 by omega) with rfl | rfl | rfl | rfl | rfl | rfl | rfl | rfl
  · exact bg_in 186 (by decide +kernel) rfl
  · exact bg_in 188 (by decide +kernel) rfl
  · exact bg_in 190 (by decide +kernel) rfl
  · exact bg_in 192 (by decide +kernel) rfl
  · exact bg_in 194 (by decide +kernel) rfl
  · exact bg_in 196 (by decide +kernel) rfl
  · exact bg_in 198 (by decide +kernel) rfl
  · exact bg_in 200 (by decide +kernel) rfl
  , tyX1_ok, nmX1⟩
theorem cl_X3 : x_CL 1 RX3 TX3 2 tyX3 := ⟨rfl, fun w hw => by
  rcases List.mem_map.mp hw with ⟨k, hk, rfl⟩
  have hk := List.mem_range.mp hk
  rcases (show k = 0 ∨ k = 1 by omega) with rfl | rfl
  · exact bg_in 245 (by decide +kernel) rfl
  · exact bg_in 247 (by decide +kernel) rfl
  , tyX3_ok, nmX3⟩
theorem cl_X4 : x_CL 2 RX4 TX4 2 tyX4 := ⟨rfl, fun w hw => by
  rcases List.mem_map.mp hw with ⟨k, hk, rfl⟩
  have hk := List.mem_range.mp hk
  rcases (show k = 0 ∨ k = 1 by omega) with rfl | rfl
  · exact bg_in 257 (by decide +kernel) rfl
  · exact bg_in 259 (by decide +kernel) rfl
  , tyX4_ok, nmX4⟩
theorem cl_X5 : x_CL 3 RX5 TX5 4 tyX5 := ⟨rfl, fun w hw => by
  rcases List.mem_map.mp hw with ⟨k, hk, rfl⟩
  have hk := List.mem_range.mp hk
  rcases (show k = 0 ∨ k = 1 ∨ k = 2 ∨ k = 3 by omega) with rfl | rfl | rfl | rfl
  · exact bg_in 82 (by decide +kernel) rfl
  · exact bg_in 84 (by decide +kernel) rfl
  · exact bg_in 86 (by decide +kernel) rfl
  · exact bg_in 88 (by decide +kernel) rfl
  , tyX5_ok, nmX5⟩
theorem cl_X7 : x_CL 4 RX7 TX7 4 tyX7 := ⟨rfl, fun w hw => by
  rcases List.mem_map.mp hw with ⟨k, hk, rfl⟩
  have hk := List.mem_range.mp hk
  rcases (show k = 0 ∨ k = 1 ∨ k = 2 ∨ k = 3 by omega) with rfl | rfl | rfl | rfl
  · exact bg_in 102 (by decide +kernel) rfl
  · exact bg_in 104 (by decide +kernel) rfl
  · exact bg_in 106 (by decide +kernel) rfl
  · exact bg_in 108 (by decide +kernel) rfl
  , tyX7_ok, nmX7⟩
theorem cl_X8 : x_CL 5 RX8 TX8 9 tyX8 := ⟨rfl, fun w hw => by
  rcases List.mem_map.mp hw with ⟨k, hk, rfl⟩
  have hk := List.mem_range.mp hk
  rcases (show k = 0 ∨ k = 1 ∨ k = 2 ∨ k = 3 ∨ k = 4 ∨ k = 5 ∨ k = 6 ∨ k = 7 ∨ k = 8 by omega) with rfl | rfl | rfl | rfl | rfl | rfl | rfl | rfl | rfl
  · exact bg_in 150 (by decide +kernel) rfl
  · exact bg_in 152 (by decide +kernel) rfl
  · exact bg_in 154 (by decide +kernel) rfl
  · exact bg_in 156 (by decide +kernel) rfl
  · exact bg_in 158 (by decide +kernel) rfl
  · exact bg_in 160 (by decide +kernel) rfl
  · exact bg_in 162 (by decide +kernel) rfl
  · exact bg_in 164 (by decide +kernel) rfl
  · exact bg_in 166 (by decide +kernel) rfl
  , tyX8_ok, nmX8⟩
theorem cl_X10 : x_CL 6 RX10 TX10 6 tyX10 := ⟨rfl, fun w hw => by
  rcases List.mem_map.mp hw with ⟨k, hk, rfl⟩
  have hk := List.mem_range.mp hk
  rcases (show k = 0 ∨ k = 1 ∨ k = 2 ∨ k = 3 ∨ k = 4 ∨ k = 5 by omega) with rfl | rfl | rfl | rfl | rfl | rfl
  · exact bg_in 64 (by decide +kernel) rfl
  · exact bg_in 66 (by decide +kernel) rfl
  · exact bg_in 68 (by decide +kernel) rfl
  · exact bg_in 70 (by decide +kernel) rfl
  · exact bg_in 72 (by decide +kernel) rfl
  · exact bg_in 74 (by decide +kernel) rfl
  , tyX10_ok, nmX10⟩
theorem cl_X11 : x_CL 7 RX11 TX11 10 tyX11 := ⟨rfl, fun w hw => by
  rcases List.mem_map.mp hw with ⟨k, hk, rfl⟩
  have hk := List.mem_range.mp hk
  rcases (show k = 0 ∨ k = 1 ∨ k = 2 ∨ k = 3 ∨ k = 4 ∨ k = 5 ∨ k = 6 ∨ k = 7 ∨ k = 8 ∨ k = 9 by omega) with rfl | rfl | rfl | rfl | rfl | rfl | rfl | rfl | rfl | rfl
  · exact bg_in 272 (by decide +kernel) rfl
  · exact bg_in 274 (by decide +kernel) rfl
  · exact bg_in 276 (by decide +kernel) rfl
  · exact bg_in 278 (by decide +kernel) rfl
  · exact bg_in 280 (by decide +kernel) rfl
  · exact bg_in 282 (by decide +kernel) rfl
  · exact bg_in 284 (by decide +kernel) rfl
  · exact bg_in 286 (by decide +kernel) rfl
  · exact bg_in 288 (by decide +kernel) rfl
  · exact bg_in 290 (by decide +kernel) rfl
  , tyX11_ok, nmX11⟩
theorem cl_J0 : x_CL 8 RJ0 TJ0 4 tyJ0 := ⟨rfl, fun w hw => by
  rcases List.mem_map.mp hw with ⟨k, hk, rfl⟩
  have hk := List.mem_range.mp hk
  rcases (show k = 0 ∨ k = 1 ∨ k = 2 ∨ k = 3 by omega) with rfl | rfl | rfl | rfl
  · exact bg_in 1275 (by decide +kernel) rfl
  · exact bg_in 1277 (by decide +kernel) rfl
  · exact bg_in 1279 (by decide +kernel) rfl
  · exact bg_in 1281 (by decide +kernel) rfl
  , tyJ0_ok, nmJ0⟩
theorem cl_J4 : x_CL 9 RJ4 TJ4 4 tyJ4 := ⟨rfl, fun w hw => by
  rcases List.mem_map.mp hw with ⟨k, hk, rfl⟩
  have hk := List.mem_range.mp hk
  rcases (show k = 0 ∨ k = 1 ∨ k = 2 ∨ k = 3 by omega) with rfl | rfl | rfl | rfl
  · exact bg_in 1180 (by decide +kernel) rfl
  · exact bg_in 1182 (by decide +kernel) rfl
  · exact bg_in 1184 (by decide +kernel) rfl
  · exact bg_in 1186 (by decide +kernel) rfl
  , tyJ4_ok, nmJ4⟩
theorem kf_X11_9 : Cond.fieldLink RX11 9 (TX11 0).1 (TX11 0).2.1 (TX11 0).2.2.1 ∈ bg_L := bg_in 262 (by decide +kernel) rfl
theorem kl_X11_13 : Cond.classLink RX11 13 "PastryBench$Parser" ∈ bg_L := bg_in 41 (by decide +kernel) rfl
theorem kf_X11_16 : Cond.fieldLink RX11 16 (TX11 2).1 (TX11 2).2.1 (TX11 2).2.2.1 ∈ bg_L := bg_in 264 (by decide +kernel) rfl
theorem kl_X11_20 : Cond.classLink RX11 20 "PastryBench$Script" ∈ bg_L := bg_in 91 (by decide +kernel) rfl
theorem kf_X11_23 : Cond.fieldLink RX11 23 (TX11 3).1 (TX11 3).2.1 (TX11 3).2.2.1 ∈ bg_L := bg_in 265 (by decide +kernel) rfl
theorem kl_X11_28 : Cond.classLink RX11 28 "PastryBench$Bench" ∈ bg_L := bg_in 231 (by decide +kernel) rfl
theorem kf_X11_33 : Cond.fieldLink RX11 33 (TX11 4).1 (TX11 4).2.1 (TX11 4).2.2.1 ∈ bg_L := bg_in 266 (by decide +kernel) rfl
theorem kf_X11_38 : Cond.fieldLink RX11 38 (TX11 5).1 (TX11 5).2.1 (TX11 5).2.2.1 ∈ bg_L := bg_in 267 (by decide +kernel) rfl
theorem kf_X11_41 : Cond.fieldLink RX11 41 (TX11 6).1 (TX11 6).2.1 (TX11 6).2.2.1 ∈ bg_L := bg_in 268 (by decide +kernel) rfl
theorem kl_X11_44 : Cond.classLink RX11 44 "PastryBench$History" ∈ bg_L := bg_in 233 (by decide +kernel) rfl
theorem kf_X11_47 : Cond.fieldLink RX11 47 (TX11 8).1 (TX11 8).2.1 (TX11 8).2.2.1 ∈ bg_L := bg_in 270 (by decide +kernel) rfl
theorem kl_X11_51 : Cond.classLink RX11 51 "PastryBench$Output" ∈ bg_L := bg_in 250 (by decide +kernel) rfl
theorem kf_X11_54 : Cond.fieldLink RX11 54 (TX11 9).1 (TX11 9).2.1 (TX11 9).2.2.1 ∈ bg_L := bg_in 271 (by decide +kernel) rfl
theorem kf_X11_58 : Cond.fieldLink RX11 58 (TX11 1).1 (TX11 1).2.1 (TX11 1).2.2.1 ∈ bg_L := bg_in 263 (by decide +kernel) rfl
theorem kf_X11_80 : Cond.fieldLink RX11 80 (TX11 7).1 (TX11 7).2.1 (TX11 7).2.2.1 ∈ bg_L := bg_in 269 (by decide +kernel) rfl
theorem kf_X11_84 : Cond.fieldLink RX11 84 (TX1 1).1 (TX1 1).2.1 (TX1 1).2.2.1 ∈ bg_L := bg_in 173 (by decide +kernel) rfl
theorem kf_X11_93 : Cond.fieldLink RX11 93 (TX1 2).1 (TX1 2).2.1 (TX1 2).2.2.1 ∈ bg_L := bg_in 175 (by decide +kernel) rfl
theorem kf_X11_96 : Cond.fieldLink RX11 96 (TX1 3).1 (TX1 3).2.1 (TX1 3).2.2.1 ∈ bg_L := bg_in 177 (by decide +kernel) rfl
theorem kf_X11_99 : Cond.fieldLink RX11 99 (TX1 4).1 (TX1 4).2.1 (TX1 4).2.2.1 ∈ bg_L := bg_in 179 (by decide +kernel) rfl
theorem kf_X11_102 : Cond.fieldLink RX11 102 (TX1 5).1 (TX1 5).2.1 (TX1 5).2.2.1 ∈ bg_L := bg_in 181 (by decide +kernel) rfl
theorem kf_X11_105 : Cond.fieldLink RX11 105 (TX1 6).1 (TX1 6).2.1 (TX1 6).2.2.1 ∈ bg_L := bg_in 183 (by decide +kernel) rfl
theorem kf_X11_108 : Cond.fieldLink RX11 108 (TX1 7).1 (TX1 7).2.1 (TX1 7).2.2.1 ∈ bg_L := bg_in 185 (by decide +kernel) rfl
theorem kf_X11_122 : Cond.fieldLink RX11 122 (TX8 2).1 (TX8 2).2.1 (TX8 2).2.2.1 ∈ bg_L := bg_in 133 (by decide +kernel) rfl
theorem kf_X11_134 : Cond.fieldLink RX11 134 (TX8 1).1 (TX8 1).2.1 (TX8 1).2.2.1 ∈ bg_L := bg_in 130 (by decide +kernel) rfl
theorem kf_X11_138 : Cond.fieldLink RX11 138 (TX8 0).1 (TX8 0).2.1 (TX8 0).2.2.1 ∈ bg_L := bg_in 128 (by decide +kernel) rfl
theorem kf_X11_160 : Cond.fieldLink RX11 160 (TX8 5).1 (TX8 5).2.1 (TX8 5).2.2.1 ∈ bg_L := bg_in 140 (by decide +kernel) rfl
theorem kf_X11_163 : Cond.fieldLink RX11 163 (TX8 6).1 (TX8 6).2.1 (TX8 6).2.2.1 ∈ bg_L := bg_in 143 (by decide +kernel) rfl
theorem kf_X11_166 : Cond.fieldLink RX11 166 (TX8 7).1 (TX8 7).2.1 (TX8 7).2.2.1 ∈ bg_L := bg_in 146 (by decide +kernel) rfl
theorem kf_X11_169 : Cond.fieldLink RX11 169 (TX8 8).1 (TX8 8).2.1 (TX8 8).2.2.1 ∈ bg_L := bg_in 149 (by decide +kernel) rfl
theorem kf_X11_172 : Cond.fieldLink RX11 172 (TX8 4).1 (TX8 4).2.1 (TX8 4).2.2.1 ∈ bg_L := bg_in 137 (by decide +kernel) rfl
theorem kf_X11_175 : Cond.fieldLink RX11 175 (TX8 3).1 (TX8 3).2.1 (TX8 3).2.2.1 ∈ bg_L := bg_in 135 (by decide +kernel) rfl
theorem kl_X11_202 : Cond.classLink RX11 202 "java/lang/IllegalArgumentException" ∈ bg_L := bg_in 301 (by decide +kernel) rfl
theorem kl_X11_305 : Cond.classLink RX11 305 "java/lang/IndexOutOfBoundsException" ∈ bg_L := bg_in 596 (by decide +kernel) rfl
theorem kf_X11_313 : Cond.fieldLink RX11 313 (TX3 1).1 (TX3 1).2.1 (TX3 1).2.2.1 ∈ bg_L := bg_in 244 (by decide +kernel) rfl
theorem kl_X11_314 : Cond.classLink RX11 314 "java/lang/IllegalStateException" ∈ bg_L := bg_in 521 (by decide +kernel) rfl
theorem kf_X11_332 : Cond.fieldLink RX11 332 (TX1 0).1 (TX1 0).2.1 (TX1 0).2.2.1 ∈ bg_L := bg_in 171 (by decide +kernel) rfl
theorem kg_X11_343 : Cond.fieldLink RX11 343 "PastryBench$Refusal" "NO_SHEET" "LPastryBench$Refusal;" ∈ bg_L := bg_in 849 (by decide +kernel) rfl
theorem kg_X11_349 : Cond.fieldLink RX11 349 "PastryBench$Refusal" "BAD_ARGUMENT" "LPastryBench$Refusal;" ∈ bg_L := bg_in 851 (by decide +kernel) rfl
theorem kg_X11_354 : Cond.fieldLink RX11 354 "PastryBench$Refusal" "BAD_STATE" "LPastryBench$Refusal;" ∈ bg_L := bg_in 853 (by decide +kernel) rfl
theorem kl_X1_9 : Cond.classLink RX1 9 "PastryBench$Sheet" ∈ bg_L := bg_in 120 (by decide +kernel) rfl
theorem kf_X1_11 : Cond.fieldLink RX1 11 (TX1 0).1 (TX1 0).2.1 (TX1 0).2.2.1 ∈ bg_L := bg_in 170 (by decide +kernel) rfl
theorem kl_X1_12 : Cond.classLink RX1 12 "PastryBench$Bench" ∈ bg_L := bg_in 114 (by decide +kernel) rfl
theorem kf_X1_31 : Cond.fieldLink RX1 31 (TX1 1).1 (TX1 1).2.1 (TX1 1).2.2.1 ∈ bg_L := bg_in 172 (by decide +kernel) rfl
theorem kf_X1_35 : Cond.fieldLink RX1 35 (TX1 2).1 (TX1 2).2.1 (TX1 2).2.2.1 ∈ bg_L := bg_in 174 (by decide +kernel) rfl
theorem kf_X1_38 : Cond.fieldLink RX1 38 (TX1 3).1 (TX1 3).2.1 (TX1 3).2.2.1 ∈ bg_L := bg_in 176 (by decide +kernel) rfl
theorem kf_X1_41 : Cond.fieldLink RX1 41 (TX1 4).1 (TX1 4).2.1 (TX1 4).2.2.1 ∈ bg_L := bg_in 178 (by decide +kernel) rfl
theorem kf_X1_44 : Cond.fieldLink RX1 44 (TX1 5).1 (TX1 5).2.1 (TX1 5).2.2.1 ∈ bg_L := bg_in 180 (by decide +kernel) rfl
theorem kf_X1_47 : Cond.fieldLink RX1 47 (TX1 6).1 (TX1 6).2.1 (TX1 6).2.2.1 ∈ bg_L := bg_in 182 (by decide +kernel) rfl
theorem kf_X1_50 : Cond.fieldLink RX1 50 (TX1 7).1 (TX1 7).2.1 (TX1 7).2.2.1 ∈ bg_L := bg_in 184 (by decide +kernel) rfl
theorem kf_X1_62 : Cond.fieldLink RX1 62 (TX8 5).1 (TX8 5).2.1 (TX8 5).2.2.1 ∈ bg_L := bg_in 139 (by decide +kernel) rfl
theorem kf_X1_65 : Cond.fieldLink RX1 65 (TX8 2).1 (TX8 2).2.1 (TX8 2).2.2.1 ∈ bg_L := bg_in 132 (by decide +kernel) rfl
theorem kf_X1_68 : Cond.fieldLink RX1 68 (TX8 7).1 (TX8 7).2.1 (TX8 7).2.2.1 ∈ bg_L := bg_in 145 (by decide +kernel) rfl
theorem kf_X1_72 : Cond.fieldLink RX1 72 (TX8 8).1 (TX8 8).2.1 (TX8 8).2.2.1 ∈ bg_L := bg_in 148 (by decide +kernel) rfl
theorem kg_X1_75 : Cond.fieldLink RX1 75 "PastryBench$Refusal" "BAD_STATE" "LPastryBench$Refusal;" ∈ bg_L := bg_in 842 (by decide +kernel) rfl
theorem kg_X1_81 : Cond.fieldLink RX1 81 "PastryBench$Refusal" "NONE" "LPastryBench$Refusal;" ∈ bg_L := bg_in 844 (by decide +kernel) rfl
theorem kg_X1_88 : Cond.fieldLink RX1 88 "PastryBench$Refusal" "NO_SHEET" "LPastryBench$Refusal;" ∈ bg_L := bg_in 884 (by decide +kernel) rfl
theorem kg_X1_94 : Cond.fieldLink RX1 94 "PastryBench$Refusal" "BAD_ARGUMENT" "LPastryBench$Refusal;" ∈ bg_L := bg_in 837 (by decide +kernel) rfl
theorem kf_X1_118 : Cond.fieldLink RX1 118 (TX8 6).1 (TX8 6).2.1 (TX8 6).2.2.1 ∈ bg_L := bg_in 142 (by decide +kernel) rfl
theorem kl_X3_9 : Cond.classLink RX3 9 "PastryBench$Bench" ∈ bg_L := bg_in 239 (by decide +kernel) rfl
theorem kf_X3_11 : Cond.fieldLink RX3 11 (TX3 0).1 (TX3 0).2.1 (TX3 0).2.2.1 ∈ bg_L := bg_in 242 (by decide +kernel) rfl
theorem kf_X3_18 : Cond.fieldLink RX3 18 (TX3 1).1 (TX3 1).2.1 (TX3 1).2.2.1 ∈ bg_L := bg_in 243 (by decide +kernel) rfl
theorem kf_X4_9 : Cond.fieldLink RX4 9 (TX4 0).1 (TX4 0).2.1 (TX4 0).2.2.1 ∈ bg_L := bg_in 256 (by decide +kernel) rfl
theorem kl_X5_9 : Cond.classLink RX5 9 "PastryBench$Tokens" ∈ bg_L := bg_in 47 (by decide +kernel) rfl
theorem kf_X5_12 : Cond.fieldLink RX5 12 (TX5 0).1 (TX5 0).2.1 (TX5 0).2.2.1 ∈ bg_L := bg_in 78 (by decide +kernel) rfl
theorem kf_X5_18 : Cond.fieldLink RX5 18 (TX5 2).1 (TX5 2).2.1 (TX5 2).2.2.1 ∈ bg_L := bg_in 80 (by decide +kernel) rfl
theorem kf_X5_22 : Cond.fieldLink RX5 22 (TX5 1).1 (TX5 1).2.1 (TX5 1).2.2.1 ∈ bg_L := bg_in 79 (by decide +kernel) rfl
theorem kf_X5_29 : Cond.fieldLink RX5 29 (TX10 4).1 (TX10 4).2.1 (TX10 4).2.2.1 ∈ bg_L := bg_in 60 (by decide +kernel) rfl
theorem kf_X5_43 : Cond.fieldLink RX5 43 (TX10 3).1 (TX10 3).2.1 (TX10 3).2.2.1 ∈ bg_L := bg_in 59 (by decide +kernel) rfl
theorem kg_X5_47 : Cond.fieldLink RX5 47 "PastryBench$TokenKind" "SEMICOLON" "LPastryBench$TokenKind;" ∈ bg_L := bg_in 482 (by decide +kernel) rfl
theorem kg_X5_52 : Cond.fieldLink RX5 52 "PastryBench$TokenKind" "NUMBER" "LPastryBench$TokenKind;" ∈ bg_L := bg_in 476 (by decide +kernel) rfl
theorem kf_X5_55 : Cond.fieldLink RX5 55 (TX10 5).1 (TX10 5).2.1 (TX10 5).2.2.1 ∈ bg_L := bg_in 63 (by decide +kernel) rfl
theorem kf_X5_58 : Cond.fieldLink RX5 58 (TX5 3).1 (TX5 3).2.1 (TX5 3).2.2.1 ∈ bg_L := bg_in 81 (by decide +kernel) rfl
theorem kg_X5_66 : Cond.fieldLink RX5 66 "PastryBench$TokenKind" "END" "LPastryBench$TokenKind;" ∈ bg_L := bg_in 483 (by decide +kernel) rfl
theorem kl_X7_9 : Cond.classLink RX7 9 "PastryBench$Command" ∈ bg_L := bg_in 97 (by decide +kernel) rfl
theorem kf_X7_11 : Cond.fieldLink RX7 11 (TX7 0).1 (TX7 0).2.1 (TX7 0).2.2.1 ∈ bg_L := bg_in 99 (by decide +kernel) rfl
theorem kf_X7_17 : Cond.fieldLink RX7 17 (TX7 1).1 (TX7 1).2.1 (TX7 1).2.2.1 ∈ bg_L := bg_in 100 (by decide +kernel) rfl
theorem kf_X7_21 : Cond.fieldLink RX7 21 (TX7 2).1 (TX7 2).2.1 (TX7 2).2.2.1 ∈ bg_L := bg_in 101 (by decide +kernel) rfl
theorem kf_X8_9 : Cond.fieldLink RX8 9 (TX8 0).1 (TX8 0).2.1 (TX8 0).2.2.1 ∈ bg_L := bg_in 127 (by decide +kernel) rfl
theorem kf_X8_15 : Cond.fieldLink RX8 15 (TX8 1).1 (TX8 1).2.1 (TX8 1).2.2.1 ∈ bg_L := bg_in 129 (by decide +kernel) rfl
theorem kf_X8_19 : Cond.fieldLink RX8 19 (TX8 2).1 (TX8 2).2.1 (TX8 2).2.2.1 ∈ bg_L := bg_in 131 (by decide +kernel) rfl
theorem kf_X8_23 : Cond.fieldLink RX8 23 (TX8 3).1 (TX8 3).2.1 (TX8 3).2.2.1 ∈ bg_L := bg_in 134 (by decide +kernel) rfl
theorem kf_X8_26 : Cond.fieldLink RX8 26 (TX8 4).1 (TX8 4).2.1 (TX8 4).2.2.1 ∈ bg_L := bg_in 136 (by decide +kernel) rfl
theorem kf_X8_29 : Cond.fieldLink RX8 29 (TX8 5).1 (TX8 5).2.1 (TX8 5).2.2.1 ∈ bg_L := bg_in 138 (by decide +kernel) rfl
theorem kf_X8_32 : Cond.fieldLink RX8 32 (TX8 6).1 (TX8 6).2.1 (TX8 6).2.2.1 ∈ bg_L := bg_in 141 (by decide +kernel) rfl
theorem kf_X8_36 : Cond.fieldLink RX8 36 (TX8 7).1 (TX8 7).2.1 (TX8 7).2.2.1 ∈ bg_L := bg_in 144 (by decide +kernel) rfl
theorem kf_X8_39 : Cond.fieldLink RX8 39 (TX8 8).1 (TX8 8).2.1 (TX8 8).2.2.1 ∈ bg_L := bg_in 147 (by decide +kernel) rfl
theorem kf_X10_9 : Cond.fieldLink RX10 9 (TX10 0).1 (TX10 0).2.1 (TX10 0).2.2.1 ∈ bg_L := bg_in 55 (by decide +kernel) rfl
theorem kg_X10_15 : Cond.fieldLink RX10 15 "PastryBench$TokenKind" "END" "LPastryBench$TokenKind;" ∈ bg_L := bg_in 53 (by decide +kernel) rfl
theorem kf_X10_21 : Cond.fieldLink RX10 21 (TX10 3).1 (TX10 3).2.1 (TX10 3).2.2.1 ∈ bg_L := bg_in 58 (by decide +kernel) rfl
theorem kf_X10_30 : Cond.fieldLink RX10 30 (TX10 1).1 (TX10 1).2.1 (TX10 1).2.2.1 ∈ bg_L := bg_in 56 (by decide +kernel) rfl
theorem kf_X10_34 : Cond.fieldLink RX10 34 (TX10 2).1 (TX10 2).2.1 (TX10 2).2.2.1 ∈ bg_L := bg_in 57 (by decide +kernel) rfl
theorem kf_X10_44 : Cond.fieldLink RX10 44 (TX10 4).1 (TX10 4).2.1 (TX10 4).2.2.1 ∈ bg_L := bg_in 61 (by decide +kernel) rfl
theorem kg_X10_50 : Cond.fieldLink RX10 50 "PastryBench$TokenKind" "WORD" "LPastryBench$TokenKind;" ∈ bg_L := bg_in 394 (by decide +kernel) rfl
theorem kg_X10_56 : Cond.fieldLink RX10 56 "PastryBench$TokenKind" "NUMBER" "LPastryBench$TokenKind;" ∈ bg_L := bg_in 399 (by decide +kernel) rfl
theorem kf_X10_59 : Cond.fieldLink RX10 59 (TX10 5).1 (TX10 5).2.1 (TX10 5).2.2.1 ∈ bg_L := bg_in 62 (by decide +kernel) rfl
theorem kk_X10_62 : Cond.constant RX10 62 1000000 ∈ bg_L := bg_in 401 (by decide +kernel) rfl
theorem kg_X10_63 : Cond.fieldLink RX10 63 "PastryBench$TokenKind" "SEMICOLON" "LPastryBench$TokenKind;" ∈ bg_L := bg_in 402 (by decide +kernel) rfl
theorem kg_X10_66 : Cond.fieldLink RX10 66 "PastryBench$TokenKind" "INVALID" "LPastryBench$TokenKind;" ∈ bg_L := bg_in 404 (by decide +kernel) rfl
theorem kk_L_7 : Cond.constant RL 7 2147483647 ∈ bg_L := bg_in 554 (by decide +kernel) rfl
theorem kl_L_9 : Cond.classLink RL 9 "PastryBench" ∈ bg_L := bg_in 33 (by decide +kernel) rfl
theorem kl_L_175 : Cond.classLink RL 175 "java/lang/StringBuilder" ∈ bg_L := bg_in 1055 (by decide +kernel) rfl
theorem kg_J5_15 : Cond.fieldLink RJ5 15 "java/lang/AbstractStringBuilder" "value" "[B" ∈ bg_L := bg_in 1176 (by decide +kernel) rfl
theorem kg_J5_18 : Cond.fieldLink RJ5 18 "java/lang/String" "COMPACT_STRINGS" "Z" ∈ bg_L := bg_in 1127 (by decide +kernel) rfl
theorem kg_J5_22 : Cond.fieldLink RJ5 22 "java/lang/AbstractStringBuilder" "coder" "B" ∈ bg_L := bg_in 1177 (by decide +kernel) rfl
theorem kk_J5_38 : Cond.constant RJ5 38 2147483631 ∈ bg_L := bg_in 1065 (by decide +kernel) rfl
theorem kk_J5_39 : Cond.constant RJ5 39 2147483647 ∈ bg_L := bg_in 1066 (by decide +kernel) rfl
theorem kg_J5_79 : Cond.fieldLink RJ5 79 "java/lang/AbstractStringBuilder" "count" "I" ∈ bg_L := bg_in 1179 (by decide +kernel) rfl
theorem kg_J6_83 : Cond.fieldLink RJ6 83 "java/lang/Integer" "DigitOnes" "[B" ∈ bg_L := bg_in 1215 (by decide +kernel) rfl
theorem kg_J6_87 : Cond.fieldLink RJ6 87 "java/lang/Integer" "DigitTens" "[B" ∈ bg_L := bg_in 1217 (by decide +kernel) rfl
theorem kg_J0_9 : Cond.fieldLink RJ0 9 "java/lang/String" "value" "[B" ∈ bg_L := bg_in 1273 (by decide +kernel) rfl
theorem kf_J0_9 : Cond.fieldLink RJ0 9 (TJ0 0).1 (TJ0 0).2.1 (TJ0 0).2.2.1 ∈ bg_L := bg_in 1273 (by decide +kernel) rfl
theorem kg_J0_15 : Cond.fieldLink RJ0 15 "java/lang/String" "coder" "B" ∈ bg_L := bg_in 1274 (by decide +kernel) rfl
theorem kf_J0_15 : Cond.fieldLink RJ0 15 (TJ0 1).1 (TJ0 1).2.1 (TJ0 1).2.2.1 ∈ bg_L := bg_in 1274 (by decide +kernel) rfl
theorem kg_J0_38 : Cond.fieldLink RJ0 38 "java/lang/String" "COMPACT_STRINGS" "Z" ∈ bg_L := bg_in 427 (by decide +kernel) rfl
theorem kg_J0_1048 : Cond.fieldLink RJ0 1048 "java/lang/AbstractStringBuilder" "maybeLatin1" "Z" ∈ bg_L := bg_in 1178 (by decide +kernel) rfl
theorem kg_J0_1053 : Cond.fieldLink RJ0 1053 "jdk/internal/util/Preconditions" "SIOOBE_FORMATTER" "Ljava/util/function/BiFunction;" ∈ bg_L := bg_in 443 (by decide +kernel) rfl
theorem kl_J4_18 : Cond.classLink RJ4 18 "java/lang/String" ∈ bg_L := bg_in 1231 (by decide +kernel) rfl
theorem kk_J2_20 : Cond.constant RJ2 20 1073741823 ∈ bg_L := bg_in 1074 (by decide +kernel) rfl
theorem kg_J2_44 : Cond.fieldLink RJ2 44 "java/lang/StringUTF16" "$assertionsDisabled" "Z" ∈ bg_L := bg_in 461 (by decide +kernel) rfl
theorem kg_J2_59 : Cond.fieldLink RJ2 59 "java/lang/StringUTF16" "HI_BYTE_SHIFT" "I" ∈ bg_L := bg_in 463 (by decide +kernel) rfl
theorem kg_J2_63 : Cond.fieldLink RJ2 63 "java/lang/StringUTF16" "LO_BYTE_SHIFT" "I" ∈ bg_L := bg_in 465 (by decide +kernel) rfl
theorem kg_J2_403 : Cond.fieldLink RJ2 403 "java/lang/Integer" "DigitOnes" "[B" ∈ bg_L := bg_in 1225 (by decide +kernel) rfl
theorem kg_J2_407 : Cond.fieldLink RJ2 407 "java/lang/Integer" "DigitTens" "[B" ∈ bg_L := bg_in 1226 (by decide +kernel) rfl
theorem kl_J7_311 : Cond.classLink RJ7 311 "[B" ∈ bg_L := bg_in 1117 (by decide +kernel) rfl
theorem kk_J8_200 : Cond.constant RJ8 200 2147483639 ∈ bg_L := bg_in 1104 (by decide +kernel) rfl
theorem ki_L : Cond.initialized RL ∈ bg_L := bg_in 4 (by decide +kernel) rfl
theorem ki_X11 : Cond.initialized RX11 ∈ bg_L := bg_in 5 (by decide +kernel) rfl
theorem ki_X5 : Cond.initialized RX5 ∈ bg_L := bg_in 6 (by decide +kernel) rfl
theorem ki_X10 : Cond.initialized RX10 ∈ bg_L := bg_in 7 (by decide +kernel) rfl
theorem ki_Jx29ce0 : Cond.initialized RJx29ce0 ∈ bg_L := bg_in 8 (by decide +kernel) rfl
theorem ki_X9 : Cond.initialized RX9 ∈ bg_L := bg_in 9 (by decide +kernel) rfl
theorem ki_X7 : Cond.initialized RX7 ∈ bg_L := bg_in 10 (by decide +kernel) rfl
theorem ki_X1 : Cond.initialized RX1 ∈ bg_L := bg_in 11 (by decide +kernel) rfl
theorem ki_X8 : Cond.initialized RX8 ∈ bg_L := bg_in 12 (by decide +kernel) rfl
theorem ki_X3 : Cond.initialized RX3 ∈ bg_L := bg_in 13 (by decide +kernel) rfl
theorem ki_X4 : Cond.initialized RX4 ∈ bg_L := bg_in 14 (by decide +kernel) rfl
theorem ki_J5 : Cond.initialized RJ5 ∈ bg_L := bg_in 15 (by decide +kernel) rfl
theorem ki_J4 : Cond.initialized RJ4 ∈ bg_L := bg_in 16 (by decide +kernel) rfl
theorem ki_J0 : Cond.initialized RJ0 ∈ bg_L := bg_in 17 (by decide +kernel) rfl
theorem ki_J2 : Cond.initialized RJ2 ∈ bg_L := bg_in 18 (by decide +kernel) rfl
theorem ki_J8 : Cond.initialized RJ8 ∈ bg_L := bg_in 19 (by decide +kernel) rfl
theorem ki_J9 : Cond.initialized RJ9 ∈ bg_L := bg_in 20 (by decide +kernel) rfl
theorem ki_J7 : Cond.initialized RJ7 ∈ bg_L := bg_in 21 (by decide +kernel) rfl
theorem ki_J10 : Cond.initialized RJ10 ∈ bg_L := bg_in 22 (by decide +kernel) rfl
theorem ki_J3 : Cond.initialized RJ3 ∈ bg_L := bg_in 23 (by decide +kernel) rfl
theorem ki_J1 : Cond.initialized RJ1 ∈ bg_L := bg_in 24 (by decide +kernel) rfl
theorem ki_J6 : Cond.initialized RJ6 ∈ bg_L := bg_in 25 (by decide +kernel) rfl
theorem ki_X6 : Cond.initialized RX6 ∈ bg_L := bg_in 31 (by decide +kernel) rfl
theorem kn_X11 : Cond.instantiable RX11 10 ∈ bg_L := bg_in 34 (by decide +kernel) rfl
theorem kn_X5 : Cond.instantiable RX5 4 ∈ bg_L := bg_in 42 (by decide +kernel) rfl
theorem kn_X10 : Cond.instantiable RX10 6 ∈ bg_L := bg_in 48 (by decide +kernel) rfl
theorem kn_X7 : Cond.instantiable RX7 4 ∈ bg_L := bg_in 92 (by decide +kernel) rfl
theorem kn_X1 : Cond.instantiable RX1 8 ∈ bg_L := bg_in 115 (by decide +kernel) rfl
theorem kn_X8 : Cond.instantiable RX8 9 ∈ bg_L := bg_in 122 (by decide +kernel) rfl
theorem kn_X3 : Cond.instantiable RX3 2 ∈ bg_L := bg_in 234 (by decide +kernel) rfl
theorem kn_X4 : Cond.instantiable RX4 2 ∈ bg_L := bg_in 251 (by decide +kernel) rfl
theorem kn_J4 : Cond.instantiable RJ4 4 ∈ bg_L := bg_in 1056 (by decide +kernel) rfl
theorem kn_J0 : Cond.instantiable RJ0 4 ∈ bg_L := bg_in 1232 (by decide +kernel) rfl
theorem ks_max : Cond.static Lib.Math.max.name ∈ bg_L ∧ Cond.initialized "java/lang/Math" ∈ bg_L ∧ Cond.code Lib.Math.max.name Lib.Math.max.code 2 (some .int) ∈ bg_L := ⟨bg_in 703 (by decide +kernel) rfl, bg_in 20 (by decide +kernel) rfl, bg_in 704 (by decide +kernel) rfl⟩
theorem ks_min : Cond.static Lib.Math.min.name ∈ bg_L ∧ Cond.initialized "java/lang/Math" ∈ bg_L ∧ Cond.code Lib.Math.min.name Lib.Math.min.code 2 (some .int) ∈ bg_L := ⟨bg_in 382 (by decide +kernel) rfl, bg_in 20 (by decide +kernel) rfl, bg_in 383 (by decide +kernel) rfl⟩
theorem ks_copy : Cond.native arraycopyName ∈ bg_L ∧ Cond.static arraycopyName ∈ bg_L ∧ Cond.initialized "java/lang/System" ∈ bg_L := ⟨bg_in 1121 (by decide +kernel) rfl, bg_in 1120 (by decide +kernel) rfl, bg_in 22 (by decide +kernel) rfl⟩
theorem ks_obj : Cond.instanceMethod Lib.objectInit ∈ bg_L ∧ Cond.code Lib.objectInit ⟨#[0xb1]⟩ 1 none ∈ bg_L := ⟨bg_in 39 (by decide +kernel) rfl, bg_in 40 (by decide +kernel) rfl⟩
theorem kc_X8_init : (yX8_init.cls ≠ "java/lang/invoke/MethodHandle" ∧ yX8_init.cls ≠ "java/lang/invoke/VarHandle" ∧ (parseMethodDescriptor yX8_init.desc).map (fun d => d.parameters.length) = some 0) ∧ Cond.code yX8_init cX8_init 1 none ∈ bg_L ∧ Cond.initialized yX8_init.cls ∈ bg_L ∧ plainName yX8_init.cls = true := ⟨⟨by decide +kernel, by decide +kernel, by decide +kernel⟩, bg_in 125 (by decide +kernel) rfl, bg_in 12 (by decide +kernel) rfl, by decide +kernel⟩
theorem kt_X8_init : Cond.instanceMethod yX8_init ∈ bg_L := bg_in 124 (by decide +kernel) rfl
theorem kc_X8_begin : (yX8_begin.cls ≠ "java/lang/invoke/MethodHandle" ∧ yX8_begin.cls ≠ "java/lang/invoke/VarHandle" ∧ (parseMethodDescriptor yX8_begin.desc).map (fun d => d.parameters.length) = some 1) ∧ Cond.code yX8_begin cX8_begin 2 none ∈ bg_L ∧ Cond.initialized yX8_begin.cls ∈ bg_L ∧ plainName yX8_begin.cls = true := ⟨⟨by decide +kernel, by decide +kernel, by decide +kernel⟩, bg_in 214 (by decide +kernel) rfl, bg_in 12 (by decide +kernel) rfl, by decide +kernel⟩
theorem kt_X8_begin : Cond.instanceMethod yX8_begin ∈ bg_L := bg_in 212 (by decide +kernel) rfl
theorem ke_X8_begin : Cond.selects RX8 yX8_begin yX8_begin ∈ bg_L := bg_in 213 (by decide +kernel) rfl
theorem kc_X8_wouldJoin : (yX8_wouldJoin.cls ≠ "java/lang/invoke/MethodHandle" ∧ yX8_wouldJoin.cls ≠ "java/lang/invoke/VarHandle" ∧ (parseMethodDescriptor yX8_wouldJoin.desc).map (fun d => d.parameters.length) = some 1) ∧ Cond.code yX8_wouldJoin cX8_wouldJoin 2 (some .boolean) ∈ bg_L ∧ Cond.initialized yX8_wouldJoin.cls ∈ bg_L ∧ plainName yX8_wouldJoin.cls = true := ⟨⟨by decide +kernel, by decide +kernel, by decide +kernel⟩, bg_in 230 (by decide +kernel) rfl, bg_in 12 (by decide +kernel) rfl, by decide +kernel⟩
theorem kt_X8_wouldJoin : Cond.instanceMethod yX8_wouldJoin ∈ bg_L := bg_in 228 (by decide +kernel) rfl
theorem ke_X8_wouldJoin : Cond.selects RX8 yX8_wouldJoin yX8_wouldJoin ∈ bg_L := bg_in 229 (by decide +kernel) rfl
theorem kc_X8_putLayer : (yX8_putLayer.cls ≠ "java/lang/invoke/MethodHandle" ∧ yX8_putLayer.cls ≠ "java/lang/invoke/VarHandle" ∧ (parseMethodDescriptor yX8_putLayer.desc).map (fun d => d.parameters.length) = some 3) ∧ Cond.code yX8_putLayer cX8_putLayer 4 (some .boolean) ∈ bg_L ∧ Cond.initialized yX8_putLayer.cls ∈ bg_L ∧ plainName yX8_putLayer.cls = true := ⟨⟨by decide +kernel, by decide +kernel, by decide +kernel⟩, bg_in 226 (by decide +kernel) rfl, bg_in 12 (by decide +kernel) rfl, by decide +kernel⟩
theorem kt_X8_putLayer : Cond.instanceMethod yX8_putLayer ∈ bg_L := bg_in 224 (by decide +kernel) rfl
theorem ke_X8_putLayer : Cond.selects RX8 yX8_putLayer yX8_putLayer ∈ bg_L := bg_in 225 (by decide +kernel) rfl
theorem kc_X8_load : (yX8_load.cls ≠ "java/lang/invoke/MethodHandle" ∧ yX8_load.cls ≠ "java/lang/invoke/VarHandle" ∧ (parseMethodDescriptor yX8_load.desc).map (fun d => d.parameters.length) = some 2) ∧ Cond.code yX8_load cX8_load 3 none ∈ bg_L ∧ Cond.initialized yX8_load.cls ∈ bg_L ∧ plainName yX8_load.cls = true := ⟨⟨by decide +kernel, by decide +kernel, by decide +kernel⟩, bg_in 222 (by decide +kernel) rfl, bg_in 12 (by decide +kernel) rfl, by decide +kernel⟩
theorem kt_X8_load : Cond.instanceMethod yX8_load ∈ bg_L := bg_in 220 (by decide +kernel) rfl
theorem ke_X8_load : Cond.selects RX8 yX8_load yX8_load ∈ bg_L := bg_in 221 (by decide +kernel) rfl
theorem kc_X1_init : (yX1_init.cls ≠ "java/lang/invoke/MethodHandle" ∧ yX1_init.cls ≠ "java/lang/invoke/VarHandle" ∧ (parseMethodDescriptor yX1_init.desc).map (fun d => d.parameters.length) = some 0) ∧ Cond.code yX1_init cX1_init 2 none ∈ bg_L ∧ Cond.initialized yX1_init.cls ∈ bg_L ∧ plainName yX1_init.cls = true := ⟨⟨by decide +kernel, by decide +kernel, by decide +kernel⟩, bg_in 118 (by decide +kernel) rfl, bg_in 11 (by decide +kernel) rfl, by decide +kernel⟩
theorem kt_X1_init : Cond.instanceMethod yX1_init ∈ bg_L := bg_in 117 (by decide +kernel) rfl
theorem kc_X1_begin : (yX1_begin.cls ≠ "java/lang/invoke/MethodHandle" ∧ yX1_begin.cls ≠ "java/lang/invoke/VarHandle" ∧ (parseMethodDescriptor yX1_begin.desc).map (fun d => d.parameters.length) = some 3) ∧ Cond.code yX1_begin cX1_begin 4 none ∈ bg_L ∧ Cond.initialized yX1_begin.cls ∈ bg_L ∧ plainName yX1_begin.cls = true := ⟨⟨by decide +kernel, by decide +kernel, by decide +kernel⟩, bg_in 206 (by decide +kernel) rfl, bg_in 11 (by decide +kernel) rfl, by decide +kernel⟩
theorem kt_X1_begin : Cond.instanceMethod yX1_begin ∈ bg_L := bg_in 204 (by decide +kernel) rfl
theorem ke_X1_begin : Cond.selects RX1 yX1_begin yX1_begin ∈ bg_L := bg_in 205 (by decide +kernel) rfl
theorem kc_X1_addSheet : (yX1_addSheet.cls ≠ "java/lang/invoke/MethodHandle" ∧ yX1_addSheet.cls ≠ "java/lang/invoke/VarHandle" ∧ (parseMethodDescriptor yX1_addSheet.desc).map (fun d => d.parameters.length) = some 1) ∧ Cond.code yX1_addSheet cX1_addSheet 2 none ∈ bg_L ∧ Cond.initialized yX1_addSheet.cls ∈ bg_L ∧ plainName yX1_addSheet.cls = true := ⟨⟨by decide +kernel, by decide +kernel, by decide +kernel⟩, bg_in 210 (by decide +kernel) rfl, bg_in 11 (by decide +kernel) rfl, by decide +kernel⟩
theorem kt_X1_addSheet : Cond.instanceMethod yX1_addSheet ∈ bg_L := bg_in 208 (by decide +kernel) rfl
theorem ke_X1_addSheet : Cond.selects RX1 yX1_addSheet yX1_addSheet ∈ bg_L := bg_in 209 (by decide +kernel) rfl
theorem kc_X1_addLayer : (yX1_addLayer.cls ≠ "java/lang/invoke/MethodHandle" ∧ yX1_addLayer.cls ≠ "java/lang/invoke/VarHandle" ∧ (parseMethodDescriptor yX1_addLayer.desc).map (fun d => d.parameters.length) = some 2) ∧ Cond.code yX1_addLayer cX1_addLayer 3 none ∈ bg_L ∧ Cond.initialized yX1_addLayer.cls ∈ bg_L ∧ plainName yX1_addLayer.cls = true := ⟨⟨by decide +kernel, by decide +kernel, by decide +kernel⟩, bg_in 218 (by decide +kernel) rfl, bg_in 11 (by decide +kernel) rfl, by decide +kernel⟩
theorem kt_X1_addLayer : Cond.instanceMethod yX1_addLayer ∈ bg_L := bg_in 216 (by decide +kernel) rfl
theorem ke_X1_addLayer : Cond.selects RX1 yX1_addLayer yX1_addLayer ∈ bg_L := bg_in 217 (by decide +kernel) rfl
theorem kc_X8_copyFrom : (yX8_copyFrom.cls ≠ "java/lang/invoke/MethodHandle" ∧ yX8_copyFrom.cls ≠ "java/lang/invoke/VarHandle" ∧ (parseMethodDescriptor yX8_copyFrom.desc).map (fun d => d.parameters.length) = some 1) ∧ Cond.code yX8_copyFrom cX8_copyFrom 3 none ∈ bg_L ∧ Cond.initialized yX8_copyFrom.cls ∈ bg_L ∧ plainName yX8_copyFrom.cls = true := ⟨⟨by decide +kernel, by decide +kernel, by decide +kernel⟩, bg_in 508 (by decide +kernel) rfl, bg_in 12 (by decide +kernel) rfl, by decide +kernel⟩
theorem kt_X8_copyFrom : Cond.instanceMethod yX8_copyFrom ∈ bg_L := bg_in 506 (by decide +kernel) rfl
theorem ke_X8_copyFrom : Cond.selects RX8 yX8_copyFrom yX8_copyFrom ∈ bg_L := bg_in 507 (by decide +kernel) rfl
theorem kc_X11_layersFolded : (yX11_layersFolded.cls ≠ "java/lang/invoke/MethodHandle" ∧ yX11_layersFolded.cls ≠ "java/lang/invoke/VarHandle" ∧ (parseMethodDescriptor yX11_layersFolded.desc).map (fun d => d.parameters.length) = some 3) ∧ Cond.code yX11_layersFolded cX11_layersFolded 4 (some .int) ∈ bg_L ∧ Cond.initialized yX11_layersFolded.cls ∈ bg_L ∧ plainName yX11_layersFolded.cls = true := ⟨⟨by decide +kernel, by decide +kernel, by decide +kernel⟩, bg_in 799 (by decide +kernel) rfl, bg_in 5 (by decide +kernel) rfl, by decide +kernel⟩
theorem kt_X11_layersFolded : Cond.static yX11_layersFolded ∈ bg_L := bg_in 798 (by decide +kernel) rfl
theorem kc_X8_totalHeight : (yX8_totalHeight.cls ≠ "java/lang/invoke/MethodHandle" ∧ yX8_totalHeight.cls ≠ "java/lang/invoke/VarHandle" ∧ (parseMethodDescriptor yX8_totalHeight.desc).map (fun d => d.parameters.length) = some 0) ∧ Cond.code yX8_totalHeight cX8_totalHeight 3 (some .int) ∈ bg_L ∧ Cond.initialized yX8_totalHeight.cls ∈ bg_L ∧ plainName yX8_totalHeight.cls = true := ⟨⟨by decide +kernel, by decide +kernel, by decide +kernel⟩, bg_in 713 (by decide +kernel) rfl, bg_in 12 (by decide +kernel) rfl, by decide +kernel⟩
theorem kt_X8_totalHeight : Cond.instanceMethod yX8_totalHeight ∈ bg_L := bg_in 711 (by decide +kernel) rfl
theorem ke_X8_totalHeight : Cond.selects RX8 yX8_totalHeight yX8_totalHeight ∈ bg_L := bg_in 712 (by decide +kernel) rfl
theorem kc_X1_hasSheet : (yX1_hasSheet.cls ≠ "java/lang/invoke/MethodHandle" ∧ yX1_hasSheet.cls ≠ "java/lang/invoke/VarHandle" ∧ (parseMethodDescriptor yX1_hasSheet.desc).map (fun d => d.parameters.length) = some 1) ∧ Cond.code yX1_hasSheet cX1_hasSheet 2 (some .boolean) ∈ bg_L ∧ Cond.initialized yX1_hasSheet.cls ∈ bg_L ∧ plainName yX1_hasSheet.cls = true := ⟨⟨by decide +kernel, by decide +kernel, by decide +kernel⟩, bg_in 595 (by decide +kernel) rfl, bg_in 11 (by decide +kernel) rfl, by decide +kernel⟩
theorem kt_X1_hasSheet : Cond.instanceMethod yX1_hasSheet ∈ bg_L := bg_in 593 (by decide +kernel) rfl
theorem ke_X1_hasSheet : Cond.selects RX1 yX1_hasSheet yX1_hasSheet ∈ bg_L := bg_in 594 (by decide +kernel) rfl
theorem kc_X11_isFactor : (yX11_isFactor.cls ≠ "java/lang/invoke/MethodHandle" ∧ yX11_isFactor.cls ≠ "java/lang/invoke/VarHandle" ∧ (parseMethodDescriptor yX11_isFactor.desc).map (fun d => d.parameters.length) = some 1) ∧ Cond.code yX11_isFactor cX11_isFactor 1 (some .boolean) ∈ bg_L ∧ Cond.initialized yX11_isFactor.cls ∈ bg_L ∧ plainName yX11_isFactor.cls = true := ⟨⟨by decide +kernel, by decide +kernel, by decide +kernel⟩, bg_in 791 (by decide +kernel) rfl, bg_in 5 (by decide +kernel) rfl, by decide +kernel⟩
theorem kt_X11_isFactor : Cond.static yX11_isFactor ∈ bg_L := bg_in 790 (by decide +kernel) rfl
theorem kc_X8_findFoldObstacle : (yX8_findFoldObstacle.cls ≠ "java/lang/invoke/MethodHandle" ∧ yX8_findFoldObstacle.cls ≠ "java/lang/invoke/VarHandle" ∧ (parseMethodDescriptor yX8_findFoldObstacle.desc).map (fun d => d.parameters.length) = some 1) ∧ Cond.code yX8_findFoldObstacle cX8_findFoldObstacle 2 (some .int) ∈ bg_L ∧ Cond.initialized yX8_findFoldObstacle.cls ∈ bg_L ∧ plainName yX8_findFoldObstacle.cls = true := ⟨⟨by decide +kernel, by decide +kernel, by decide +kernel⟩, bg_in 796 (by decide +kernel) rfl, bg_in 12 (by decide +kernel) rfl, by decide +kernel⟩
theorem kt_X8_findFoldObstacle : Cond.instanceMethod yX8_findFoldObstacle ∈ bg_L := bg_in 794 (by decide +kernel) rfl
theorem ke_X8_findFoldObstacle : Cond.selects RX8 yX8_findFoldObstacle yX8_findFoldObstacle ∈ bg_L := bg_in 795 (by decide +kernel) rfl
theorem kc_X1_stateRefusal : (yX1_stateRefusal.cls ≠ "java/lang/invoke/MethodHandle" ∧ yX1_stateRefusal.cls ≠ "java/lang/invoke/VarHandle" ∧ (parseMethodDescriptor yX1_stateRefusal.desc).map (fun d => d.parameters.length) = some 1) ∧ Cond.code yX1_stateRefusal cX1_stateRefusal 1 (some (.object "PastryBench$Refusal")) ∈ bg_L ∧ Cond.initialized yX1_stateRefusal.cls ∈ bg_L ∧ plainName yX1_stateRefusal.cls = true := ⟨⟨by decide +kernel, by decide +kernel, by decide +kernel⟩, bg_in 841 (by decide +kernel) rfl, bg_in 11 (by decide +kernel) rfl, by decide +kernel⟩
theorem kt_X1_stateRefusal : Cond.static yX1_stateRefusal ∈ bg_L := bg_in 840 (by decide +kernel) rfl
theorem kc_X11_warmedByWork : (yX11_warmedByWork.cls ≠ "java/lang/invoke/MethodHandle" ∧ yX11_warmedByWork.cls ≠ "java/lang/invoke/VarHandle" ∧ (parseMethodDescriptor yX11_warmedByWork.desc).map (fun d => d.parameters.length) = some 1) ∧ Cond.code yX11_warmedByWork cX11_warmedByWork 1 (some .int) ∈ bg_L ∧ Cond.initialized yX11_warmedByWork.cls ∈ bg_L ∧ plainName yX11_warmedByWork.cls = true := ⟨⟨by decide +kernel, by decide +kernel, by decide +kernel⟩, bg_in 897 (by decide +kernel) rfl, bg_in 5 (by decide +kernel) rfl, by decide +kernel⟩
theorem kt_X11_warmedByWork : Cond.static yX11_warmedByWork ∈ bg_L := bg_in 896 (by decide +kernel) rfl
theorem kc_X8_foldUp : (yX8_foldUp.cls ≠ "java/lang/invoke/MethodHandle" ∧ yX8_foldUp.cls ≠ "java/lang/invoke/VarHandle" ∧ (parseMethodDescriptor yX8_foldUp.desc).map (fun d => d.parameters.length) = some 1) ∧ Cond.code yX8_foldUp cX8_foldUp 10 none ∈ bg_L ∧ Cond.initialized yX8_foldUp.cls ∈ bg_L ∧ plainName yX8_foldUp.cls = true := ⟨⟨by decide +kernel, by decide +kernel, by decide +kernel⟩, bg_in 894 (by decide +kernel) rfl, bg_in 12 (by decide +kernel) rfl, by decide +kernel⟩
theorem kt_X8_foldUp : Cond.instanceMethod yX8_foldUp ∈ bg_L := bg_in 892 (by decide +kernel) rfl
theorem ke_X8_foldUp : Cond.selects RX8 yX8_foldUp yX8_foldUp ∈ bg_L := bg_in 893 (by decide +kernel) rfl
theorem kc_X8_lossPerLayer : (yX8_lossPerLayer.cls ≠ "java/lang/invoke/MethodHandle" ∧ yX8_lossPerLayer.cls ≠ "java/lang/invoke/VarHandle" ∧ (parseMethodDescriptor yX8_lossPerLayer.desc).map (fun d => d.parameters.length) = some 1) ∧ Cond.code yX8_lossPerLayer cX8_lossPerLayer 2 (some .int) ∈ bg_L ∧ Cond.initialized yX8_lossPerLayer.cls ∈ bg_L ∧ plainName yX8_lossPerLayer.cls = true := ⟨⟨by decide +kernel, by decide +kernel, by decide +kernel⟩, bg_in 701 (by decide +kernel) rfl, bg_in 12 (by decide +kernel) rfl, by decide +kernel⟩
theorem kt_X8_lossPerLayer : Cond.instanceMethod yX8_lossPerLayer ∈ bg_L := bg_in 699 (by decide +kernel) rfl
theorem ke_X8_lossPerLayer : Cond.selects RX8 yX8_lossPerLayer yX8_lossPerLayer ∈ bg_L := bg_in 700 (by decide +kernel) rfl
theorem kc_X8_thicknessRolled : (yX8_thicknessRolled.cls ≠ "java/lang/invoke/MethodHandle" ∧ yX8_thicknessRolled.cls ≠ "java/lang/invoke/VarHandle" ∧ (parseMethodDescriptor yX8_thicknessRolled.desc).map (fun d => d.parameters.length) = some 3) ∧ Cond.code yX8_thicknessRolled cX8_thicknessRolled 4 (some .int) ∈ bg_L ∧ Cond.initialized yX8_thicknessRolled.cls ∈ bg_L ∧ plainName yX8_thicknessRolled.cls = true := ⟨⟨by decide +kernel, by decide +kernel, by decide +kernel⟩, bg_in 825 (by decide +kernel) rfl, bg_in 12 (by decide +kernel) rfl, by decide +kernel⟩
theorem kt_X8_thicknessRolled : Cond.instanceMethod yX8_thicknessRolled ∈ bg_L := bg_in 823 (by decide +kernel) rfl
theorem ke_X8_thicknessRolled : Cond.selects RX8 yX8_thicknessRolled yX8_thicknessRolled ∈ bg_L := bg_in 824 (by decide +kernel) rfl
theorem kc_X8_sumRolled : (yX8_sumRolled.cls ≠ "java/lang/invoke/MethodHandle" ∧ yX8_sumRolled.cls ≠ "java/lang/invoke/VarHandle" ∧ (parseMethodDescriptor yX8_sumRolled.desc).map (fun d => d.parameters.length) = some 2) ∧ Cond.code yX8_sumRolled cX8_sumRolled 6 (some .int) ∈ bg_L ∧ Cond.initialized yX8_sumRolled.cls ∈ bg_L ∧ plainName yX8_sumRolled.cls = true := ⟨⟨by decide +kernel, by decide +kernel, by decide +kernel⟩, bg_in 906 (by decide +kernel) rfl, bg_in 12 (by decide +kernel) rfl, by decide +kernel⟩
theorem kt_X8_sumRolled : Cond.instanceMethod yX8_sumRolled ∈ bg_L := bg_in 904 (by decide +kernel) rfl
theorem ke_X8_sumRolled : Cond.selects RX8 yX8_sumRolled yX8_sumRolled ∈ bg_L := bg_in 905 (by decide +kernel) rfl
theorem kc_X8_sumEscaping : (yX8_sumEscaping.cls ≠ "java/lang/invoke/MethodHandle" ∧ yX8_sumEscaping.cls ≠ "java/lang/invoke/VarHandle" ∧ (parseMethodDescriptor yX8_sumEscaping.desc).map (fun d => d.parameters.length) = some 1) ∧ Cond.code yX8_sumEscaping cX8_sumEscaping 5 (some .int) ∈ bg_L ∧ Cond.initialized yX8_sumEscaping.cls ∈ bg_L ∧ plainName yX8_sumEscaping.cls = true := ⟨⟨by decide +kernel, by decide +kernel, by decide +kernel⟩, bg_in 697 (by decide +kernel) rfl, bg_in 12 (by decide +kernel) rfl, by decide +kernel⟩
theorem kt_X8_sumEscaping : Cond.instanceMethod yX8_sumEscaping ∈ bg_L := bg_in 695 (by decide +kernel) rfl
theorem ke_X8_sumEscaping : Cond.selects RX8 yX8_sumEscaping yX8_sumEscaping ∈ bg_L := bg_in 696 (by decide +kernel) rfl
theorem kc_X8_rollOut : (yX8_rollOut.cls ≠ "java/lang/invoke/MethodHandle" ∧ yX8_rollOut.cls ≠ "java/lang/invoke/VarHandle" ∧ (parseMethodDescriptor yX8_rollOut.desc).map (fun d => d.parameters.length) = some 2) ∧ Cond.code yX8_rollOut cX8_rollOut 10 (some .int) ∈ bg_L ∧ Cond.initialized yX8_rollOut.cls ∈ bg_L ∧ plainName yX8_rollOut.cls = true := ⟨⟨by decide +kernel, by decide +kernel, by decide +kernel⟩, bg_in 924 (by decide +kernel) rfl, bg_in 12 (by decide +kernel) rfl, by decide +kernel⟩
theorem kt_X8_rollOut : Cond.instanceMethod yX8_rollOut ∈ bg_L := bg_in 922 (by decide +kernel) rfl
theorem ke_X8_rollOut : Cond.selects RX8 yX8_rollOut yX8_rollOut ∈ bg_L := bg_in 923 (by decide +kernel) rfl
theorem kc_X1_countSealed : (yX1_countSealed.cls ≠ "java/lang/invoke/MethodHandle" ∧ yX1_countSealed.cls ≠ "java/lang/invoke/VarHandle" ∧ (parseMethodDescriptor yX1_countSealed.desc).map (fun d => d.parameters.length) = some 0) ∧ Cond.code yX1_countSealed cX1_countSealed 3 (some .int) ∈ bg_L ∧ Cond.initialized yX1_countSealed.cls ∈ bg_L ∧ plainName yX1_countSealed.cls = true := ⟨⟨by decide +kernel, by decide +kernel, by decide +kernel⟩, bg_in 952 (by decide +kernel) rfl, bg_in 11 (by decide +kernel) rfl, by decide +kernel⟩
theorem kt_X1_countSealed : Cond.instanceMethod yX1_countSealed ∈ bg_L := bg_in 950 (by decide +kernel) rfl
theorem ke_X1_countSealed : Cond.selects RX1 yX1_countSealed yX1_countSealed ∈ bg_L := bg_in 951 (by decide +kernel) rfl
theorem kc_X1_countCooling : (yX1_countCooling.cls ≠ "java/lang/invoke/MethodHandle" ∧ yX1_countCooling.cls ≠ "java/lang/invoke/VarHandle" ∧ (parseMethodDescriptor yX1_countCooling.desc).map (fun d => d.parameters.length) = some 0) ∧ Cond.code yX1_countCooling cX1_countCooling 3 (some .int) ∈ bg_L ∧ Cond.initialized yX1_countCooling.cls ∈ bg_L ∧ plainName yX1_countCooling.cls = true := ⟨⟨by decide +kernel, by decide +kernel, by decide +kernel⟩, bg_in 976 (by decide +kernel) rfl, bg_in 11 (by decide +kernel) rfl, by decide +kernel⟩
theorem kt_X1_countCooling : Cond.instanceMethod yX1_countCooling ∈ bg_L := bg_in 974 (by decide +kernel) rfl
theorem ke_X1_countCooling : Cond.selects RX1 yX1_countCooling yX1_countCooling ∈ bg_L := bg_in 975 (by decide +kernel) rfl
theorem kc_X11_cooledByFridge : (yX11_cooledByFridge.cls ≠ "java/lang/invoke/MethodHandle" ∧ yX11_cooledByFridge.cls ≠ "java/lang/invoke/VarHandle" ∧ (parseMethodDescriptor yX11_cooledByFridge.desc).map (fun d => d.parameters.length) = some 1) ∧ Cond.code yX11_cooledByFridge cX11_cooledByFridge 1 (some .int) ∈ bg_L ∧ Cond.initialized yX11_cooledByFridge.cls ∈ bg_L ∧ plainName yX11_cooledByFridge.cls = true := ⟨⟨by decide +kernel, by decide +kernel, by decide +kernel⟩, bg_in 740 (by decide +kernel) rfl, bg_in 5 (by decide +kernel) rfl, by decide +kernel⟩
theorem kt_X11_cooledByFridge : Cond.static yX11_cooledByFridge ∈ bg_L := bg_in 739 (by decide +kernel) rfl
theorem kc_X11_drawnToRoom : (yX11_drawnToRoom.cls ≠ "java/lang/invoke/MethodHandle" ∧ yX11_drawnToRoom.cls ≠ "java/lang/invoke/VarHandle" ∧ (parseMethodDescriptor yX11_drawnToRoom.desc).map (fun d => d.parameters.length) = some 2) ∧ Cond.code yX11_drawnToRoom cX11_drawnToRoom 2 (some .int) ∈ bg_L ∧ Cond.initialized yX11_drawnToRoom.cls ∈ bg_L ∧ plainName yX11_drawnToRoom.cls = true := ⟨⟨by decide +kernel, by decide +kernel, by decide +kernel⟩, bg_in 753 (by decide +kernel) rfl, bg_in 5 (by decide +kernel) rfl, by decide +kernel⟩
theorem kt_X11_drawnToRoom : Cond.static yX11_drawnToRoom ∈ bg_L := bg_in 752 (by decide +kernel) rfl
theorem kc_X8_warmthAfter : (yX8_warmthAfter.cls ≠ "java/lang/invoke/MethodHandle" ∧ yX8_warmthAfter.cls ≠ "java/lang/invoke/VarHandle" ∧ (parseMethodDescriptor yX8_warmthAfter.desc).map (fun d => d.parameters.length) = some 2) ∧ Cond.code yX8_warmthAfter cX8_warmthAfter 5 (some .int) ∈ bg_L ∧ Cond.initialized yX8_warmthAfter.cls ∈ bg_L ∧ plainName yX8_warmthAfter.cls = true := ⟨⟨by decide +kernel, by decide +kernel, by decide +kernel⟩, bg_in 750 (by decide +kernel) rfl, bg_in 12 (by decide +kernel) rfl, by decide +kernel⟩
theorem kt_X8_warmthAfter : Cond.instanceMethod yX8_warmthAfter ∈ bg_L := bg_in 748 (by decide +kernel) rfl
theorem ke_X8_warmthAfter : Cond.selects RX8 yX8_warmthAfter yX8_warmthAfter ∈ bg_L := bg_in 749 (by decide +kernel) rfl
theorem kc_X1_countUnsafe : (yX1_countUnsafe.cls ≠ "java/lang/invoke/MethodHandle" ∧ yX1_countUnsafe.cls ≠ "java/lang/invoke/VarHandle" ∧ (parseMethodDescriptor yX1_countUnsafe.desc).map (fun d => d.parameters.length) = some 0) ∧ Cond.code yX1_countUnsafe cX1_countUnsafe 3 (some .int) ∈ bg_L ∧ Cond.initialized yX1_countUnsafe.cls ∈ bg_L ∧ plainName yX1_countUnsafe.cls = true := ⟨⟨by decide +kernel, by decide +kernel, by decide +kernel⟩, bg_in 997 (by decide +kernel) rfl, bg_in 11 (by decide +kernel) rfl, by decide +kernel⟩
theorem kt_X1_countUnsafe : Cond.instanceMethod yX1_countUnsafe ∈ bg_L := bg_in 995 (by decide +kernel) rfl
theorem ke_X1_countUnsafe : Cond.selects RX1 yX1_countUnsafe yX1_countUnsafe ∈ bg_L := bg_in 996 (by decide +kernel) rfl
theorem kc_X8_joinsWith : (yX8_joinsWith.cls ≠ "java/lang/invoke/MethodHandle" ∧ yX8_joinsWith.cls ≠ "java/lang/invoke/VarHandle" ∧ (parseMethodDescriptor yX8_joinsWith.desc).map (fun d => d.parameters.length) = some 1) ∧ Cond.code yX8_joinsWith cX8_joinsWith 2 (some .boolean) ∈ bg_L ∧ Cond.initialized yX8_joinsWith.cls ∈ bg_L ∧ plainName yX8_joinsWith.cls = true := ⟨⟨by decide +kernel, by decide +kernel, by decide +kernel⟩, bg_in 1025 (by decide +kernel) rfl, bg_in 12 (by decide +kernel) rfl, by decide +kernel⟩
theorem kt_X8_joinsWith : Cond.instanceMethod yX8_joinsWith ∈ bg_L := bg_in 1023 (by decide +kernel) rfl
theorem ke_X8_joinsWith : Cond.selects RX8 yX8_joinsWith yX8_joinsWith ∈ bg_L := bg_in 1024 (by decide +kernel) rfl
theorem kc_X8_layersWith : (yX8_layersWith.cls ≠ "java/lang/invoke/MethodHandle" ∧ yX8_layersWith.cls ≠ "java/lang/invoke/VarHandle" ∧ (parseMethodDescriptor yX8_layersWith.desc).map (fun d => d.parameters.length) = some 1) ∧ Cond.code yX8_layersWith cX8_layersWith 2 (some .int) ∈ bg_L ∧ Cond.initialized yX8_layersWith.cls ∈ bg_L ∧ plainName yX8_layersWith.cls = true := ⟨⟨by decide +kernel, by decide +kernel, by decide +kernel⟩, bg_in 1021 (by decide +kernel) rfl, bg_in 12 (by decide +kernel) rfl, by decide +kernel⟩
theorem kt_X8_layersWith : Cond.instanceMethod yX8_layersWith ∈ bg_L := bg_in 1019 (by decide +kernel) rfl
theorem ke_X8_layersWith : Cond.selects RX8 yX8_layersWith yX8_layersWith ∈ bg_L := bg_in 1020 (by decide +kernel) rfl
theorem kc_X8_carry : (yX8_carry.cls ≠ "java/lang/invoke/MethodHandle" ∧ yX8_carry.cls ≠ "java/lang/invoke/VarHandle" ∧ (parseMethodDescriptor yX8_carry.desc).map (fun d => d.parameters.length) = some 1) ∧ Cond.code yX8_carry cX8_carry 4 none ∈ bg_L ∧ Cond.initialized yX8_carry.cls ∈ bg_L ∧ plainName yX8_carry.cls = true := ⟨⟨by decide +kernel, by decide +kernel, by decide +kernel⟩, bg_in 1034 (by decide +kernel) rfl, bg_in 12 (by decide +kernel) rfl, by decide +kernel⟩
theorem kt_X8_carry : Cond.instanceMethod yX8_carry ∈ bg_L := bg_in 1032 (by decide +kernel) rfl
theorem ke_X8_carry : Cond.selects RX8 yX8_carry yX8_carry ∈ bg_L := bg_in 1033 (by decide +kernel) rfl
theorem kc_X1_removeSheet : (yX1_removeSheet.cls ≠ "java/lang/invoke/MethodHandle" ∧ yX1_removeSheet.cls ≠ "java/lang/invoke/VarHandle" ∧ (parseMethodDescriptor yX1_removeSheet.desc).map (fun d => d.parameters.length) = some 1) ∧ Cond.code yX1_removeSheet cX1_removeSheet 4 none ∈ bg_L ∧ Cond.initialized yX1_removeSheet.cls ∈ bg_L ∧ plainName yX1_removeSheet.cls = true := ⟨⟨by decide +kernel, by decide +kernel, by decide +kernel⟩, bg_in 1038 (by decide +kernel) rfl, bg_in 11 (by decide +kernel) rfl, by decide +kernel⟩
theorem kt_X1_removeSheet : Cond.instanceMethod yX1_removeSheet ∈ bg_L := bg_in 1036 (by decide +kernel) rfl
theorem ke_X1_removeSheet : Cond.selects RX1 yX1_removeSheet yX1_removeSheet ∈ bg_L := bg_in 1037 (by decide +kernel) rfl
theorem kc_X8_butterTop : (yX8_butterTop.cls ≠ "java/lang/invoke/MethodHandle" ∧ yX8_butterTop.cls ≠ "java/lang/invoke/VarHandle" ∧ (parseMethodDescriptor yX8_butterTop.desc).map (fun d => d.parameters.length) = some 1) ∧ Cond.code yX8_butterTop cX8_butterTop 3 none ∈ bg_L ∧ Cond.initialized yX8_butterTop.cls ∈ bg_L ∧ plainName yX8_butterTop.cls = true := ⟨⟨by decide +kernel, by decide +kernel, by decide +kernel⟩, bg_in 1054 (by decide +kernel) rfl, bg_in 12 (by decide +kernel) rfl, by decide +kernel⟩
theorem kt_X8_butterTop : Cond.instanceMethod yX8_butterTop ∈ bg_L := bg_in 1052 (by decide +kernel) rfl
theorem ke_X8_butterTop : Cond.selects RX8 yX8_butterTop yX8_butterTop ∈ bg_L := bg_in 1053 (by decide +kernel) rfl
theorem kc_X3_dropOldest : (yX3_dropOldest.cls ≠ "java/lang/invoke/MethodHandle" ∧ yX3_dropOldest.cls ≠ "java/lang/invoke/VarHandle" ∧ (parseMethodDescriptor yX3_dropOldest.desc).map (fun d => d.parameters.length) = some 0) ∧ Cond.code yX3_dropOldest cX3_dropOldest 3 none ∈ bg_L ∧ Cond.initialized yX3_dropOldest.cls ∈ bg_L ∧ plainName yX3_dropOldest.cls = true := ⟨⟨by decide +kernel, by decide +kernel, by decide +kernel⟩, bg_in 862 (by decide +kernel) rfl, bg_in 13 (by decide +kernel) rfl, by decide +kernel⟩
theorem kt_X3_dropOldest : Cond.instanceMethod yX3_dropOldest ∈ bg_L := bg_in 860 (by decide +kernel) rfl
theorem ke_X3_dropOldest : Cond.selects RX3 yX3_dropOldest yX3_dropOldest ∈ bg_L := bg_in 861 (by decide +kernel) rfl
theorem kc_X1_copyFrom : (yX1_copyFrom.cls ≠ "java/lang/invoke/MethodHandle" ∧ yX1_copyFrom.cls ≠ "java/lang/invoke/VarHandle" ∧ (parseMethodDescriptor yX1_copyFrom.desc).map (fun d => d.parameters.length) = some 1) ∧ Cond.code yX1_copyFrom cX1_copyFrom 3 none ∈ bg_L ∧ Cond.initialized yX1_copyFrom.cls ∈ bg_L ∧ plainName yX1_copyFrom.cls = true := ⟨⟨by decide +kernel, by decide +kernel, by decide +kernel⟩, bg_in 504 (by decide +kernel) rfl, bg_in 11 (by decide +kernel) rfl, by decide +kernel⟩
theorem kt_X1_copyFrom : Cond.instanceMethod yX1_copyFrom ∈ bg_L := bg_in 502 (by decide +kernel) rfl
theorem ke_X1_copyFrom : Cond.selects RX1 yX1_copyFrom yX1_copyFrom ∈ bg_L := bg_in 503 (by decide +kernel) rfl
theorem kc_X10_init : (yX10_init.cls ≠ "java/lang/invoke/MethodHandle" ∧ yX10_init.cls ≠ "java/lang/invoke/VarHandle" ∧ (parseMethodDescriptor yX10_init.desc).map (fun d => d.parameters.length) = some 0) ∧ Cond.code yX10_init cX10_init 1 none ∈ bg_L ∧ Cond.initialized yX10_init.cls ∈ bg_L ∧ plainName yX10_init.cls = true := ⟨⟨by decide +kernel, by decide +kernel, by decide +kernel⟩, bg_in 51 (by decide +kernel) rfl, bg_in 7 (by decide +kernel) rfl, by decide +kernel⟩
theorem kt_X10_init : Cond.instanceMethod yX10_init ∈ bg_L := bg_in 50 (by decide +kernel) rfl
theorem kc_X10_isSeparator : (yX10_isSeparator.cls ≠ "java/lang/invoke/MethodHandle" ∧ yX10_isSeparator.cls ≠ "java/lang/invoke/VarHandle" ∧ (parseMethodDescriptor yX10_isSeparator.desc).map (fun d => d.parameters.length) = some 1) ∧ Cond.code yX10_isSeparator cX10_isSeparator 1 (some .boolean) ∈ bg_L ∧ Cond.initialized yX10_isSeparator.cls ∈ bg_L ∧ plainName yX10_isSeparator.cls = true := ⟨⟨by decide +kernel, by decide +kernel, by decide +kernel⟩, bg_in 390 (by decide +kernel) rfl, bg_in 7 (by decide +kernel) rfl, by decide +kernel⟩
theorem kt_X10_isSeparator : Cond.static yX10_isSeparator ∈ bg_L := bg_in 389 (by decide +kernel) rfl
theorem kc_X10_isLetter : (yX10_isLetter.cls ≠ "java/lang/invoke/MethodHandle" ∧ yX10_isLetter.cls ≠ "java/lang/invoke/VarHandle" ∧ (parseMethodDescriptor yX10_isLetter.desc).map (fun d => d.parameters.length) = some 1) ∧ Cond.code yX10_isLetter cX10_isLetter 1 (some .boolean) ∈ bg_L ∧ Cond.initialized yX10_isLetter.cls ∈ bg_L ∧ plainName yX10_isLetter.cls = true := ⟨⟨by decide +kernel, by decide +kernel, by decide +kernel⟩, bg_in 393 (by decide +kernel) rfl, bg_in 7 (by decide +kernel) rfl, by decide +kernel⟩
theorem kt_X10_isLetter : Cond.static yX10_isLetter ∈ bg_L := bg_in 392 (by decide +kernel) rfl
theorem kc_X10_isDigit : (yX10_isDigit.cls ≠ "java/lang/invoke/MethodHandle" ∧ yX10_isDigit.cls ≠ "java/lang/invoke/VarHandle" ∧ (parseMethodDescriptor yX10_isDigit.desc).map (fun d => d.parameters.length) = some 1) ∧ Cond.code yX10_isDigit cX10_isDigit 1 (some .boolean) ∈ bg_L ∧ Cond.initialized yX10_isDigit.cls ∈ bg_L ∧ plainName yX10_isDigit.cls = true := ⟨⟨by decide +kernel, by decide +kernel, by decide +kernel⟩, bg_in 398 (by decide +kernel) rfl, bg_in 7 (by decide +kernel) rfl, by decide +kernel⟩
theorem kt_X10_isDigit : Cond.static yX10_isDigit ∈ bg_L := bg_in 397 (by decide +kernel) rfl
theorem kc_X10_advance : (yX10_advance.cls ≠ "java/lang/invoke/MethodHandle" ∧ yX10_advance.cls ≠ "java/lang/invoke/VarHandle" ∧ (parseMethodDescriptor yX10_advance.desc).map (fun d => d.parameters.length) = some 0) ∧ Cond.code yX10_advance cX10_advance 2 none ∈ bg_L ∧ Cond.initialized yX10_advance.cls ∈ bg_L ∧ plainName yX10_advance.cls = true := ⟨⟨by decide +kernel, by decide +kernel, by decide +kernel⟩, bg_in 387 (by decide +kernel) rfl, bg_in 7 (by decide +kernel) rfl, by decide +kernel⟩
theorem kt_X10_advance : Cond.instanceMethod yX10_advance ∈ bg_L := bg_in 385 (by decide +kernel) rfl
theorem ke_X10_advance : Cond.selects RX10 yX10_advance yX10_advance ∈ bg_L := bg_in 386 (by decide +kernel) rfl
theorem kc_X10_begin : (yX10_begin.cls ≠ "java/lang/invoke/MethodHandle" ∧ yX10_begin.cls ≠ "java/lang/invoke/VarHandle" ∧ (parseMethodDescriptor yX10_begin.desc).map (fun d => d.parameters.length) = some 2) ∧ Cond.code yX10_begin cX10_begin 3 none ∈ bg_L ∧ Cond.initialized yX10_begin.cls ∈ bg_L ∧ plainName yX10_begin.cls = true := ⟨⟨by decide +kernel, by decide +kernel, by decide +kernel⟩, bg_in 380 (by decide +kernel) rfl, bg_in 7 (by decide +kernel) rfl, by decide +kernel⟩
theorem kt_X10_begin : Cond.instanceMethod yX10_begin ∈ bg_L := bg_in 378 (by decide +kernel) rfl
theorem ke_X10_begin : Cond.selects RX10 yX10_begin yX10_begin ∈ bg_L := bg_in 379 (by decide +kernel) rfl
theorem kc_J0_coder_7d493 : (yJ0_coder_7d493.cls ≠ "java/lang/invoke/MethodHandle" ∧ yJ0_coder_7d493.cls ≠ "java/lang/invoke/VarHandle" ∧ (parseMethodDescriptor yJ0_coder_7d493.desc).map (fun d => d.parameters.length) = some 0) ∧ Cond.code yJ0_coder_7d493 cJ0_coder_7d493 1 (some .byte) ∈ bg_L ∧ Cond.initialized yJ0_coder_7d493.cls ∈ bg_L ∧ plainName yJ0_coder_7d493.cls = true := ⟨⟨by decide +kernel, by decide +kernel, by decide +kernel⟩, bg_in 426 (by decide +kernel) rfl, bg_in 17 (by decide +kernel) rfl, by decide +kernel⟩
theorem kt_J0_coder_7d493 : Cond.instanceMethod yJ0_coder_7d493 ∈ bg_L := bg_in 424 (by decide +kernel) rfl
theorem ke_J0_coder_7d493 : Cond.selects RJ0 yJ0_coder_7d493 yJ0_coder_7d493 ∈ bg_L := bg_in 425 (by decide +kernel) rfl
theorem kc_J3_checkIndex_8e157 : (yJ3_checkIndex_8e157.cls ≠ "java/lang/invoke/MethodHandle" ∧ yJ3_checkIndex_8e157.cls ≠ "java/lang/invoke/VarHandle" ∧ (parseMethodDescriptor yJ3_checkIndex_8e157.desc).map (fun d => d.parameters.length) = some 3) ∧ Cond.code yJ3_checkIndex_8e157 cJ3_checkIndex_8e157 3 (some .int) ∈ bg_L ∧ Cond.initialized yJ3_checkIndex_8e157.cls ∈ bg_L ∧ plainName yJ3_checkIndex_8e157.cls = true := ⟨⟨by decide +kernel, by decide +kernel, by decide +kernel⟩, bg_in 447 (by decide +kernel) rfl, bg_in 23 (by decide +kernel) rfl, by decide +kernel⟩
theorem kt_J3_checkIndex_8e157 : Cond.static yJ3_checkIndex_8e157 ∈ bg_L := bg_in 446 (by decide +kernel) rfl
theorem kc_J0_checkIndex_df160 : (yJ0_checkIndex_df160.cls ≠ "java/lang/invoke/MethodHandle" ∧ yJ0_checkIndex_df160.cls ≠ "java/lang/invoke/VarHandle" ∧ (parseMethodDescriptor yJ0_checkIndex_df160.desc).map (fun d => d.parameters.length) = some 2) ∧ Cond.code yJ0_checkIndex_df160 cJ0_checkIndex_df160 2 none ∈ bg_L ∧ Cond.initialized yJ0_checkIndex_df160.cls ∈ bg_L ∧ plainName yJ0_checkIndex_df160.cls = true := ⟨⟨by decide +kernel, by decide +kernel, by decide +kernel⟩, bg_in 442 (by decide +kernel) rfl, bg_in 17 (by decide +kernel) rfl, by decide +kernel⟩
theorem kt_J0_checkIndex_df160 : Cond.static yJ0_checkIndex_df160 ∈ bg_L := bg_in 441 (by decide +kernel) rfl
theorem kc_J2_length_9d52b : (yJ2_length_9d52b.cls ≠ "java/lang/invoke/MethodHandle" ∧ yJ2_length_9d52b.cls ≠ "java/lang/invoke/VarHandle" ∧ (parseMethodDescriptor yJ2_length_9d52b.desc).map (fun d => d.parameters.length) = some 1) ∧ Cond.code yJ2_length_9d52b cJ2_length_9d52b 1 (some .int) ∈ bg_L ∧ Cond.initialized yJ2_length_9d52b.cls ∈ bg_L ∧ plainName yJ2_length_9d52b.cls = true := ⟨⟨by decide +kernel, by decide +kernel, by decide +kernel⟩, bg_in 456 (by decide +kernel) rfl, bg_in 18 (by decide +kernel) rfl, by decide +kernel⟩
theorem kt_J2_length_9d52b : Cond.static yJ2_length_9d52b ∈ bg_L := bg_in 455 (by decide +kernel) rfl
theorem kc_J2_checkIndex_2214a : (yJ2_checkIndex_2214a.cls ≠ "java/lang/invoke/MethodHandle" ∧ yJ2_checkIndex_2214a.cls ≠ "java/lang/invoke/VarHandle" ∧ (parseMethodDescriptor yJ2_checkIndex_2214a.desc).map (fun d => d.parameters.length) = some 2) ∧ Cond.code yJ2_checkIndex_2214a cJ2_checkIndex_2214a 2 none ∈ bg_L ∧ Cond.initialized yJ2_checkIndex_2214a.cls ∈ bg_L ∧ plainName yJ2_checkIndex_2214a.cls = true := ⟨⟨by decide +kernel, by decide +kernel, by decide +kernel⟩, bg_in 453 (by decide +kernel) rfl, bg_in 18 (by decide +kernel) rfl, by decide +kernel⟩
theorem kt_J2_checkIndex_2214a : Cond.static yJ2_checkIndex_2214a ∈ bg_L := bg_in 452 (by decide +kernel) rfl
theorem kc_J2_getChar_3b067 : (yJ2_getChar_3b067.cls ≠ "java/lang/invoke/MethodHandle" ∧ yJ2_getChar_3b067.cls ≠ "java/lang/invoke/VarHandle" ∧ (parseMethodDescriptor yJ2_getChar_3b067.desc).map (fun d => d.parameters.length) = some 2) ∧ Cond.code yJ2_getChar_3b067 cJ2_getChar_3b067 2 (some .char) ∈ bg_L ∧ Cond.initialized yJ2_getChar_3b067.cls ∈ bg_L ∧ plainName yJ2_getChar_3b067.cls = true := ⟨⟨by decide +kernel, by decide +kernel, by decide +kernel⟩, bg_in 460 (by decide +kernel) rfl, bg_in 18 (by decide +kernel) rfl, by decide +kernel⟩
theorem kt_J2_getChar_3b067 : Cond.static yJ2_getChar_3b067 ∈ bg_L := bg_in 459 (by decide +kernel) rfl
theorem kc_J0_isLatin1_aae02 : (yJ0_isLatin1_aae02.cls ≠ "java/lang/invoke/MethodHandle" ∧ yJ0_isLatin1_aae02.cls ≠ "java/lang/invoke/VarHandle" ∧ (parseMethodDescriptor yJ0_isLatin1_aae02.desc).map (fun d => d.parameters.length) = some 0) ∧ Cond.code yJ0_isLatin1_aae02 cJ0_isLatin1_aae02 1 (some .boolean) ∈ bg_L ∧ Cond.initialized yJ0_isLatin1_aae02.cls ∈ bg_L ∧ plainName yJ0_isLatin1_aae02.cls = true := ⟨⟨by decide +kernel, by decide +kernel, by decide +kernel⟩, bg_in 436 (by decide +kernel) rfl, bg_in 17 (by decide +kernel) rfl, by decide +kernel⟩
theorem kt_J0_isLatin1_aae02 : Cond.instanceMethod yJ0_isLatin1_aae02 ∈ bg_L := bg_in 434 (by decide +kernel) rfl
theorem ke_J0_isLatin1_aae02 : Cond.selects RJ0 yJ0_isLatin1_aae02 yJ0_isLatin1_aae02 ∈ bg_L := bg_in 435 (by decide +kernel) rfl
theorem kc_J1_charAt_3b067 : (yJ1_charAt_3b067.cls ≠ "java/lang/invoke/MethodHandle" ∧ yJ1_charAt_3b067.cls ≠ "java/lang/invoke/VarHandle" ∧ (parseMethodDescriptor yJ1_charAt_3b067.desc).map (fun d => d.parameters.length) = some 2) ∧ Cond.code yJ1_charAt_3b067 cJ1_charAt_3b067 2 (some .char) ∈ bg_L ∧ Cond.initialized yJ1_charAt_3b067.cls ∈ bg_L ∧ plainName yJ1_charAt_3b067.cls = true := ⟨⟨by decide +kernel, by decide +kernel, by decide +kernel⟩, bg_in 439 (by decide +kernel) rfl, bg_in 24 (by decide +kernel) rfl, by decide +kernel⟩
theorem kt_J1_charAt_3b067 : Cond.static yJ1_charAt_3b067 ∈ bg_L := bg_in 438 (by decide +kernel) rfl
theorem kc_J2_charAt_3b067 : (yJ2_charAt_3b067.cls ≠ "java/lang/invoke/MethodHandle" ∧ yJ2_charAt_3b067.cls ≠ "java/lang/invoke/VarHandle" ∧ (parseMethodDescriptor yJ2_charAt_3b067.desc).map (fun d => d.parameters.length) = some 2) ∧ Cond.code yJ2_charAt_3b067 cJ2_charAt_3b067 2 (some .char) ∈ bg_L ∧ Cond.initialized yJ2_charAt_3b067.cls ∈ bg_L ∧ plainName yJ2_charAt_3b067.cls = true := ⟨⟨by decide +kernel, by decide +kernel, by decide +kernel⟩, bg_in 450 (by decide +kernel) rfl, bg_in 18 (by decide +kernel) rfl, by decide +kernel⟩
theorem kt_J2_charAt_3b067 : Cond.static yJ2_charAt_3b067 ∈ bg_L := bg_in 449 (by decide +kernel) rfl
theorem kc_J0_length_8abf5 : (yJ0_length_8abf5.cls ≠ "java/lang/invoke/MethodHandle" ∧ yJ0_length_8abf5.cls ≠ "java/lang/invoke/VarHandle" ∧ (parseMethodDescriptor yJ0_length_8abf5.desc).map (fun d => d.parameters.length) = some 0) ∧ Cond.code yJ0_length_8abf5 cJ0_length_8abf5 1 (some .int) ∈ bg_L ∧ Cond.initialized yJ0_length_8abf5.cls ∈ bg_L ∧ plainName yJ0_length_8abf5.cls = true := ⟨⟨by decide +kernel, by decide +kernel, by decide +kernel⟩, bg_in 422 (by decide +kernel) rfl, bg_in 17 (by decide +kernel) rfl, by decide +kernel⟩
theorem kt_J0_length_8abf5 : Cond.instanceMethod yJ0_length_8abf5 ∈ bg_L := bg_in 420 (by decide +kernel) rfl
theorem ke_J0_length_8abf5 : Cond.selects RJ0 yJ0_length_8abf5 yJ0_length_8abf5 ∈ bg_L := bg_in 421 (by decide +kernel) rfl
theorem kc_J0_charAt_5068e : (yJ0_charAt_5068e.cls ≠ "java/lang/invoke/MethodHandle" ∧ yJ0_charAt_5068e.cls ≠ "java/lang/invoke/VarHandle" ∧ (parseMethodDescriptor yJ0_charAt_5068e.desc).map (fun d => d.parameters.length) = some 1) ∧ Cond.code yJ0_charAt_5068e cJ0_charAt_5068e 2 (some .char) ∈ bg_L ∧ Cond.initialized yJ0_charAt_5068e.cls ∈ bg_L ∧ plainName yJ0_charAt_5068e.cls = true := ⟨⟨by decide +kernel, by decide +kernel, by decide +kernel⟩, bg_in 432 (by decide +kernel) rfl, bg_in 17 (by decide +kernel) rfl, by decide +kernel⟩
theorem kt_J0_charAt_5068e : Cond.instanceMethod yJ0_charAt_5068e ∈ bg_L := bg_in 430 (by decide +kernel) rfl
theorem ke_J0_charAt_5068e : Cond.selects RJ0 yJ0_charAt_5068e yJ0_charAt_5068e ∈ bg_L := bg_in 431 (by decide +kernel) rfl
theorem kc_X10_isWord : (yX10_isWord.cls ≠ "java/lang/invoke/MethodHandle" ∧ yX10_isWord.cls ≠ "java/lang/invoke/VarHandle" ∧ (parseMethodDescriptor yX10_isWord.desc).map (fun d => d.parameters.length) = some 1) ∧ Cond.code yX10_isWord cX10_isWord 3 (some .boolean) ∈ bg_L ∧ Cond.initialized yX10_isWord.cls ∈ bg_L ∧ plainName yX10_isWord.cls = true := ⟨⟨by decide +kernel, by decide +kernel, by decide +kernel⟩, bg_in 418 (by decide +kernel) rfl, bg_in 7 (by decide +kernel) rfl, by decide +kernel⟩
theorem kt_X10_isWord : Cond.instanceMethod yX10_isWord ∈ bg_L := bg_in 416 (by decide +kernel) rfl
theorem ke_X10_isWord : Cond.selects RX10 yX10_isWord yX10_isWord ∈ bg_L := bg_in 417 (by decide +kernel) rfl
theorem kc_X5_fail : (yX5_fail.cls ≠ "java/lang/invoke/MethodHandle" ∧ yX5_fail.cls ≠ "java/lang/invoke/VarHandle" ∧ (parseMethodDescriptor yX5_fail.desc).map (fun d => d.parameters.length) = some 1) ∧ Cond.code yX5_fail cX5_fail 2 (some .boolean) ∈ bg_L ∧ Cond.initialized yX5_fail.cls ∈ bg_L ∧ plainName yX5_fail.cls = true := ⟨⟨by decide +kernel, by decide +kernel, by decide +kernel⟩, bg_in 470 (by decide +kernel) rfl, bg_in 6 (by decide +kernel) rfl, by decide +kernel⟩
theorem kt_X5_fail : Cond.instanceMethod yX5_fail ∈ bg_L := bg_in 468 (by decide +kernel) rfl
theorem ke_X5_fail : Cond.selects RX5 yX5_fail yX5_fail ∈ bg_L := bg_in 469 (by decide +kernel) rfl
theorem kc_X5_takeWord : (yX5_takeWord.cls ≠ "java/lang/invoke/MethodHandle" ∧ yX5_takeWord.cls ≠ "java/lang/invoke/VarHandle" ∧ (parseMethodDescriptor yX5_takeWord.desc).map (fun d => d.parameters.length) = some 1) ∧ Cond.code yX5_takeWord cX5_takeWord 2 (some .boolean) ∈ bg_L ∧ Cond.initialized yX5_takeWord.cls ∈ bg_L ∧ plainName yX5_takeWord.cls = true := ⟨⟨by decide +kernel, by decide +kernel, by decide +kernel⟩, bg_in 414 (by decide +kernel) rfl, bg_in 6 (by decide +kernel) rfl, by decide +kernel⟩
theorem kt_X5_takeWord : Cond.instanceMethod yX5_takeWord ∈ bg_L := bg_in 412 (by decide +kernel) rfl
theorem ke_X5_takeWord : Cond.selects RX5 yX5_takeWord yX5_takeWord ∈ bg_L := bg_in 413 (by decide +kernel) rfl
theorem kc_X5_takeNumber : (yX5_takeNumber.cls ≠ "java/lang/invoke/MethodHandle" ∧ yX5_takeNumber.cls ≠ "java/lang/invoke/VarHandle" ∧ (parseMethodDescriptor yX5_takeNumber.desc).map (fun d => d.parameters.length) = some 2) ∧ Cond.code yX5_takeNumber cX5_takeNumber 3 (some .boolean) ∈ bg_L ∧ Cond.initialized yX5_takeNumber.cls ∈ bg_L ∧ plainName yX5_takeNumber.cls = true := ⟨⟨by decide +kernel, by decide +kernel, by decide +kernel⟩, bg_in 475 (by decide +kernel) rfl, bg_in 6 (by decide +kernel) rfl, by decide +kernel⟩
theorem kt_X5_takeNumber : Cond.instanceMethod yX5_takeNumber ∈ bg_L := bg_in 473 (by decide +kernel) rfl
theorem ke_X5_takeNumber : Cond.selects RX5 yX5_takeNumber yX5_takeNumber ∈ bg_L := bg_in 474 (by decide +kernel) rfl
theorem kc_X5_takeSemicolon : (yX5_takeSemicolon.cls ≠ "java/lang/invoke/MethodHandle" ∧ yX5_takeSemicolon.cls ≠ "java/lang/invoke/VarHandle" ∧ (parseMethodDescriptor yX5_takeSemicolon.desc).map (fun d => d.parameters.length) = some 0) ∧ Cond.code yX5_takeSemicolon cX5_takeSemicolon 1 (some .boolean) ∈ bg_L ∧ Cond.initialized yX5_takeSemicolon.cls ∈ bg_L ∧ plainName yX5_takeSemicolon.cls = true := ⟨⟨by decide +kernel, by decide +kernel, by decide +kernel⟩, bg_in 481 (by decide +kernel) rfl, bg_in 6 (by decide +kernel) rfl, by decide +kernel⟩
theorem kt_X5_takeSemicolon : Cond.instanceMethod yX5_takeSemicolon ∈ bg_L := bg_in 479 (by decide +kernel) rfl
theorem ke_X5_takeSemicolon : Cond.selects RX5 yX5_takeSemicolon yX5_takeSemicolon ∈ bg_L := bg_in 480 (by decide +kernel) rfl
theorem kc_X5_isLayerWord : (yX5_isLayerWord.cls ≠ "java/lang/invoke/MethodHandle" ∧ yX5_isLayerWord.cls ≠ "java/lang/invoke/VarHandle" ∧ (parseMethodDescriptor yX5_isLayerWord.desc).map (fun d => d.parameters.length) = some 0) ∧ Cond.code yX5_isLayerWord cX5_isLayerWord 1 (some .boolean) ∈ bg_L ∧ Cond.initialized yX5_isLayerWord.cls ∈ bg_L ∧ plainName yX5_isLayerWord.cls = true := ⟨⟨by decide +kernel, by decide +kernel, by decide +kernel⟩, bg_in 497 (by decide +kernel) rfl, bg_in 6 (by decide +kernel) rfl, by decide +kernel⟩
theorem kt_X5_isLayerWord : Cond.instanceMethod yX5_isLayerWord ∈ bg_L := bg_in 495 (by decide +kernel) rfl
theorem ke_X5_isLayerWord : Cond.selects RX5 yX5_isLayerWord yX5_isLayerWord ∈ bg_L := bg_in 496 (by decide +kernel) rfl
theorem kc_X5_readLayer : (yX5_readLayer.cls ≠ "java/lang/invoke/MethodHandle" ∧ yX5_readLayer.cls ≠ "java/lang/invoke/VarHandle" ∧ (parseMethodDescriptor yX5_readLayer.desc).map (fun d => d.parameters.length) = some 1) ∧ Cond.code yX5_readLayer cX5_readLayer 3 (some .boolean) ∈ bg_L ∧ Cond.initialized yX5_readLayer.cls ∈ bg_L ∧ plainName yX5_readLayer.cls = true := ⟨⟨by decide +kernel, by decide +kernel, by decide +kernel⟩, bg_in 493 (by decide +kernel) rfl, bg_in 6 (by decide +kernel) rfl, by decide +kernel⟩
theorem kt_X5_readLayer : Cond.instanceMethod yX5_readLayer ∈ bg_L := bg_in 491 (by decide +kernel) rfl
theorem ke_X5_readLayer : Cond.selects RX5 yX5_readLayer yX5_readLayer ∈ bg_L := bg_in 492 (by decide +kernel) rfl
theorem kc_X5_begin : (yX5_begin.cls ≠ "java/lang/invoke/MethodHandle" ∧ yX5_begin.cls ≠ "java/lang/invoke/VarHandle" ∧ (parseMethodDescriptor yX5_begin.desc).map (fun d => d.parameters.length) = some 2) ∧ Cond.code yX5_begin cX5_begin 3 none ∈ bg_L ∧ Cond.initialized yX5_begin.cls ∈ bg_L ∧ plainName yX5_begin.cls = true := ⟨⟨by decide +kernel, by decide +kernel, by decide +kernel⟩, bg_in 376 (by decide +kernel) rfl, bg_in 6 (by decide +kernel) rfl, by decide +kernel⟩
theorem kt_X5_begin : Cond.instanceMethod yX5_begin ∈ bg_L := bg_in 374 (by decide +kernel) rfl
theorem ke_X5_begin : Cond.selects RX5 yX5_begin yX5_begin ∈ bg_L := bg_in 375 (by decide +kernel) rfl
theorem kc_X5_readHeader : (yX5_readHeader.cls ≠ "java/lang/invoke/MethodHandle" ∧ yX5_readHeader.cls ≠ "java/lang/invoke/VarHandle" ∧ (parseMethodDescriptor yX5_readHeader.desc).map (fun d => d.parameters.length) = some 1) ∧ Cond.code yX5_readHeader cX5_readHeader 4 (some .boolean) ∈ bg_L ∧ Cond.initialized yX5_readHeader.cls ∈ bg_L ∧ plainName yX5_readHeader.cls = true := ⟨⟨by decide +kernel, by decide +kernel, by decide +kernel⟩, bg_in 409 (by decide +kernel) rfl, bg_in 6 (by decide +kernel) rfl, by decide +kernel⟩
theorem kt_X5_readHeader : Cond.instanceMethod yX5_readHeader ∈ bg_L := bg_in 407 (by decide +kernel) rfl
theorem ke_X5_readHeader : Cond.selects RX5 yX5_readHeader yX5_readHeader ∈ bg_L := bg_in 408 (by decide +kernel) rfl
theorem kc_X5_readSheet : (yX5_readSheet.cls ≠ "java/lang/invoke/MethodHandle" ∧ yX5_readSheet.cls ≠ "java/lang/invoke/VarHandle" ∧ (parseMethodDescriptor yX5_readSheet.desc).map (fun d => d.parameters.length) = some 1) ∧ Cond.code yX5_readSheet cX5_readSheet 3 (some .boolean) ∈ bg_L ∧ Cond.initialized yX5_readSheet.cls ∈ bg_L ∧ plainName yX5_readSheet.cls = true := ⟨⟨by decide +kernel, by decide +kernel, by decide +kernel⟩, bg_in 487 (by decide +kernel) rfl, bg_in 6 (by decide +kernel) rfl, by decide +kernel⟩
theorem kt_X5_readSheet : Cond.instanceMethod yX5_readSheet ∈ bg_L := bg_in 485 (by decide +kernel) rfl
theorem ke_X5_readSheet : Cond.selects RX5 yX5_readSheet yX5_readSheet ∈ bg_L := bg_in 486 (by decide +kernel) rfl
theorem kc_X5_init : (yX5_init.cls ≠ "java/lang/invoke/MethodHandle" ∧ yX5_init.cls ≠ "java/lang/invoke/VarHandle" ∧ (parseMethodDescriptor yX5_init.desc).map (fun d => d.parameters.length) = some 0) ∧ Cond.code yX5_init cX5_init 1 none ∈ bg_L ∧ Cond.initialized yX5_init.cls ∈ bg_L ∧ plainName yX5_init.cls = true := ⟨⟨by decide +kernel, by decide +kernel, by decide +kernel⟩, bg_in 45 (by decide +kernel) rfl, bg_in 6 (by decide +kernel) rfl, by decide +kernel⟩
theorem kt_X5_init : Cond.instanceMethod yX5_init ∈ bg_L := bg_in 44 (by decide +kernel) rfl
theorem kc_X7_init : (yX7_init.cls ≠ "java/lang/invoke/MethodHandle" ∧ yX7_init.cls ≠ "java/lang/invoke/VarHandle" ∧ (parseMethodDescriptor yX7_init.desc).map (fun d => d.parameters.length) = some 0) ∧ Cond.code yX7_init cX7_init 1 none ∈ bg_L ∧ Cond.initialized yX7_init.cls ∈ bg_L ∧ plainName yX7_init.cls = true := ⟨⟨by decide +kernel, by decide +kernel, by decide +kernel⟩, bg_in 95 (by decide +kernel) rfl, bg_in 10 (by decide +kernel) rfl, by decide +kernel⟩
theorem kt_X7_init : Cond.instanceMethod yX7_init ∈ bg_L := bg_in 94 (by decide +kernel) rfl
theorem kc_X1_first : (yX1_first.cls ≠ "java/lang/invoke/MethodHandle" ∧ yX1_first.cls ≠ "java/lang/invoke/VarHandle" ∧ (parseMethodDescriptor yX1_first.desc).map (fun d => d.parameters.length) = some 0) ∧ Cond.code yX1_first cX1_first 1 (some (.object "PastryBench$Bench")) ∈ bg_L ∧ Cond.initialized yX1_first.cls ∈ bg_L ∧ plainName yX1_first.cls = true := ⟨⟨by decide +kernel, by decide +kernel, by decide +kernel⟩, bg_in 113 (by decide +kernel) rfl, bg_in 11 (by decide +kernel) rfl, by decide +kernel⟩
theorem kt_X1_first : Cond.static yX1_first ∈ bg_L := bg_in 112 (by decide +kernel) rfl
theorem kc_X3_init : (yX3_init.cls ≠ "java/lang/invoke/MethodHandle" ∧ yX3_init.cls ≠ "java/lang/invoke/VarHandle" ∧ (parseMethodDescriptor yX3_init.desc).map (fun d => d.parameters.length) = some 0) ∧ Cond.code yX3_init cX3_init 2 none ∈ bg_L ∧ Cond.initialized yX3_init.cls ∈ bg_L ∧ plainName yX3_init.cls = true := ⟨⟨by decide +kernel, by decide +kernel, by decide +kernel⟩, bg_in 237 (by decide +kernel) rfl, bg_in 13 (by decide +kernel) rfl, by decide +kernel⟩
theorem kt_X3_init : Cond.instanceMethod yX3_init ∈ bg_L := bg_in 236 (by decide +kernel) rfl
theorem kc_X4_init : (yX4_init.cls ≠ "java/lang/invoke/MethodHandle" ∧ yX4_init.cls ≠ "java/lang/invoke/VarHandle" ∧ (parseMethodDescriptor yX4_init.desc).map (fun d => d.parameters.length) = some 0) ∧ Cond.code yX4_init cX4_init 1 none ∈ bg_L ∧ Cond.initialized yX4_init.cls ∈ bg_L ∧ plainName yX4_init.cls = true := ⟨⟨by decide +kernel, by decide +kernel, by decide +kernel⟩, bg_in 254 (by decide +kernel) rfl, bg_in 14 (by decide +kernel) rfl, by decide +kernel⟩
theorem kt_X4_init : Cond.instanceMethod yX4_init ∈ bg_L := bg_in 253 (by decide +kernel) rfl
theorem kc_X11_appendWord : (yX11_appendWord.cls ≠ "java/lang/invoke/MethodHandle" ∧ yX11_appendWord.cls ≠ "java/lang/invoke/VarHandle" ∧ (parseMethodDescriptor yX11_appendWord.desc).map (fun d => d.parameters.length) = some 1) ∧ Cond.code yX11_appendWord cX11_appendWord 3 none ∈ bg_L ∧ Cond.initialized yX11_appendWord.cls ∈ bg_L ∧ plainName yX11_appendWord.cls = true := ⟨⟨by decide +kernel, by decide +kernel, by decide +kernel⟩, bg_in 573 (by decide +kernel) rfl, bg_in 5 (by decide +kernel) rfl, by decide +kernel⟩
theorem kt_X11_appendWord : Cond.instanceMethod yX11_appendWord ∈ bg_L := bg_in 572 (by decide +kernel) rfl
theorem ke_X11_appendWord : Cond.selects RX11 yX11_appendWord yX11_appendWord ∈ bg_L := bg_in 2 (by decide +kernel) rfl
theorem kc_X11_requireLength : (yX11_requireLength.cls ≠ "java/lang/invoke/MethodHandle" ∧ yX11_requireLength.cls ≠ "java/lang/invoke/VarHandle" ∧ (parseMethodDescriptor yX11_requireLength.desc).map (fun d => d.parameters.length) = some 1) ∧ Cond.code yX11_requireLength cX11_requireLength 2 none ∈ bg_L ∧ Cond.initialized yX11_requireLength.cls ∈ bg_L ∧ plainName yX11_requireLength.cls = true := ⟨⟨by decide +kernel, by decide +kernel, by decide +kernel⟩, bg_in 300 (by decide +kernel) rfl, bg_in 5 (by decide +kernel) rfl, by decide +kernel⟩
theorem kt_X11_requireLength : Cond.instanceMethod yX11_requireLength ∈ bg_L := bg_in 299 (by decide +kernel) rfl
theorem ke_X11_requireLength : Cond.selects RX11 yX11_requireLength yX11_requireLength ∈ bg_L := bg_in 0 (by decide +kernel) rfl
theorem kc_X5_readBench : (yX5_readBench.cls ≠ "java/lang/invoke/MethodHandle" ∧ yX5_readBench.cls ≠ "java/lang/invoke/VarHandle" ∧ (parseMethodDescriptor yX5_readBench.desc).map (fun d => d.parameters.length) = some 3) ∧ Cond.code yX5_readBench cX5_readBench 5 (some .boolean) ∈ bg_L ∧ Cond.initialized yX5_readBench.cls ∈ bg_L ∧ plainName yX5_readBench.cls = true := ⟨⟨by decide +kernel, by decide +kernel, by decide +kernel⟩, bg_in 372 (by decide +kernel) rfl, bg_in 6 (by decide +kernel) rfl, by decide +kernel⟩
theorem kt_X5_readBench : Cond.instanceMethod yX5_readBench ∈ bg_L := bg_in 370 (by decide +kernel) rfl
theorem ke_X5_readBench : Cond.selects RX5 yX5_readBench yX5_readBench ∈ bg_L := bg_in 371 (by decide +kernel) rfl
theorem kc_X3_forget : (yX3_forget.cls ≠ "java/lang/invoke/MethodHandle" ∧ yX3_forget.cls ≠ "java/lang/invoke/VarHandle" ∧ (parseMethodDescriptor yX3_forget.desc).map (fun d => d.parameters.length) = some 0) ∧ Cond.code yX3_forget cX3_forget 1 none ∈ bg_L ∧ Cond.initialized yX3_forget.cls ∈ bg_L ∧ plainName yX3_forget.cls = true := ⟨⟨by decide +kernel, by decide +kernel, by decide +kernel⟩, bg_in 512 (by decide +kernel) rfl, bg_in 13 (by decide +kernel) rfl, by decide +kernel⟩
theorem kt_X3_forget : Cond.instanceMethod yX3_forget ∈ bg_L := bg_in 510 (by decide +kernel) rfl
theorem ke_X3_forget : Cond.selects RX3 yX3_forget yX3_forget ∈ bg_L := bg_in 511 (by decide +kernel) rfl
theorem kc_X1_findWarmest : (yX1_findWarmest.cls ≠ "java/lang/invoke/MethodHandle" ∧ yX1_findWarmest.cls ≠ "java/lang/invoke/VarHandle" ∧ (parseMethodDescriptor yX1_findWarmest.desc).map (fun d => d.parameters.length) = some 0) ∧ Cond.code yX1_findWarmest cX1_findWarmest 3 (some .int) ∈ bg_L ∧ Cond.initialized yX1_findWarmest.cls ∈ bg_L ∧ plainName yX1_findWarmest.cls = true := ⟨⟨by decide +kernel, by decide +kernel, by decide +kernel⟩, bg_in 769 (by decide +kernel) rfl, bg_in 11 (by decide +kernel) rfl, by decide +kernel⟩
theorem kt_X1_findWarmest : Cond.instanceMethod yX1_findWarmest ∈ bg_L := bg_in 767 (by decide +kernel) rfl
theorem ke_X1_findWarmest : Cond.selects RX1 yX1_findWarmest yX1_findWarmest ∈ bg_L := bg_in 768 (by decide +kernel) rfl
theorem kc_X1_findFinest : (yX1_findFinest.cls ≠ "java/lang/invoke/MethodHandle" ∧ yX1_findFinest.cls ≠ "java/lang/invoke/VarHandle" ∧ (parseMethodDescriptor yX1_findFinest.desc).map (fun d => d.parameters.length) = some 0) ∧ Cond.code yX1_findFinest cX1_findFinest 3 (some .int) ∈ bg_L ∧ Cond.initialized yX1_findFinest.cls ∈ bg_L ∧ plainName yX1_findFinest.cls = true := ⟨⟨by decide +kernel, by decide +kernel, by decide +kernel⟩, bg_in 777 (by decide +kernel) rfl, bg_in 11 (by decide +kernel) rfl, by decide +kernel⟩
theorem kt_X1_findFinest : Cond.instanceMethod yX1_findFinest ∈ bg_L := bg_in 775 (by decide +kernel) rfl
theorem ke_X1_findFinest : Cond.selects RX1 yX1_findFinest yX1_findFinest ∈ bg_L := bg_in 776 (by decide +kernel) rfl
theorem kc_X11_sheetAt : (yX11_sheetAt.cls ≠ "java/lang/invoke/MethodHandle" ∧ yX11_sheetAt.cls ≠ "java/lang/invoke/VarHandle" ∧ (parseMethodDescriptor yX11_sheetAt.desc).map (fun d => d.parameters.length) = some 1) ∧ Cond.code yX11_sheetAt cX11_sheetAt 2 (some (.object "PastryBench$Sheet")) ∈ bg_L ∧ Cond.initialized yX11_sheetAt.cls ∈ bg_L ∧ plainName yX11_sheetAt.cls = true := ⟨⟨by decide +kernel, by decide +kernel, by decide +kernel⟩, bg_in 591 (by decide +kernel) rfl, bg_in 5 (by decide +kernel) rfl, by decide +kernel⟩
theorem kt_X11_sheetAt : Cond.instanceMethod yX11_sheetAt ∈ bg_L := bg_in 590 (by decide +kernel) rfl
theorem ke_X11_sheetAt : Cond.selects RX11 yX11_sheetAt yX11_sheetAt ∈ bg_L := bg_in 3 (by decide +kernel) rfl
theorem kc_X8_countButterLayers : (yX8_countButterLayers.cls ≠ "java/lang/invoke/MethodHandle" ∧ yX8_countButterLayers.cls ≠ "java/lang/invoke/VarHandle" ∧ (parseMethodDescriptor yX8_countButterLayers.desc).map (fun d => d.parameters.length) = some 0) ∧ Cond.code yX8_countButterLayers cX8_countButterLayers 3 (some .int) ∈ bg_L ∧ Cond.initialized yX8_countButterLayers.cls ∈ bg_L ∧ plainName yX8_countButterLayers.cls = true := ⟨⟨by decide +kernel, by decide +kernel, by decide +kernel⟩, bg_in 729 (by decide +kernel) rfl, bg_in 12 (by decide +kernel) rfl, by decide +kernel⟩
theorem kt_X8_countButterLayers : Cond.instanceMethod yX8_countButterLayers ∈ bg_L := bg_in 727 (by decide +kernel) rfl
theorem ke_X8_countButterLayers : Cond.selects RX8 yX8_countButterLayers yX8_countButterLayers ∈ bg_L := bg_in 728 (by decide +kernel) rfl
theorem kc_X11_requireLayer : (yX11_requireLayer.cls ≠ "java/lang/invoke/MethodHandle" ∧ yX11_requireLayer.cls ≠ "java/lang/invoke/VarHandle" ∧ (parseMethodDescriptor yX11_requireLayer.desc).map (fun d => d.parameters.length) = some 2) ∧ Cond.code yX11_requireLayer cX11_requireLayer 2 none ∈ bg_L ∧ Cond.initialized yX11_requireLayer.cls ∈ bg_L ∧ plainName yX11_requireLayer.cls = true := ⟨⟨by decide +kernel, by decide +kernel, by decide +kernel⟩, bg_in 658 (by decide +kernel) rfl, bg_in 5 (by decide +kernel) rfl, by decide +kernel⟩
theorem kt_X11_requireLayer : Cond.static yX11_requireLayer ∈ bg_L := bg_in 657 (by decide +kernel) rfl
theorem kc_X8_totalButter : (yX8_totalButter.cls ≠ "java/lang/invoke/MethodHandle" ∧ yX8_totalButter.cls ≠ "java/lang/invoke/VarHandle" ∧ (parseMethodDescriptor yX8_totalButter.desc).map (fun d => d.parameters.length) = some 0) ∧ Cond.code yX8_totalButter cX8_totalButter 3 (some .int) ∈ bg_L ∧ Cond.initialized yX8_totalButter.cls ∈ bg_L ∧ plainName yX8_totalButter.cls = true := ⟨⟨by decide +kernel, by decide +kernel, by decide +kernel⟩, bg_in 721 (by decide +kernel) rfl, bg_in 12 (by decide +kernel) rfl, by decide +kernel⟩
theorem kt_X8_totalButter : Cond.instanceMethod yX8_totalButter ∈ bg_L := bg_in 719 (by decide +kernel) rfl
theorem ke_X8_totalButter : Cond.selects RX8 yX8_totalButter yX8_totalButter ∈ bg_L := bg_in 720 (by decide +kernel) rfl
theorem kc_X8_findThinnest : (yX8_findThinnest.cls ≠ "java/lang/invoke/MethodHandle" ∧ yX8_findThinnest.cls ≠ "java/lang/invoke/VarHandle" ∧ (parseMethodDescriptor yX8_findThinnest.desc).map (fun d => d.parameters.length) = some 0) ∧ Cond.code yX8_findThinnest cX8_findThinnest 3 (some .int) ∈ bg_L ∧ Cond.initialized yX8_findThinnest.cls ∈ bg_L ∧ plainName yX8_findThinnest.cls = true := ⟨⟨by decide +kernel, by decide +kernel, by decide +kernel⟩, bg_in 677 (by decide +kernel) rfl, bg_in 12 (by decide +kernel) rfl, by decide +kernel⟩
theorem kt_X8_findThinnest : Cond.instanceMethod yX8_findThinnest ∈ bg_L := bg_in 675 (by decide +kernel) rfl
theorem ke_X8_findThinnest : Cond.selects RX8 yX8_findThinnest yX8_findThinnest ∈ bg_L := bg_in 676 (by decide +kernel) rfl
theorem kc_X8_findThickest : (yX8_findThickest.cls ≠ "java/lang/invoke/MethodHandle" ∧ yX8_findThickest.cls ≠ "java/lang/invoke/VarHandle" ∧ (parseMethodDescriptor yX8_findThickest.desc).map (fun d => d.parameters.length) = some 0) ∧ Cond.code yX8_findThickest cX8_findThickest 3 (some .int) ∈ bg_L ∧ Cond.initialized yX8_findThickest.cls ∈ bg_L ∧ plainName yX8_findThickest.cls = true := ⟨⟨by decide +kernel, by decide +kernel, by decide +kernel⟩, bg_in 685 (by decide +kernel) rfl, bg_in 12 (by decide +kernel) rfl, by decide +kernel⟩
theorem kt_X8_findThickest : Cond.instanceMethod yX8_findThickest ∈ bg_L := bg_in 683 (by decide +kernel) rfl
theorem ke_X8_findThickest : Cond.selects RX8 yX8_findThickest yX8_findThickest ∈ bg_L := bg_in 684 (by decide +kernel) rfl
theorem kc_X8_countSeams : (yX8_countSeams.cls ≠ "java/lang/invoke/MethodHandle" ∧ yX8_countSeams.cls ≠ "java/lang/invoke/VarHandle" ∧ (parseMethodDescriptor yX8_countSeams.desc).map (fun d => d.parameters.length) = some 0) ∧ Cond.code yX8_countSeams cX8_countSeams 3 (some .int) ∈ bg_L ∧ Cond.initialized yX8_countSeams.cls ∈ bg_L ∧ plainName yX8_countSeams.cls = true := ⟨⟨by decide +kernel, by decide +kernel, by decide +kernel⟩, bg_in 761 (by decide +kernel) rfl, bg_in 12 (by decide +kernel) rfl, by decide +kernel⟩
theorem kt_X8_countSeams : Cond.instanceMethod yX8_countSeams ∈ bg_L := bg_in 759 (by decide +kernel) rfl
theorem ke_X8_countSeams : Cond.selects RX8 yX8_countSeams yX8_countSeams ∈ bg_L := bg_in 760 (by decide +kernel) rfl
theorem kc_X8_sameFromBothSides : (yX8_sameFromBothSides.cls ≠ "java/lang/invoke/MethodHandle" ∧ yX8_sameFromBothSides.cls ≠ "java/lang/invoke/VarHandle" ∧ (parseMethodDescriptor yX8_sameFromBothSides.desc).map (fun d => d.parameters.length) = some 0) ∧ Cond.code yX8_sameFromBothSides cX8_sameFromBothSides 3 (some .boolean) ∈ bg_L ∧ Cond.initialized yX8_sameFromBothSides.cls ∈ bg_L ∧ plainName yX8_sameFromBothSides.cls = true := ⟨⟨by decide +kernel, by decide +kernel, by decide +kernel⟩, bg_in 874 (by decide +kernel) rfl, bg_in 12 (by decide +kernel) rfl, by decide +kernel⟩
theorem kt_X8_sameFromBothSides : Cond.instanceMethod yX8_sameFromBothSides ∈ bg_L := bg_in 872 (by decide +kernel) rfl
theorem ke_X8_sameFromBothSides : Cond.selects RX8 yX8_sameFromBothSides yX8_sameFromBothSides ∈ bg_L := bg_in 873 (by decide +kernel) rfl
theorem kc_X11_requireFactor : (yX11_requireFactor.cls ≠ "java/lang/invoke/MethodHandle" ∧ yX11_requireFactor.cls ≠ "java/lang/invoke/VarHandle" ∧ (parseMethodDescriptor yX11_requireFactor.desc).map (fun d => d.parameters.length) = some 1) ∧ Cond.code yX11_requireFactor cX11_requireFactor 1 none ∈ bg_L ∧ Cond.initialized yX11_requireFactor.cls ∈ bg_L ∧ plainName yX11_requireFactor.cls = true := ⟨⟨by decide +kernel, by decide +kernel, by decide +kernel⟩, bg_in 788 (by decide +kernel) rfl, bg_in 5 (by decide +kernel) rfl, by decide +kernel⟩
theorem kt_X11_requireFactor : Cond.static yX11_requireFactor ∈ bg_L := bg_in 787 (by decide +kernel) rfl
theorem kc_X8_countPossibleFolds : (yX8_countPossibleFolds.cls ≠ "java/lang/invoke/MethodHandle" ∧ yX8_countPossibleFolds.cls ≠ "java/lang/invoke/VarHandle" ∧ (parseMethodDescriptor yX8_countPossibleFolds.desc).map (fun d => d.parameters.length) = some 1) ∧ Cond.code yX8_countPossibleFolds cX8_countPossibleFolds 5 (some .int) ∈ bg_L ∧ Cond.initialized yX8_countPossibleFolds.cls ∈ bg_L ∧ plainName yX8_countPossibleFolds.cls = true := ⟨⟨by decide +kernel, by decide +kernel, by decide +kernel⟩, bg_in 813 (by decide +kernel) rfl, bg_in 12 (by decide +kernel) rfl, by decide +kernel⟩
theorem kt_X8_countPossibleFolds : Cond.instanceMethod yX8_countPossibleFolds ∈ bg_L := bg_in 811 (by decide +kernel) rfl
theorem ke_X8_countPossibleFolds : Cond.selects RX8 yX8_countPossibleFolds yX8_countPossibleFolds ∈ bg_L := bg_in 812 (by decide +kernel) rfl
theorem kc_X8_countBreaking : (yX8_countBreaking.cls ≠ "java/lang/invoke/MethodHandle" ∧ yX8_countBreaking.cls ≠ "java/lang/invoke/VarHandle" ∧ (parseMethodDescriptor yX8_countBreaking.desc).map (fun d => d.parameters.length) = some 2) ∧ Cond.code yX8_countBreaking cX8_countBreaking 6 (some .int) ∈ bg_L ∧ Cond.initialized yX8_countBreaking.cls ∈ bg_L ∧ plainName yX8_countBreaking.cls = true := ⟨⟨by decide +kernel, by decide +kernel, by decide +kernel⟩, bg_in 821 (by decide +kernel) rfl, bg_in 12 (by decide +kernel) rfl, by decide +kernel⟩
theorem kt_X8_countBreaking : Cond.instanceMethod yX8_countBreaking ∈ bg_L := bg_in 819 (by decide +kernel) rfl
theorem ke_X8_countBreaking : Cond.selects RX8 yX8_countBreaking yX8_countBreaking ∈ bg_L := bg_in 820 (by decide +kernel) rfl
theorem kc_X8_countHoursToSafety : (yX8_countHoursToSafety.cls ≠ "java/lang/invoke/MethodHandle" ∧ yX8_countHoursToSafety.cls ≠ "java/lang/invoke/VarHandle" ∧ (parseMethodDescriptor yX8_countHoursToSafety.desc).map (fun d => d.parameters.length) = some 1) ∧ Cond.code yX8_countHoursToSafety cX8_countHoursToSafety 4 (some .int) ∈ bg_L ∧ Cond.initialized yX8_countHoursToSafety.cls ∈ bg_L ∧ plainName yX8_countHoursToSafety.cls = true := ⟨⟨by decide +kernel, by decide +kernel, by decide +kernel⟩, bg_in 737 (by decide +kernel) rfl, bg_in 12 (by decide +kernel) rfl, by decide +kernel⟩
theorem kt_X8_countHoursToSafety : Cond.instanceMethod yX8_countHoursToSafety ∈ bg_L := bg_in 735 (by decide +kernel) rfl
theorem ke_X8_countHoursToSafety : Cond.selects RX8 yX8_countHoursToSafety yX8_countHoursToSafety ∈ bg_L := bg_in 736 (by decide +kernel) rfl
theorem kc_X1_refusalOfFold : (yX1_refusalOfFold.cls ≠ "java/lang/invoke/MethodHandle" ∧ yX1_refusalOfFold.cls ≠ "java/lang/invoke/VarHandle" ∧ (parseMethodDescriptor yX1_refusalOfFold.desc).map (fun d => d.parameters.length) = some 2) ∧ Cond.code yX1_refusalOfFold cX1_refusalOfFold 3 (some (.object "PastryBench$Refusal")) ∈ bg_L ∧ Cond.initialized yX1_refusalOfFold.cls ∈ bg_L ∧ plainName yX1_refusalOfFold.cls = true := ⟨⟨by decide +kernel, by decide +kernel, by decide +kernel⟩, bg_in 882 (by decide +kernel) rfl, bg_in 11 (by decide +kernel) rfl, by decide +kernel⟩
theorem kt_X1_refusalOfFold : Cond.instanceMethod yX1_refusalOfFold ∈ bg_L := bg_in 880 (by decide +kernel) rfl
theorem ke_X1_refusalOfFold : Cond.selects RX1 yX1_refusalOfFold yX1_refusalOfFold ∈ bg_L := bg_in 881 (by decide +kernel) rfl
theorem kc_X11_throwIfRefused : (yX11_throwIfRefused.cls ≠ "java/lang/invoke/MethodHandle" ∧ yX11_throwIfRefused.cls ≠ "java/lang/invoke/VarHandle" ∧ (parseMethodDescriptor yX11_throwIfRefused.desc).map (fun d => d.parameters.length) = some 1) ∧ Cond.code yX11_throwIfRefused cX11_throwIfRefused 1 none ∈ bg_L ∧ Cond.initialized yX11_throwIfRefused.cls ∈ bg_L ∧ plainName yX11_throwIfRefused.cls = true := ⟨⟨by decide +kernel, by decide +kernel, by decide +kernel⟩, bg_in 848 (by decide +kernel) rfl, bg_in 5 (by decide +kernel) rfl, by decide +kernel⟩
theorem kt_X11_throwIfRefused : Cond.static yX11_throwIfRefused ∈ bg_L := bg_in 847 (by decide +kernel) rfl
theorem kc_X3_remember : (yX3_remember.cls ≠ "java/lang/invoke/MethodHandle" ∧ yX3_remember.cls ≠ "java/lang/invoke/VarHandle" ∧ (parseMethodDescriptor yX3_remember.desc).map (fun d => d.parameters.length) = some 1) ∧ Cond.code yX3_remember cX3_remember 2 none ∈ bg_L ∧ Cond.initialized yX3_remember.cls ∈ bg_L ∧ plainName yX3_remember.cls = true := ⟨⟨by decide +kernel, by decide +kernel, by decide +kernel⟩, bg_in 858 (by decide +kernel) rfl, bg_in 13 (by decide +kernel) rfl, by decide +kernel⟩
theorem kt_X3_remember : Cond.instanceMethod yX3_remember ∈ bg_L := bg_in 856 (by decide +kernel) rfl
theorem ke_X3_remember : Cond.selects RX3 yX3_remember yX3_remember ∈ bg_L := bg_in 857 (by decide +kernel) rfl
theorem kc_X1_applyFold : (yX1_applyFold.cls ≠ "java/lang/invoke/MethodHandle" ∧ yX1_applyFold.cls ≠ "java/lang/invoke/VarHandle" ∧ (parseMethodDescriptor yX1_applyFold.desc).map (fun d => d.parameters.length) = some 2) ∧ Cond.code yX1_applyFold cX1_applyFold 3 (some .int) ∈ bg_L ∧ Cond.initialized yX1_applyFold.cls ∈ bg_L ∧ plainName yX1_applyFold.cls = true := ⟨⟨by decide +kernel, by decide +kernel, by decide +kernel⟩, bg_in 890 (by decide +kernel) rfl, bg_in 11 (by decide +kernel) rfl, by decide +kernel⟩
theorem kt_X1_applyFold : Cond.instanceMethod yX1_applyFold ∈ bg_L := bg_in 888 (by decide +kernel) rfl
theorem ke_X1_applyFold : Cond.selects RX1 yX1_applyFold yX1_applyFold ∈ bg_L := bg_in 889 (by decide +kernel) rfl
theorem kc_X1_refusalOfRoll : (yX1_refusalOfRoll.cls ≠ "java/lang/invoke/MethodHandle" ∧ yX1_refusalOfRoll.cls ≠ "java/lang/invoke/VarHandle" ∧ (parseMethodDescriptor yX1_refusalOfRoll.desc).map (fun d => d.parameters.length) = some 2) ∧ Cond.code yX1_refusalOfRoll cX1_refusalOfRoll 3 (some (.object "PastryBench$Refusal")) ∈ bg_L ∧ Cond.initialized yX1_refusalOfRoll.cls ∈ bg_L ∧ plainName yX1_refusalOfRoll.cls = true := ⟨⟨by decide +kernel, by decide +kernel, by decide +kernel⟩, bg_in 914 (by decide +kernel) rfl, bg_in 11 (by decide +kernel) rfl, by decide +kernel⟩
theorem kt_X1_refusalOfRoll : Cond.instanceMethod yX1_refusalOfRoll ∈ bg_L := bg_in 912 (by decide +kernel) rfl
theorem ke_X1_refusalOfRoll : Cond.selects RX1 yX1_refusalOfRoll yX1_refusalOfRoll ∈ bg_L := bg_in 913 (by decide +kernel) rfl
theorem kc_X1_applyRoll : (yX1_applyRoll.cls ≠ "java/lang/invoke/MethodHandle" ∧ yX1_applyRoll.cls ≠ "java/lang/invoke/VarHandle" ∧ (parseMethodDescriptor yX1_applyRoll.desc).map (fun d => d.parameters.length) = some 2) ∧ Cond.code yX1_applyRoll cX1_applyRoll 3 (some .int) ∈ bg_L ∧ Cond.initialized yX1_applyRoll.cls ∈ bg_L ∧ plainName yX1_applyRoll.cls = true := ⟨⟨by decide +kernel, by decide +kernel, by decide +kernel⟩, bg_in 919 (by decide +kernel) rfl, bg_in 11 (by decide +kernel) rfl, by decide +kernel⟩
theorem kt_X1_applyRoll : Cond.instanceMethod yX1_applyRoll ∈ bg_L := bg_in 917 (by decide +kernel) rfl
theorem ke_X1_applyRoll : Cond.selects RX1 yX1_applyRoll yX1_applyRoll ∈ bg_L := bg_in 918 (by decide +kernel) rfl
theorem kc_X1_refusalOfDust : (yX1_refusalOfDust.cls ≠ "java/lang/invoke/MethodHandle" ∧ yX1_refusalOfDust.cls ≠ "java/lang/invoke/VarHandle" ∧ (parseMethodDescriptor yX1_refusalOfDust.desc).map (fun d => d.parameters.length) = some 1) ∧ Cond.code yX1_refusalOfDust cX1_refusalOfDust 2 (some (.object "PastryBench$Refusal")) ∈ bg_L ∧ Cond.initialized yX1_refusalOfDust.cls ∈ bg_L ∧ plainName yX1_refusalOfDust.cls = true := ⟨⟨by decide +kernel, by decide +kernel, by decide +kernel⟩, bg_in 932 (by decide +kernel) rfl, bg_in 11 (by decide +kernel) rfl, by decide +kernel⟩
theorem kt_X1_refusalOfDust : Cond.instanceMethod yX1_refusalOfDust ∈ bg_L := bg_in 930 (by decide +kernel) rfl
theorem ke_X1_refusalOfDust : Cond.selects RX1 yX1_refusalOfDust yX1_refusalOfDust ∈ bg_L := bg_in 931 (by decide +kernel) rfl
theorem kc_X1_applyDust : (yX1_applyDust.cls ≠ "java/lang/invoke/MethodHandle" ∧ yX1_applyDust.cls ≠ "java/lang/invoke/VarHandle" ∧ (parseMethodDescriptor yX1_applyDust.desc).map (fun d => d.parameters.length) = some 1) ∧ Cond.code yX1_applyDust cX1_applyDust 2 (some .int) ∈ bg_L ∧ Cond.initialized yX1_applyDust.cls ∈ bg_L ∧ plainName yX1_applyDust.cls = true := ⟨⟨by decide +kernel, by decide +kernel, by decide +kernel⟩, bg_in 936 (by decide +kernel) rfl, bg_in 11 (by decide +kernel) rfl, by decide +kernel⟩
theorem kt_X1_applyDust : Cond.instanceMethod yX1_applyDust ∈ bg_L := bg_in 934 (by decide +kernel) rfl
theorem ke_X1_applyDust : Cond.selects RX1 yX1_applyDust yX1_applyDust ∈ bg_L := bg_in 935 (by decide +kernel) rfl
theorem kc_X1_refusalOfSeal : (yX1_refusalOfSeal.cls ≠ "java/lang/invoke/MethodHandle" ∧ yX1_refusalOfSeal.cls ≠ "java/lang/invoke/VarHandle" ∧ (parseMethodDescriptor yX1_refusalOfSeal.desc).map (fun d => d.parameters.length) = some 1) ∧ Cond.code yX1_refusalOfSeal cX1_refusalOfSeal 2 (some (.object "PastryBench$Refusal")) ∈ bg_L ∧ Cond.initialized yX1_refusalOfSeal.cls ∈ bg_L ∧ plainName yX1_refusalOfSeal.cls = true := ⟨⟨by decide +kernel, by decide +kernel, by decide +kernel⟩, bg_in 944 (by decide +kernel) rfl, bg_in 11 (by decide +kernel) rfl, by decide +kernel⟩
theorem kt_X1_refusalOfSeal : Cond.instanceMethod yX1_refusalOfSeal ∈ bg_L := bg_in 942 (by decide +kernel) rfl
theorem ke_X1_refusalOfSeal : Cond.selects RX1 yX1_refusalOfSeal yX1_refusalOfSeal ∈ bg_L := bg_in 943 (by decide +kernel) rfl
theorem kc_X1_applySeal : (yX1_applySeal.cls ≠ "java/lang/invoke/MethodHandle" ∧ yX1_applySeal.cls ≠ "java/lang/invoke/VarHandle" ∧ (parseMethodDescriptor yX1_applySeal.desc).map (fun d => d.parameters.length) = some 1) ∧ Cond.code yX1_applySeal cX1_applySeal 2 (some .int) ∈ bg_L ∧ Cond.initialized yX1_applySeal.cls ∈ bg_L ∧ plainName yX1_applySeal.cls = true := ⟨⟨by decide +kernel, by decide +kernel, by decide +kernel⟩, bg_in 948 (by decide +kernel) rfl, bg_in 11 (by decide +kernel) rfl, by decide +kernel⟩
theorem kt_X1_applySeal : Cond.instanceMethod yX1_applySeal ∈ bg_L := bg_in 946 (by decide +kernel) rfl
theorem ke_X1_applySeal : Cond.selects RX1 yX1_applySeal yX1_applySeal ∈ bg_L := bg_in 947 (by decide +kernel) rfl
theorem kc_X1_refusalOfCool : (yX1_refusalOfCool.cls ≠ "java/lang/invoke/MethodHandle" ∧ yX1_refusalOfCool.cls ≠ "java/lang/invoke/VarHandle" ∧ (parseMethodDescriptor yX1_refusalOfCool.desc).map (fun d => d.parameters.length) = some 1) ∧ Cond.code yX1_refusalOfCool cX1_refusalOfCool 2 (some (.object "PastryBench$Refusal")) ∈ bg_L ∧ Cond.initialized yX1_refusalOfCool.cls ∈ bg_L ∧ plainName yX1_refusalOfCool.cls = true := ⟨⟨by decide +kernel, by decide +kernel, by decide +kernel⟩, bg_in 972 (by decide +kernel) rfl, bg_in 11 (by decide +kernel) rfl, by decide +kernel⟩
theorem kt_X1_refusalOfCool : Cond.instanceMethod yX1_refusalOfCool ∈ bg_L := bg_in 970 (by decide +kernel) rfl
theorem ke_X1_refusalOfCool : Cond.selects RX1 yX1_refusalOfCool yX1_refusalOfCool ∈ bg_L := bg_in 971 (by decide +kernel) rfl
theorem kc_X1_applyCool : (yX1_applyCool.cls ≠ "java/lang/invoke/MethodHandle" ∧ yX1_applyCool.cls ≠ "java/lang/invoke/VarHandle" ∧ (parseMethodDescriptor yX1_applyCool.desc).map (fun d => d.parameters.length) = some 1) ∧ Cond.code yX1_applyCool cX1_applyCool 2 (some .int) ∈ bg_L ∧ Cond.initialized yX1_applyCool.cls ∈ bg_L ∧ plainName yX1_applyCool.cls = true := ⟨⟨by decide +kernel, by decide +kernel, by decide +kernel⟩, bg_in 980 (by decide +kernel) rfl, bg_in 11 (by decide +kernel) rfl, by decide +kernel⟩
theorem kt_X1_applyCool : Cond.instanceMethod yX1_applyCool ∈ bg_L := bg_in 978 (by decide +kernel) rfl
theorem ke_X1_applyCool : Cond.selects RX1 yX1_applyCool yX1_applyCool ∈ bg_L := bg_in 979 (by decide +kernel) rfl
theorem kc_X1_refusalOfTakeOut : (yX1_refusalOfTakeOut.cls ≠ "java/lang/invoke/MethodHandle" ∧ yX1_refusalOfTakeOut.cls ≠ "java/lang/invoke/VarHandle" ∧ (parseMethodDescriptor yX1_refusalOfTakeOut.desc).map (fun d => d.parameters.length) = some 1) ∧ Cond.code yX1_refusalOfTakeOut cX1_refusalOfTakeOut 2 (some (.object "PastryBench$Refusal")) ∈ bg_L ∧ Cond.initialized yX1_refusalOfTakeOut.cls ∈ bg_L ∧ plainName yX1_refusalOfTakeOut.cls = true := ⟨⟨by decide +kernel, by decide +kernel, by decide +kernel⟩, bg_in 960 (by decide +kernel) rfl, bg_in 11 (by decide +kernel) rfl, by decide +kernel⟩
theorem kt_X1_refusalOfTakeOut : Cond.instanceMethod yX1_refusalOfTakeOut ∈ bg_L := bg_in 958 (by decide +kernel) rfl
theorem ke_X1_refusalOfTakeOut : Cond.selects RX1 yX1_refusalOfTakeOut yX1_refusalOfTakeOut ∈ bg_L := bg_in 959 (by decide +kernel) rfl
theorem kc_X1_applyTakeOut : (yX1_applyTakeOut.cls ≠ "java/lang/invoke/MethodHandle" ∧ yX1_applyTakeOut.cls ≠ "java/lang/invoke/VarHandle" ∧ (parseMethodDescriptor yX1_applyTakeOut.desc).map (fun d => d.parameters.length) = some 1) ∧ Cond.code yX1_applyTakeOut cX1_applyTakeOut 2 (some .int) ∈ bg_L ∧ Cond.initialized yX1_applyTakeOut.cls ∈ bg_L ∧ plainName yX1_applyTakeOut.cls = true := ⟨⟨by decide +kernel, by decide +kernel, by decide +kernel⟩, bg_in 964 (by decide +kernel) rfl, bg_in 11 (by decide +kernel) rfl, by decide +kernel⟩
theorem kt_X1_applyTakeOut : Cond.instanceMethod yX1_applyTakeOut ∈ bg_L := bg_in 962 (by decide +kernel) rfl
theorem ke_X1_applyTakeOut : Cond.selects RX1 yX1_applyTakeOut yX1_applyTakeOut ∈ bg_L := bg_in 963 (by decide +kernel) rfl
theorem kc_X1_refusalOfHours : (yX1_refusalOfHours.cls ≠ "java/lang/invoke/MethodHandle" ∧ yX1_refusalOfHours.cls ≠ "java/lang/invoke/VarHandle" ∧ (parseMethodDescriptor yX1_refusalOfHours.desc).map (fun d => d.parameters.length) = some 1) ∧ Cond.code yX1_refusalOfHours cX1_refusalOfHours 2 (some (.object "PastryBench$Refusal")) ∈ bg_L ∧ Cond.initialized yX1_refusalOfHours.cls ∈ bg_L ∧ plainName yX1_refusalOfHours.cls = true := ⟨⟨by decide +kernel, by decide +kernel, by decide +kernel⟩, bg_in 988 (by decide +kernel) rfl, bg_in 11 (by decide +kernel) rfl, by decide +kernel⟩
theorem kt_X1_refusalOfHours : Cond.instanceMethod yX1_refusalOfHours ∈ bg_L := bg_in 986 (by decide +kernel) rfl
theorem ke_X1_refusalOfHours : Cond.selects RX1 yX1_refusalOfHours yX1_refusalOfHours ∈ bg_L := bg_in 987 (by decide +kernel) rfl
theorem kc_X1_applyHours : (yX1_applyHours.cls ≠ "java/lang/invoke/MethodHandle" ∧ yX1_applyHours.cls ≠ "java/lang/invoke/VarHandle" ∧ (parseMethodDescriptor yX1_applyHours.desc).map (fun d => d.parameters.length) = some 1) ∧ Cond.code yX1_applyHours cX1_applyHours 3 (some .int) ∈ bg_L ∧ Cond.initialized yX1_applyHours.cls ∈ bg_L ∧ plainName yX1_applyHours.cls = true := ⟨⟨by decide +kernel, by decide +kernel, by decide +kernel⟩, bg_in 992 (by decide +kernel) rfl, bg_in 11 (by decide +kernel) rfl, by decide +kernel⟩
theorem kt_X1_applyHours : Cond.instanceMethod yX1_applyHours ∈ bg_L := bg_in 990 (by decide +kernel) rfl
theorem ke_X1_applyHours : Cond.selects RX1 yX1_applyHours yX1_applyHours ∈ bg_L := bg_in 991 (by decide +kernel) rfl
theorem kc_X1_refusalOfCut : (yX1_refusalOfCut.cls ≠ "java/lang/invoke/MethodHandle" ∧ yX1_refusalOfCut.cls ≠ "java/lang/invoke/VarHandle" ∧ (parseMethodDescriptor yX1_refusalOfCut.desc).map (fun d => d.parameters.length) = some 1) ∧ Cond.code yX1_refusalOfCut cX1_refusalOfCut 2 (some (.object "PastryBench$Refusal")) ∈ bg_L ∧ Cond.initialized yX1_refusalOfCut.cls ∈ bg_L ∧ plainName yX1_refusalOfCut.cls = true := ⟨⟨by decide +kernel, by decide +kernel, by decide +kernel⟩, bg_in 1005 (by decide +kernel) rfl, bg_in 11 (by decide +kernel) rfl, by decide +kernel⟩
theorem kt_X1_refusalOfCut : Cond.instanceMethod yX1_refusalOfCut ∈ bg_L := bg_in 1003 (by decide +kernel) rfl
theorem ke_X1_refusalOfCut : Cond.selects RX1 yX1_refusalOfCut yX1_refusalOfCut ∈ bg_L := bg_in 1004 (by decide +kernel) rfl
theorem kc_X1_applyCut : (yX1_applyCut.cls ≠ "java/lang/invoke/MethodHandle" ∧ yX1_applyCut.cls ≠ "java/lang/invoke/VarHandle" ∧ (parseMethodDescriptor yX1_applyCut.desc).map (fun d => d.parameters.length) = some 1) ∧ Cond.code yX1_applyCut cX1_applyCut 3 (some .int) ∈ bg_L ∧ Cond.initialized yX1_applyCut.cls ∈ bg_L ∧ plainName yX1_applyCut.cls = true := ⟨⟨by decide +kernel, by decide +kernel, by decide +kernel⟩, bg_in 1009 (by decide +kernel) rfl, bg_in 11 (by decide +kernel) rfl, by decide +kernel⟩
theorem kt_X1_applyCut : Cond.instanceMethod yX1_applyCut ∈ bg_L := bg_in 1007 (by decide +kernel) rfl
theorem ke_X1_applyCut : Cond.selects RX1 yX1_applyCut yX1_applyCut ∈ bg_L := bg_in 1008 (by decide +kernel) rfl
theorem kc_X1_refusalOfStack : (yX1_refusalOfStack.cls ≠ "java/lang/invoke/MethodHandle" ∧ yX1_refusalOfStack.cls ≠ "java/lang/invoke/VarHandle" ∧ (parseMethodDescriptor yX1_refusalOfStack.desc).map (fun d => d.parameters.length) = some 2) ∧ Cond.code yX1_refusalOfStack cX1_refusalOfStack 7 (some (.object "PastryBench$Refusal")) ∈ bg_L ∧ Cond.initialized yX1_refusalOfStack.cls ∈ bg_L ∧ plainName yX1_refusalOfStack.cls = true := ⟨⟨by decide +kernel, by decide +kernel, by decide +kernel⟩, bg_in 1017 (by decide +kernel) rfl, bg_in 11 (by decide +kernel) rfl, by decide +kernel⟩
theorem kt_X1_refusalOfStack : Cond.instanceMethod yX1_refusalOfStack ∈ bg_L := bg_in 1015 (by decide +kernel) rfl
theorem ke_X1_refusalOfStack : Cond.selects RX1 yX1_refusalOfStack yX1_refusalOfStack ∈ bg_L := bg_in 1016 (by decide +kernel) rfl
theorem kc_X1_applyStack : (yX1_applyStack.cls ≠ "java/lang/invoke/MethodHandle" ∧ yX1_applyStack.cls ≠ "java/lang/invoke/VarHandle" ∧ (parseMethodDescriptor yX1_applyStack.desc).map (fun d => d.parameters.length) = some 2) ∧ Cond.code yX1_applyStack cX1_applyStack 4 (some .int) ∈ bg_L ∧ Cond.initialized yX1_applyStack.cls ∈ bg_L ∧ plainName yX1_applyStack.cls = true := ⟨⟨by decide +kernel, by decide +kernel, by decide +kernel⟩, bg_in 1030 (by decide +kernel) rfl, bg_in 11 (by decide +kernel) rfl, by decide +kernel⟩
theorem kt_X1_applyStack : Cond.instanceMethod yX1_applyStack ∈ bg_L := bg_in 1028 (by decide +kernel) rfl
theorem ke_X1_applyStack : Cond.selects RX1 yX1_applyStack yX1_applyStack ∈ bg_L := bg_in 1029 (by decide +kernel) rfl
theorem kc_X1_refusalOfButter : (yX1_refusalOfButter.cls ≠ "java/lang/invoke/MethodHandle" ∧ yX1_refusalOfButter.cls ≠ "java/lang/invoke/VarHandle" ∧ (parseMethodDescriptor yX1_refusalOfButter.desc).map (fun d => d.parameters.length) = some 2) ∧ Cond.code yX1_refusalOfButter cX1_refusalOfButter 5 (some (.object "PastryBench$Refusal")) ∈ bg_L ∧ Cond.initialized yX1_refusalOfButter.cls ∈ bg_L ∧ plainName yX1_refusalOfButter.cls = true := ⟨⟨by decide +kernel, by decide +kernel, by decide +kernel⟩, bg_in 1046 (by decide +kernel) rfl, bg_in 11 (by decide +kernel) rfl, by decide +kernel⟩
theorem kt_X1_refusalOfButter : Cond.instanceMethod yX1_refusalOfButter ∈ bg_L := bg_in 1044 (by decide +kernel) rfl
theorem ke_X1_refusalOfButter : Cond.selects RX1 yX1_refusalOfButter yX1_refusalOfButter ∈ bg_L := bg_in 1045 (by decide +kernel) rfl
theorem kc_X1_applyButter : (yX1_applyButter.cls ≠ "java/lang/invoke/MethodHandle" ∧ yX1_applyButter.cls ≠ "java/lang/invoke/VarHandle" ∧ (parseMethodDescriptor yX1_applyButter.desc).map (fun d => d.parameters.length) = some 2) ∧ Cond.code yX1_applyButter cX1_applyButter 3 (some .int) ∈ bg_L ∧ Cond.initialized yX1_applyButter.cls ∈ bg_L ∧ plainName yX1_applyButter.cls = true := ⟨⟨by decide +kernel, by decide +kernel, by decide +kernel⟩, bg_in 1050 (by decide +kernel) rfl, bg_in 11 (by decide +kernel) rfl, by decide +kernel⟩
theorem kt_X1_applyButter : Cond.instanceMethod yX1_applyButter ∈ bg_L := bg_in 1048 (by decide +kernel) rfl
theorem ke_X1_applyButter : Cond.selects RX1 yX1_applyButter yX1_applyButter ∈ bg_L := bg_in 1049 (by decide +kernel) rfl
theorem kc_X1_refusalOfFlour : (yX1_refusalOfFlour.cls ≠ "java/lang/invoke/MethodHandle" ∧ yX1_refusalOfFlour.cls ≠ "java/lang/invoke/VarHandle" ∧ (parseMethodDescriptor yX1_refusalOfFlour.desc).map (fun d => d.parameters.length) = some 1) ∧ Cond.code yX1_refusalOfFlour cX1_refusalOfFlour 2 (some (.object "PastryBench$Refusal")) ∈ bg_L ∧ Cond.initialized yX1_refusalOfFlour.cls ∈ bg_L ∧ plainName yX1_refusalOfFlour.cls = true := ⟨⟨by decide +kernel, by decide +kernel, by decide +kernel⟩, bg_in 836 (by decide +kernel) rfl, bg_in 11 (by decide +kernel) rfl, by decide +kernel⟩
theorem kt_X1_refusalOfFlour : Cond.instanceMethod yX1_refusalOfFlour ∈ bg_L := bg_in 834 (by decide +kernel) rfl
theorem ke_X1_refusalOfFlour : Cond.selects RX1 yX1_refusalOfFlour yX1_refusalOfFlour ∈ bg_L := bg_in 835 (by decide +kernel) rfl
theorem kc_X1_applyFlour : (yX1_applyFlour.cls ≠ "java/lang/invoke/MethodHandle" ∧ yX1_applyFlour.cls ≠ "java/lang/invoke/VarHandle" ∧ (parseMethodDescriptor yX1_applyFlour.desc).map (fun d => d.parameters.length) = some 1) ∧ Cond.code yX1_applyFlour cX1_applyFlour 2 (some .int) ∈ bg_L ∧ Cond.initialized yX1_applyFlour.cls ∈ bg_L ∧ plainName yX1_applyFlour.cls = true := ⟨⟨by decide +kernel, by decide +kernel, by decide +kernel⟩, bg_in 866 (by decide +kernel) rfl, bg_in 11 (by decide +kernel) rfl, by decide +kernel⟩
theorem kt_X1_applyFlour : Cond.instanceMethod yX1_applyFlour ∈ bg_L := bg_in 864 (by decide +kernel) rfl
theorem ke_X1_applyFlour : Cond.selects RX1 yX1_applyFlour yX1_applyFlour ∈ bg_L := bg_in 865 (by decide +kernel) rfl
theorem kc_X3_takeBack : (yX3_takeBack.cls ≠ "java/lang/invoke/MethodHandle" ∧ yX3_takeBack.cls ≠ "java/lang/invoke/VarHandle" ∧ (parseMethodDescriptor yX3_takeBack.desc).map (fun d => d.parameters.length) = some 1) ∧ Cond.code yX3_takeBack cX3_takeBack 2 none ∈ bg_L ∧ Cond.initialized yX3_takeBack.cls ∈ bg_L ∧ plainName yX3_takeBack.cls = true := ⟨⟨by decide +kernel, by decide +kernel, by decide +kernel⟩, bg_in 540 (by decide +kernel) rfl, bg_in 13 (by decide +kernel) rfl, by decide +kernel⟩
theorem kt_X3_takeBack : Cond.instanceMethod yX3_takeBack ∈ bg_L := bg_in 538 (by decide +kernel) rfl
theorem ke_X3_takeBack : Cond.selects RX3 yX3_takeBack yX3_takeBack ∈ bg_L := bg_in 539 (by decide +kernel) rfl
theorem kc_J2_newBytesLength_0f7a4 : (yJ2_newBytesLength_0f7a4.cls ≠ "java/lang/invoke/MethodHandle" ∧ yJ2_newBytesLength_0f7a4.cls ≠ "java/lang/invoke/VarHandle" ∧ (parseMethodDescriptor yJ2_newBytesLength_0f7a4.desc).map (fun d => d.parameters.length) = some 1) ∧ Cond.code yJ2_newBytesLength_0f7a4 cJ2_newBytesLength_0f7a4 1 (some .int) ∈ bg_L ∧ Cond.initialized yJ2_newBytesLength_0f7a4.cls ∈ bg_L ∧ plainName yJ2_newBytesLength_0f7a4.cls = true := ⟨⟨by decide +kernel, by decide +kernel, by decide +kernel⟩, bg_in 1073 (by decide +kernel) rfl, bg_in 18 (by decide +kernel) rfl, by decide +kernel⟩
theorem kt_J2_newBytesLength_0f7a4 : Cond.static yJ2_newBytesLength_0f7a4 ∈ bg_L := bg_in 1072 (by decide +kernel) rfl
theorem kc_J8_hugeLength_7cf53 : (yJ8_hugeLength_7cf53.cls ≠ "java/lang/invoke/MethodHandle" ∧ yJ8_hugeLength_7cf53.cls ≠ "java/lang/invoke/VarHandle" ∧ (parseMethodDescriptor yJ8_hugeLength_7cf53.desc).map (fun d => d.parameters.length) = some 2) ∧ Cond.code yJ8_hugeLength_7cf53 cJ8_hugeLength_7cf53 3 (some .int) ∈ bg_L ∧ Cond.initialized yJ8_hugeLength_7cf53.cls ∈ bg_L ∧ plainName yJ8_hugeLength_7cf53.cls = true := ⟨⟨by decide +kernel, by decide +kernel, by decide +kernel⟩, bg_in 1107 (by decide +kernel) rfl, bg_in 19 (by decide +kernel) rfl, by decide +kernel⟩
theorem kt_J8_hugeLength_7cf53 : Cond.static yJ8_hugeLength_7cf53 ∈ bg_L := bg_in 1106 (by decide +kernel) rfl
theorem kc_J8_newLength_cabcc : (yJ8_newLength_cabcc.cls ≠ "java/lang/invoke/MethodHandle" ∧ yJ8_newLength_cabcc.cls ≠ "java/lang/invoke/VarHandle" ∧ (parseMethodDescriptor yJ8_newLength_cabcc.desc).map (fun d => d.parameters.length) = some 3) ∧ Cond.code yJ8_newLength_cabcc cJ8_newLength_cabcc 4 (some .int) ∈ bg_L ∧ Cond.initialized yJ8_newLength_cabcc.cls ∈ bg_L ∧ plainName yJ8_newLength_cabcc.cls = true := ⟨⟨by decide +kernel, by decide +kernel, by decide +kernel⟩, bg_in 1102 (by decide +kernel) rfl, bg_in 19 (by decide +kernel) rfl, by decide +kernel⟩
theorem kt_J8_newLength_cabcc : Cond.static yJ8_newLength_cabcc ∈ bg_L := bg_in 1101 (by decide +kernel) rfl
theorem kc_J5_newCapacity_0f7a4 : (yJ5_newCapacity_0f7a4.cls ≠ "java/lang/invoke/MethodHandle" ∧ yJ5_newCapacity_0f7a4.cls ≠ "java/lang/invoke/VarHandle" ∧ (parseMethodDescriptor yJ5_newCapacity_0f7a4.desc).map (fun d => d.parameters.length) = some 1) ∧ Cond.code yJ5_newCapacity_0f7a4 cJ5_newCapacity_0f7a4 6 (some .int) ∈ bg_L ∧ Cond.initialized yJ5_newCapacity_0f7a4.cls ∈ bg_L ∧ plainName yJ5_newCapacity_0f7a4.cls = true := ⟨⟨by decide +kernel, by decide +kernel, by decide +kernel⟩, bg_in 1099 (by decide +kernel) rfl, bg_in 15 (by decide +kernel) rfl, by decide +kernel⟩
theorem kt_J5_newCapacity_0f7a4 : Cond.instanceMethod yJ5_newCapacity_0f7a4 ∈ bg_L := bg_in 1098 (by decide +kernel) rfl
theorem kc_J7_copyOf_9075b : (yJ7_copyOf_9075b.cls ≠ "java/lang/invoke/MethodHandle" ∧ yJ7_copyOf_9075b.cls ≠ "java/lang/invoke/VarHandle" ∧ (parseMethodDescriptor yJ7_copyOf_9075b.desc).map (fun d => d.parameters.length) = some 2) ∧ Cond.code yJ7_copyOf_9075b cJ7_copyOf_9075b 3 (some (.array .byte)) ∈ bg_L ∧ Cond.initialized yJ7_copyOf_9075b.cls ∈ bg_L ∧ plainName yJ7_copyOf_9075b.cls = true := ⟨⟨by decide +kernel, by decide +kernel, by decide +kernel⟩, bg_in 1110 (by decide +kernel) rfl, bg_in 21 (by decide +kernel) rfl, by decide +kernel⟩
theorem kt_J7_copyOf_9075b : Cond.static yJ7_copyOf_9075b ∈ bg_L := bg_in 1109 (by decide +kernel) rfl
theorem kc_J3_checkFromToIndex_8c36e : (yJ3_checkFromToIndex_8c36e.cls ≠ "java/lang/invoke/MethodHandle" ∧ yJ3_checkFromToIndex_8c36e.cls ≠ "java/lang/invoke/VarHandle" ∧ (parseMethodDescriptor yJ3_checkFromToIndex_8c36e.desc).map (fun d => d.parameters.length) = some 4) ∧ Cond.code yJ3_checkFromToIndex_8c36e cJ3_checkFromToIndex_8c36e 4 (some .int) ∈ bg_L ∧ Cond.initialized yJ3_checkFromToIndex_8c36e.cls ∈ bg_L ∧ plainName yJ3_checkFromToIndex_8c36e.cls = true := ⟨⟨by decide +kernel, by decide +kernel, by decide +kernel⟩, bg_in 1139 (by decide +kernel) rfl, bg_in 23 (by decide +kernel) rfl, by decide +kernel⟩
theorem kt_J3_checkFromToIndex_8c36e : Cond.static yJ3_checkFromToIndex_8c36e ∈ bg_L := bg_in 1138 (by decide +kernel) rfl
theorem kc_J0_checkBoundsBeginEnd_23922 : (yJ0_checkBoundsBeginEnd_23922.cls ≠ "java/lang/invoke/MethodHandle" ∧ yJ0_checkBoundsBeginEnd_23922.cls ≠ "java/lang/invoke/VarHandle" ∧ (parseMethodDescriptor yJ0_checkBoundsBeginEnd_23922.desc).map (fun d => d.parameters.length) = some 3) ∧ Cond.code yJ0_checkBoundsBeginEnd_23922 cJ0_checkBoundsBeginEnd_23922 3 none ∈ bg_L ∧ Cond.initialized yJ0_checkBoundsBeginEnd_23922.cls ∈ bg_L ∧ plainName yJ0_checkBoundsBeginEnd_23922.cls = true := ⟨⟨by decide +kernel, by decide +kernel, by decide +kernel⟩, bg_in 1136 (by decide +kernel) rfl, bg_in 17 (by decide +kernel) rfl, by decide +kernel⟩
theorem kt_J0_checkBoundsBeginEnd_23922 : Cond.static yJ0_checkBoundsBeginEnd_23922 ∈ bg_L := bg_in 1135 (by decide +kernel) rfl
theorem kc_J2_checkBoundsBeginEnd_d044e : (yJ2_checkBoundsBeginEnd_d044e.cls ≠ "java/lang/invoke/MethodHandle" ∧ yJ2_checkBoundsBeginEnd_d044e.cls ≠ "java/lang/invoke/VarHandle" ∧ (parseMethodDescriptor yJ2_checkBoundsBeginEnd_d044e.desc).map (fun d => d.parameters.length) = some 3) ∧ Cond.code yJ2_checkBoundsBeginEnd_d044e cJ2_checkBoundsBeginEnd_d044e 3 none ∈ bg_L ∧ Cond.initialized yJ2_checkBoundsBeginEnd_d044e.cls ∈ bg_L ∧ plainName yJ2_checkBoundsBeginEnd_d044e.cls = true := ⟨⟨by decide +kernel, by decide +kernel, by decide +kernel⟩, bg_in 1133 (by decide +kernel) rfl, bg_in 18 (by decide +kernel) rfl, by decide +kernel⟩
theorem kt_J2_checkBoundsBeginEnd_d044e : Cond.static yJ2_checkBoundsBeginEnd_d044e ∈ bg_L := bg_in 1132 (by decide +kernel) rfl
theorem kc_J2_putChar_b72d1 : (yJ2_putChar_b72d1.cls ≠ "java/lang/invoke/MethodHandle" ∧ yJ2_putChar_b72d1.cls ≠ "java/lang/invoke/VarHandle" ∧ (parseMethodDescriptor yJ2_putChar_b72d1.desc).map (fun d => d.parameters.length) = some 3) ∧ Cond.code yJ2_putChar_b72d1 cJ2_putChar_b72d1 3 none ∈ bg_L ∧ Cond.initialized yJ2_putChar_b72d1.cls ∈ bg_L ∧ plainName yJ2_putChar_b72d1.cls = true := ⟨⟨by decide +kernel, by decide +kernel, by decide +kernel⟩, bg_in 1142 (by decide +kernel) rfl, bg_in 18 (by decide +kernel) rfl, by decide +kernel⟩
theorem kt_J2_putChar_b72d1 : Cond.static yJ2_putChar_b72d1 ∈ bg_L := bg_in 1141 (by decide +kernel) rfl
theorem kc_J5_ensureCapacityInternal_d00df : (yJ5_ensureCapacityInternal_d00df.cls ≠ "java/lang/invoke/MethodHandle" ∧ yJ5_ensureCapacityInternal_d00df.cls ≠ "java/lang/invoke/VarHandle" ∧ (parseMethodDescriptor yJ5_ensureCapacityInternal_d00df.desc).map (fun d => d.parameters.length) = some 1) ∧ Cond.code yJ5_ensureCapacityInternal_d00df cJ5_ensureCapacityInternal_d00df 3 none ∈ bg_L ∧ Cond.initialized yJ5_ensureCapacityInternal_d00df.cls ∈ bg_L ∧ plainName yJ5_ensureCapacityInternal_d00df.cls = true := ⟨⟨by decide +kernel, by decide +kernel, by decide +kernel⟩, bg_in 1095 (by decide +kernel) rfl, bg_in 15 (by decide +kernel) rfl, by decide +kernel⟩
theorem kt_J5_ensureCapacityInternal_d00df : Cond.instanceMethod yJ5_ensureCapacityInternal_d00df ∈ bg_L := bg_in 1094 (by decide +kernel) rfl
theorem kc_J5_isLatin1_aae02 : (yJ5_isLatin1_aae02.cls ≠ "java/lang/invoke/MethodHandle" ∧ yJ5_isLatin1_aae02.cls ≠ "java/lang/invoke/VarHandle" ∧ (parseMethodDescriptor yJ5_isLatin1_aae02.desc).map (fun d => d.parameters.length) = some 0) ∧ Cond.code yJ5_isLatin1_aae02 cJ5_isLatin1_aae02 1 (some .boolean) ∈ bg_L ∧ Cond.initialized yJ5_isLatin1_aae02.cls ∈ bg_L ∧ plainName yJ5_isLatin1_aae02.cls = true := ⟨⟨by decide +kernel, by decide +kernel, by decide +kernel⟩, bg_in 1126 (by decide +kernel) rfl, bg_in 15 (by decide +kernel) rfl, by decide +kernel⟩
theorem kt_J5_isLatin1_aae02 : Cond.instanceMethod yJ5_isLatin1_aae02 ∈ bg_L := bg_in 1123 (by decide +kernel) rfl
theorem kc_J2_putCharsAt_cd4e5 : (yJ2_putCharsAt_cd4e5.cls ≠ "java/lang/invoke/MethodHandle" ∧ yJ2_putCharsAt_cd4e5.cls ≠ "java/lang/invoke/VarHandle" ∧ (parseMethodDescriptor yJ2_putCharsAt_cd4e5.desc).map (fun d => d.parameters.length) = some 6) ∧ Cond.code yJ2_putCharsAt_cd4e5 cJ2_putCharsAt_cd4e5 7 (some .int) ∈ bg_L ∧ Cond.initialized yJ2_putCharsAt_cd4e5.cls ∈ bg_L ∧ plainName yJ2_putCharsAt_cd4e5.cls = true := ⟨⟨by decide +kernel, by decide +kernel, by decide +kernel⟩, bg_in 1130 (by decide +kernel) rfl, bg_in 18 (by decide +kernel) rfl, by decide +kernel⟩
theorem kt_J2_putCharsAt_cd4e5 : Cond.static yJ2_putCharsAt_cd4e5 ∈ bg_L := bg_in 1129 (by decide +kernel) rfl
theorem kc_J3_checkFromIndexSize_8c36e : (yJ3_checkFromIndexSize_8c36e.cls ≠ "java/lang/invoke/MethodHandle" ∧ yJ3_checkFromIndexSize_8c36e.cls ≠ "java/lang/invoke/VarHandle" ∧ (parseMethodDescriptor yJ3_checkFromIndexSize_8c36e.desc).map (fun d => d.parameters.length) = some 4) ∧ Cond.code yJ3_checkFromIndexSize_8c36e cJ3_checkFromIndexSize_8c36e 4 (some .int) ∈ bg_L ∧ Cond.initialized yJ3_checkFromIndexSize_8c36e.cls ∈ bg_L ∧ plainName yJ3_checkFromIndexSize_8c36e.cls = true := ⟨⟨by decide +kernel, by decide +kernel, by decide +kernel⟩, bg_in 1169 (by decide +kernel) rfl, bg_in 23 (by decide +kernel) rfl, by decide +kernel⟩
theorem kt_J3_checkFromIndexSize_8c36e : Cond.static yJ3_checkFromIndexSize_8c36e ∈ bg_L := bg_in 1168 (by decide +kernel) rfl
theorem kc_J0_checkBoundsOffCount_cabcc : (yJ0_checkBoundsOffCount_cabcc.cls ≠ "java/lang/invoke/MethodHandle" ∧ yJ0_checkBoundsOffCount_cabcc.cls ≠ "java/lang/invoke/VarHandle" ∧ (parseMethodDescriptor yJ0_checkBoundsOffCount_cabcc.desc).map (fun d => d.parameters.length) = some 3) ∧ Cond.code yJ0_checkBoundsOffCount_cabcc cJ0_checkBoundsOffCount_cabcc 3 (some .int) ∈ bg_L ∧ Cond.initialized yJ0_checkBoundsOffCount_cabcc.cls ∈ bg_L ∧ plainName yJ0_checkBoundsOffCount_cabcc.cls = true := ⟨⟨by decide +kernel, by decide +kernel, by decide +kernel⟩, bg_in 1166 (by decide +kernel) rfl, bg_in 17 (by decide +kernel) rfl, by decide +kernel⟩
theorem kt_J0_checkBoundsOffCount_cabcc : Cond.static yJ0_checkBoundsOffCount_cabcc ∈ bg_L := bg_in 1165 (by decide +kernel) rfl
theorem kc_J2_checkBoundsOffCount_d044e : (yJ2_checkBoundsOffCount_d044e.cls ≠ "java/lang/invoke/MethodHandle" ∧ yJ2_checkBoundsOffCount_d044e.cls ≠ "java/lang/invoke/VarHandle" ∧ (parseMethodDescriptor yJ2_checkBoundsOffCount_d044e.desc).map (fun d => d.parameters.length) = some 3) ∧ Cond.code yJ2_checkBoundsOffCount_d044e cJ2_checkBoundsOffCount_d044e 3 none ∈ bg_L ∧ Cond.initialized yJ2_checkBoundsOffCount_d044e.cls ∈ bg_L ∧ plainName yJ2_checkBoundsOffCount_d044e.cls = true := ⟨⟨by decide +kernel, by decide +kernel, by decide +kernel⟩, bg_in 1163 (by decide +kernel) rfl, bg_in 18 (by decide +kernel) rfl, by decide +kernel⟩
theorem kt_J2_checkBoundsOffCount_d044e : Cond.static yJ2_checkBoundsOffCount_d044e ∈ bg_L := bg_in 1162 (by decide +kernel) rfl
theorem kc_J2_inflate_0e8fd : (yJ2_inflate_0e8fd.cls ≠ "java/lang/invoke/MethodHandle" ∧ yJ2_inflate_0e8fd.cls ≠ "java/lang/invoke/VarHandle" ∧ (parseMethodDescriptor yJ2_inflate_0e8fd.desc).map (fun d => d.parameters.length) = some 5) ∧ Cond.code yJ2_inflate_0e8fd cJ2_inflate_0e8fd 6 none ∈ bg_L ∧ Cond.initialized yJ2_inflate_0e8fd.cls ∈ bg_L ∧ plainName yJ2_inflate_0e8fd.cls = true := ⟨⟨by decide +kernel, by decide +kernel, by decide +kernel⟩, bg_in 1160 (by decide +kernel) rfl, bg_in 18 (by decide +kernel) rfl, by decide +kernel⟩
theorem kt_J2_inflate_0e8fd : Cond.static yJ2_inflate_0e8fd ∈ bg_L := bg_in 1159 (by decide +kernel) rfl
theorem kc_J2_newBytesFor_77867 : (yJ2_newBytesFor_77867.cls ≠ "java/lang/invoke/MethodHandle" ∧ yJ2_newBytesFor_77867.cls ≠ "java/lang/invoke/VarHandle" ∧ (parseMethodDescriptor yJ2_newBytesFor_77867.desc).map (fun d => d.parameters.length) = some 1) ∧ Cond.code yJ2_newBytesFor_77867 cJ2_newBytesFor_77867 1 (some (.array .byte)) ∈ bg_L ∧ Cond.initialized yJ2_newBytesFor_77867.cls ∈ bg_L ∧ plainName yJ2_newBytesFor_77867.cls = true := ⟨⟨by decide +kernel, by decide +kernel, by decide +kernel⟩, bg_in 1070 (by decide +kernel) rfl, bg_in 18 (by decide +kernel) rfl, by decide +kernel⟩
theorem kt_J2_newBytesFor_77867 : Cond.static yJ2_newBytesFor_77867 ∈ bg_L := bg_in 1069 (by decide +kernel) rfl
theorem kc_J1_inflate_0e8fd : (yJ1_inflate_0e8fd.cls ≠ "java/lang/invoke/MethodHandle" ∧ yJ1_inflate_0e8fd.cls ≠ "java/lang/invoke/VarHandle" ∧ (parseMethodDescriptor yJ1_inflate_0e8fd.desc).map (fun d => d.parameters.length) = some 5) ∧ Cond.code yJ1_inflate_0e8fd cJ1_inflate_0e8fd 5 none ∈ bg_L ∧ Cond.initialized yJ1_inflate_0e8fd.cls ∈ bg_L ∧ plainName yJ1_inflate_0e8fd.cls = true := ⟨⟨by decide +kernel, by decide +kernel, by decide +kernel⟩, bg_in 1157 (by decide +kernel) rfl, bg_in 24 (by decide +kernel) rfl, by decide +kernel⟩
theorem kt_J1_inflate_0e8fd : Cond.static yJ1_inflate_0e8fd ∈ bg_L := bg_in 1156 (by decide +kernel) rfl
theorem kc_J5_inflate_da8c8 : (yJ5_inflate_da8c8.cls ≠ "java/lang/invoke/MethodHandle" ∧ yJ5_inflate_da8c8.cls ≠ "java/lang/invoke/VarHandle" ∧ (parseMethodDescriptor yJ5_inflate_da8c8.desc).map (fun d => d.parameters.length) = some 0) ∧ Cond.code yJ5_inflate_da8c8 cJ5_inflate_da8c8 2 none ∈ bg_L ∧ Cond.initialized yJ5_inflate_da8c8.cls ∈ bg_L ∧ plainName yJ5_inflate_da8c8.cls = true := ⟨⟨by decide +kernel, by decide +kernel, by decide +kernel⟩, bg_in 1154 (by decide +kernel) rfl, bg_in 15 (by decide +kernel) rfl, by decide +kernel⟩
theorem kt_J5_inflate_da8c8 : Cond.instanceMethod yJ5_inflate_da8c8 ∈ bg_L := bg_in 1153 (by decide +kernel) rfl
theorem kc_J5_inflateIfNeededFor_a7421 : (yJ5_inflateIfNeededFor_a7421.cls ≠ "java/lang/invoke/MethodHandle" ∧ yJ5_inflateIfNeededFor_a7421.cls ≠ "java/lang/invoke/VarHandle" ∧ (parseMethodDescriptor yJ5_inflateIfNeededFor_a7421.desc).map (fun d => d.parameters.length) = some 1) ∧ Cond.code yJ5_inflateIfNeededFor_a7421 cJ5_inflateIfNeededFor_a7421 2 none ∈ bg_L ∧ Cond.initialized yJ5_inflateIfNeededFor_a7421.cls ∈ bg_L ∧ plainName yJ5_inflateIfNeededFor_a7421.cls = true := ⟨⟨by decide +kernel, by decide +kernel, by decide +kernel⟩, bg_in 1150 (by decide +kernel) rfl, bg_in 15 (by decide +kernel) rfl, by decide +kernel⟩
theorem kt_J5_inflateIfNeededFor_a7421 : Cond.instanceMethod yJ5_inflateIfNeededFor_a7421 ∈ bg_L := bg_in 1149 (by decide +kernel) rfl
theorem kc_J0_getBytes_840e7 : (yJ0_getBytes_840e7.cls ≠ "java/lang/invoke/MethodHandle" ∧ yJ0_getBytes_840e7.cls ≠ "java/lang/invoke/VarHandle" ∧ (parseMethodDescriptor yJ0_getBytes_840e7.desc).map (fun d => d.parameters.length) = some 3) ∧ Cond.code yJ0_getBytes_840e7 cJ0_getBytes_840e7 4 none ∈ bg_L ∧ Cond.initialized yJ0_getBytes_840e7.cls ∈ bg_L ∧ plainName yJ0_getBytes_840e7.cls = true := ⟨⟨by decide +kernel, by decide +kernel, by decide +kernel⟩, bg_in 1173 (by decide +kernel) rfl, bg_in 17 (by decide +kernel) rfl, by decide +kernel⟩
theorem kt_J0_getBytes_840e7 : Cond.instanceMethod yJ0_getBytes_840e7 ∈ bg_L := bg_in 1171 (by decide +kernel) rfl
theorem ke_J0_getBytes_840e7 : Cond.selects RJ0 yJ0_getBytes_840e7 yJ0_getBytes_840e7 ∈ bg_L := bg_in 1172 (by decide +kernel) rfl
theorem kc_J5_appendNull_278bc : (yJ5_appendNull_278bc.cls ≠ "java/lang/invoke/MethodHandle" ∧ yJ5_appendNull_278bc.cls ≠ "java/lang/invoke/VarHandle" ∧ (parseMethodDescriptor yJ5_appendNull_278bc.desc).map (fun d => d.parameters.length) = some 0) ∧ Cond.code yJ5_appendNull_278bc cJ5_appendNull_278bc 3 (some (.object "java/lang/AbstractStringBuilder")) ∈ bg_L ∧ Cond.initialized yJ5_appendNull_278bc.cls ∈ bg_L ∧ plainName yJ5_appendNull_278bc.cls = true := ⟨⟨by decide +kernel, by decide +kernel, by decide +kernel⟩, bg_in 1091 (by decide +kernel) rfl, bg_in 15 (by decide +kernel) rfl, by decide +kernel⟩
theorem kt_J5_appendNull_278bc : Cond.instanceMethod yJ5_appendNull_278bc ∈ bg_L := bg_in 1090 (by decide +kernel) rfl
theorem kc_J5_putStringAt_47b60 : (yJ5_putStringAt_47b60.cls ≠ "java/lang/invoke/MethodHandle" ∧ yJ5_putStringAt_47b60.cls ≠ "java/lang/invoke/VarHandle" ∧ (parseMethodDescriptor yJ5_putStringAt_47b60.desc).map (fun d => d.parameters.length) = some 2) ∧ Cond.code yJ5_putStringAt_47b60 cJ5_putStringAt_47b60 3 none ∈ bg_L ∧ Cond.initialized yJ5_putStringAt_47b60.cls ∈ bg_L ∧ plainName yJ5_putStringAt_47b60.cls = true := ⟨⟨by decide +kernel, by decide +kernel, by decide +kernel⟩, bg_in 1146 (by decide +kernel) rfl, bg_in 15 (by decide +kernel) rfl, by decide +kernel⟩
theorem kt_J5_putStringAt_47b60 : Cond.instanceMethod yJ5_putStringAt_47b60 ∈ bg_L := bg_in 1145 (by decide +kernel) rfl
theorem kc_J5_append_cf1ce : (yJ5_append_cf1ce.cls ≠ "java/lang/invoke/MethodHandle" ∧ yJ5_append_cf1ce.cls ≠ "java/lang/invoke/VarHandle" ∧ (parseMethodDescriptor yJ5_append_cf1ce.desc).map (fun d => d.parameters.length) = some 1) ∧ Cond.code yJ5_append_cf1ce cJ5_append_cf1ce 3 (some (.object "java/lang/AbstractStringBuilder")) ∈ bg_L ∧ Cond.initialized yJ5_append_cf1ce.cls ∈ bg_L ∧ plainName yJ5_append_cf1ce.cls = true := ⟨⟨by decide +kernel, by decide +kernel, by decide +kernel⟩, bg_in 1087 (by decide +kernel) rfl, bg_in 15 (by decide +kernel) rfl, by decide +kernel⟩
theorem kt_J5_append_cf1ce : Cond.instanceMethod yJ5_append_cf1ce ∈ bg_L := bg_in 1076 (by decide +kernel) rfl
theorem kc_J4_append_15ec4 : (yJ4_append_15ec4.cls ≠ "java/lang/invoke/MethodHandle" ∧ yJ4_append_15ec4.cls ≠ "java/lang/invoke/VarHandle" ∧ (parseMethodDescriptor yJ4_append_15ec4.desc).map (fun d => d.parameters.length) = some 1) ∧ Cond.code yJ4_append_15ec4 cJ4_append_15ec4 2 (some (.object "java/lang/StringBuilder")) ∈ bg_L ∧ Cond.initialized yJ4_append_15ec4.cls ∈ bg_L ∧ plainName yJ4_append_15ec4.cls = true := ⟨⟨by decide +kernel, by decide +kernel, by decide +kernel⟩, bg_in 1084 (by decide +kernel) rfl, bg_in 16 (by decide +kernel) rfl, by decide +kernel⟩
theorem kt_J4_append_15ec4 : Cond.instanceMethod yJ4_append_15ec4 ∈ bg_L := bg_in 1082 (by decide +kernel) rfl
theorem ke_J4_append_15ec4 : Cond.selects RJ4 yJ4_append_15ec4 yJ4_append_15ec4 ∈ bg_L := bg_in 1083 (by decide +kernel) rfl
theorem kc_J1_canEncode_fc78d : (yJ1_canEncode_fc78d.cls ≠ "java/lang/invoke/MethodHandle" ∧ yJ1_canEncode_fc78d.cls ≠ "java/lang/invoke/VarHandle" ∧ (parseMethodDescriptor yJ1_canEncode_fc78d.desc).map (fun d => d.parameters.length) = some 1) ∧ Cond.code yJ1_canEncode_fc78d cJ1_canEncode_fc78d 1 (some .boolean) ∈ bg_L ∧ Cond.initialized yJ1_canEncode_fc78d.cls ∈ bg_L ∧ plainName yJ1_canEncode_fc78d.cls = true := ⟨⟨by decide +kernel, by decide +kernel, by decide +kernel⟩, bg_in 1198 (by decide +kernel) rfl, bg_in 24 (by decide +kernel) rfl, by decide +kernel⟩
theorem kt_J1_canEncode_fc78d : Cond.static yJ1_canEncode_fc78d ∈ bg_L := bg_in 1197 (by decide +kernel) rfl
theorem kc_J2_putCharSB_b72d1 : (yJ2_putCharSB_b72d1.cls ≠ "java/lang/invoke/MethodHandle" ∧ yJ2_putCharSB_b72d1.cls ≠ "java/lang/invoke/VarHandle" ∧ (parseMethodDescriptor yJ2_putCharSB_b72d1.desc).map (fun d => d.parameters.length) = some 3) ∧ Cond.code yJ2_putCharSB_b72d1 cJ2_putCharSB_b72d1 3 none ∈ bg_L ∧ Cond.initialized yJ2_putCharSB_b72d1.cls ∈ bg_L ∧ plainName yJ2_putCharSB_b72d1.cls = true := ⟨⟨by decide +kernel, by decide +kernel, by decide +kernel⟩, bg_in 1201 (by decide +kernel) rfl, bg_in 18 (by decide +kernel) rfl, by decide +kernel⟩
theorem kt_J2_putCharSB_b72d1 : Cond.static yJ2_putCharSB_b72d1 ∈ bg_L := bg_in 1200 (by decide +kernel) rfl
theorem kc_J2_getChars_ba4f3 : (yJ2_getChars_ba4f3.cls ≠ "java/lang/invoke/MethodHandle" ∧ yJ2_getChars_ba4f3.cls ≠ "java/lang/invoke/VarHandle" ∧ (parseMethodDescriptor yJ2_getChars_ba4f3.desc).map (fun d => d.parameters.length) = some 3) ∧ Cond.code yJ2_getChars_ba4f3 cJ2_getChars_ba4f3 7 (some .int) ∈ bg_L ∧ Cond.initialized yJ2_getChars_ba4f3.cls ∈ bg_L ∧ plainName yJ2_getChars_ba4f3.cls = true := ⟨⟨by decide +kernel, by decide +kernel, by decide +kernel⟩, bg_in 1224 (by decide +kernel) rfl, bg_in 18 (by decide +kernel) rfl, by decide +kernel⟩
theorem kt_J2_getChars_ba4f3 : Cond.static yJ2_getChars_ba4f3 ∈ bg_L := bg_in 1223 (by decide +kernel) rfl
theorem kc_J6_stringSize_0f7a4 : (yJ6_stringSize_0f7a4.cls ≠ "java/lang/invoke/MethodHandle" ∧ yJ6_stringSize_0f7a4.cls ≠ "java/lang/invoke/VarHandle" ∧ (parseMethodDescriptor yJ6_stringSize_0f7a4.desc).map (fun d => d.parameters.length) = some 1) ∧ Cond.code yJ6_stringSize_0f7a4 cJ6_stringSize_0f7a4 4 (some .int) ∈ bg_L ∧ Cond.initialized yJ6_stringSize_0f7a4.cls ∈ bg_L ∧ plainName yJ6_stringSize_0f7a4.cls = true := ⟨⟨by decide +kernel, by decide +kernel, by decide +kernel⟩, bg_in 1211 (by decide +kernel) rfl, bg_in 25 (by decide +kernel) rfl, by decide +kernel⟩
theorem kt_J6_stringSize_0f7a4 : Cond.static yJ6_stringSize_0f7a4 ∈ bg_L := bg_in 1210 (by decide +kernel) rfl
theorem kc_J6_getChars_ba4f3 : (yJ6_getChars_ba4f3.cls ≠ "java/lang/invoke/MethodHandle" ∧ yJ6_getChars_ba4f3.cls ≠ "java/lang/invoke/VarHandle" ∧ (parseMethodDescriptor yJ6_getChars_ba4f3.desc).map (fun d => d.parameters.length) = some 3) ∧ Cond.code yJ6_getChars_ba4f3 cJ6_getChars_ba4f3 7 (some .int) ∈ bg_L ∧ Cond.initialized yJ6_getChars_ba4f3.cls ∈ bg_L ∧ plainName yJ6_getChars_ba4f3.cls = true := ⟨⟨by decide +kernel, by decide +kernel, by decide +kernel⟩, bg_in 1214 (by decide +kernel) rfl, bg_in 25 (by decide +kernel) rfl, by decide +kernel⟩
theorem kt_J6_getChars_ba4f3 : Cond.static yJ6_getChars_ba4f3 ∈ bg_L := bg_in 1213 (by decide +kernel) rfl
theorem kc_J2_getChars_46870 : (yJ2_getChars_46870.cls ≠ "java/lang/invoke/MethodHandle" ∧ yJ2_getChars_46870.cls ≠ "java/lang/invoke/VarHandle" ∧ (parseMethodDescriptor yJ2_getChars_46870.desc).map (fun d => d.parameters.length) = some 4) ∧ Cond.code yJ2_getChars_46870 cJ2_getChars_46870 5 (some .int) ∈ bg_L ∧ Cond.initialized yJ2_getChars_46870.cls ∈ bg_L ∧ plainName yJ2_getChars_46870.cls = true := ⟨⟨by decide +kernel, by decide +kernel, by decide +kernel⟩, bg_in 1221 (by decide +kernel) rfl, bg_in 18 (by decide +kernel) rfl, by decide +kernel⟩
theorem kt_J2_getChars_46870 : Cond.static yJ2_getChars_46870 ∈ bg_L := bg_in 1220 (by decide +kernel) rfl
theorem kc_J5_length_8abf5 : (yJ5_length_8abf5.cls ≠ "java/lang/invoke/MethodHandle" ∧ yJ5_length_8abf5.cls ≠ "java/lang/invoke/VarHandle" ∧ (parseMethodDescriptor yJ5_length_8abf5.desc).map (fun d => d.parameters.length) = some 0) ∧ Cond.code yJ5_length_8abf5 cJ5_length_8abf5 1 (some .int) ∈ bg_L ∧ Cond.initialized yJ5_length_8abf5.cls ∈ bg_L ∧ plainName yJ5_length_8abf5.cls = true := ⟨⟨by decide +kernel, by decide +kernel, by decide +kernel⟩, bg_in 1252 (by decide +kernel) rfl, bg_in 15 (by decide +kernel) rfl, by decide +kernel⟩
theorem kt_J5_length_8abf5 : Cond.instanceMethod yJ5_length_8abf5 ∈ bg_L := bg_in 1246 (by decide +kernel) rfl
theorem kc_J7_checkLength_df160 : (yJ7_checkLength_df160.cls ≠ "java/lang/invoke/MethodHandle" ∧ yJ7_checkLength_df160.cls ≠ "java/lang/invoke/VarHandle" ∧ (parseMethodDescriptor yJ7_checkLength_df160.desc).map (fun d => d.parameters.length) = some 2) ∧ Cond.code yJ7_checkLength_df160 cJ7_checkLength_df160 2 none ∈ bg_L ∧ Cond.initialized yJ7_checkLength_df160.cls ∈ bg_L ∧ plainName yJ7_checkLength_df160.cls = true := ⟨⟨by decide +kernel, by decide +kernel, by decide +kernel⟩, bg_in 1262 (by decide +kernel) rfl, bg_in 21 (by decide +kernel) rfl, by decide +kernel⟩
theorem kt_J7_checkLength_df160 : Cond.static yJ7_checkLength_df160 ∈ bg_L := bg_in 1261 (by decide +kernel) rfl
theorem kc_J7_copyOfRangeByte_39247 : (yJ7_copyOfRangeByte_39247.cls ≠ "java/lang/invoke/MethodHandle" ∧ yJ7_copyOfRangeByte_39247.cls ≠ "java/lang/invoke/VarHandle" ∧ (parseMethodDescriptor yJ7_copyOfRangeByte_39247.desc).map (fun d => d.parameters.length) = some 3) ∧ Cond.code yJ7_copyOfRangeByte_39247 cJ7_copyOfRangeByte_39247 5 (some (.array .byte)) ∈ bg_L ∧ Cond.initialized yJ7_copyOfRangeByte_39247.cls ∈ bg_L ∧ plainName yJ7_copyOfRangeByte_39247.cls = true := ⟨⟨by decide +kernel, by decide +kernel, by decide +kernel⟩, bg_in 1259 (by decide +kernel) rfl, bg_in 21 (by decide +kernel) rfl, by decide +kernel⟩
theorem kt_J7_copyOfRangeByte_39247 : Cond.static yJ7_copyOfRangeByte_39247 ∈ bg_L := bg_in 1258 (by decide +kernel) rfl
theorem kc_J2_compress_5af95 : (yJ2_compress_5af95.cls ≠ "java/lang/invoke/MethodHandle" ∧ yJ2_compress_5af95.cls ≠ "java/lang/invoke/VarHandle" ∧ (parseMethodDescriptor yJ2_compress_5af95.desc).map (fun d => d.parameters.length) = some 5) ∧ Cond.code yJ2_compress_5af95 cJ2_compress_5af95 7 (some .int) ∈ bg_L ∧ Cond.initialized yJ2_compress_5af95.cls ∈ bg_L ∧ plainName yJ2_compress_5af95.cls = true := ⟨⟨by decide +kernel, by decide +kernel, by decide +kernel⟩, bg_in 1268 (by decide +kernel) rfl, bg_in 18 (by decide +kernel) rfl, by decide +kernel⟩
theorem kt_J2_compress_5af95 : Cond.static yJ2_compress_5af95 ∈ bg_L := bg_in 1267 (by decide +kernel) rfl
theorem kc_J7_copyOfRange_39247 : (yJ7_copyOfRange_39247.cls ≠ "java/lang/invoke/MethodHandle" ∧ yJ7_copyOfRange_39247.cls ≠ "java/lang/invoke/VarHandle" ∧ (parseMethodDescriptor yJ7_copyOfRange_39247.desc).map (fun d => d.parameters.length) = some 3) ∧ Cond.code yJ7_copyOfRange_39247 cJ7_copyOfRange_39247 3 (some (.array .byte)) ∈ bg_L ∧ Cond.initialized yJ7_copyOfRange_39247.cls ∈ bg_L ∧ plainName yJ7_copyOfRange_39247.cls = true := ⟨⟨by decide +kernel, by decide +kernel, by decide +kernel⟩, bg_in 1256 (by decide +kernel) rfl, bg_in 21 (by decide +kernel) rfl, by decide +kernel⟩
theorem kt_J7_copyOfRange_39247 : Cond.static yJ7_copyOfRange_39247 ∈ bg_L := bg_in 1255 (by decide +kernel) rfl
theorem kc_J5_getValue_6d5f1 : (yJ5_getValue_6d5f1.cls ≠ "java/lang/invoke/MethodHandle" ∧ yJ5_getValue_6d5f1.cls ≠ "java/lang/invoke/VarHandle" ∧ (parseMethodDescriptor yJ5_getValue_6d5f1.desc).map (fun d => d.parameters.length) = some 0) ∧ Cond.code yJ5_getValue_6d5f1 cJ5_getValue_6d5f1 1 (some (.array .byte)) ∈ bg_L ∧ Cond.initialized yJ5_getValue_6d5f1.cls ∈ bg_L ∧ plainName yJ5_getValue_6d5f1.cls = true := ⟨⟨by decide +kernel, by decide +kernel, by decide +kernel⟩, bg_in 1244 (by decide +kernel) rfl, bg_in 15 (by decide +kernel) rfl, by decide +kernel⟩
theorem kt_J5_getValue_6d5f1 : Cond.instanceMethod yJ5_getValue_6d5f1 ∈ bg_L := bg_in 1241 (by decide +kernel) rfl
theorem kc_J2_compress_39247 : (yJ2_compress_39247.cls ≠ "java/lang/invoke/MethodHandle" ∧ yJ2_compress_39247.cls ≠ "java/lang/invoke/VarHandle" ∧ (parseMethodDescriptor yJ2_compress_39247.desc).map (fun d => d.parameters.length) = some 3) ∧ Cond.code yJ2_compress_39247 cJ2_compress_39247 6 (some (.array .byte)) ∈ bg_L ∧ Cond.initialized yJ2_compress_39247.cls ∈ bg_L ∧ plainName yJ2_compress_39247.cls = true := ⟨⟨by decide +kernel, by decide +kernel, by decide +kernel⟩, bg_in 1265 (by decide +kernel) rfl, bg_in 18 (by decide +kernel) rfl, by decide +kernel⟩
theorem kt_J2_compress_39247 : Cond.static yJ2_compress_39247 ∈ bg_L := bg_in 1264 (by decide +kernel) rfl
theorem kc_J2_coderFromArrayLen_85cad : (yJ2_coderFromArrayLen_85cad.cls ≠ "java/lang/invoke/MethodHandle" ∧ yJ2_coderFromArrayLen_85cad.cls ≠ "java/lang/invoke/VarHandle" ∧ (parseMethodDescriptor yJ2_coderFromArrayLen_85cad.desc).map (fun d => d.parameters.length) = some 2) ∧ Cond.code yJ2_coderFromArrayLen_85cad cJ2_coderFromArrayLen_85cad 2 (some .byte) ∈ bg_L ∧ Cond.initialized yJ2_coderFromArrayLen_85cad.cls ∈ bg_L ∧ plainName yJ2_coderFromArrayLen_85cad.cls = true := ⟨⟨by decide +kernel, by decide +kernel, by decide +kernel⟩, bg_in 1272 (by decide +kernel) rfl, bg_in 18 (by decide +kernel) rfl, by decide +kernel⟩
theorem kt_J2_coderFromArrayLen_85cad : Cond.static yJ2_coderFromArrayLen_85cad ∈ bg_L := bg_in 1271 (by decide +kernel) rfl
theorem kc_J0_init_db425 : (yJ0_init_db425.cls ≠ "java/lang/invoke/MethodHandle" ∧ yJ0_init_db425.cls ≠ "java/lang/invoke/VarHandle" ∧ (parseMethodDescriptor yJ0_init_db425.desc).map (fun d => d.parameters.length) = some 2) ∧ Cond.code yJ0_init_db425 cJ0_init_db425 5 none ∈ bg_L ∧ Cond.initialized yJ0_init_db425.cls ∈ bg_L ∧ plainName yJ0_init_db425.cls = true := ⟨⟨by decide +kernel, by decide +kernel, by decide +kernel⟩, bg_in 1238 (by decide +kernel) rfl, bg_in 17 (by decide +kernel) rfl, by decide +kernel⟩
theorem kt_J0_init_db425 : Cond.instanceMethod yJ0_init_db425 ∈ bg_L := bg_in 1237 (by decide +kernel) rfl
theorem kc_J5_init_a7421 : (yJ5_init_a7421.cls ≠ "java/lang/invoke/MethodHandle" ∧ yJ5_init_a7421.cls ≠ "java/lang/invoke/VarHandle" ∧ (parseMethodDescriptor yJ5_init_a7421.desc).map (fun d => d.parameters.length) = some 1) ∧ Cond.code yJ5_init_a7421 cJ5_init_a7421 5 none ∈ bg_L ∧ Cond.initialized yJ5_init_a7421.cls ∈ bg_L ∧ plainName yJ5_init_a7421.cls = true := ⟨⟨by decide +kernel, by decide +kernel, by decide +kernel⟩, bg_in 1062 (by decide +kernel) rfl, bg_in 15 (by decide +kernel) rfl, by decide +kernel⟩
theorem kt_J5_init_a7421 : Cond.instanceMethod yJ5_init_a7421 ∈ bg_L := bg_in 1061 (by decide +kernel) rfl
theorem kc_J5_append_3fe6f : (yJ5_append_3fe6f.cls ≠ "java/lang/invoke/MethodHandle" ∧ yJ5_append_3fe6f.cls ≠ "java/lang/invoke/VarHandle" ∧ (parseMethodDescriptor yJ5_append_3fe6f.desc).map (fun d => d.parameters.length) = some 1) ∧ Cond.code yJ5_append_3fe6f cJ5_append_3fe6f 2 (some (.object "java/lang/AbstractStringBuilder")) ∈ bg_L ∧ Cond.initialized yJ5_append_3fe6f.cls ∈ bg_L ∧ plainName yJ5_append_3fe6f.cls = true := ⟨⟨by decide +kernel, by decide +kernel, by decide +kernel⟩, bg_in 1195 (by decide +kernel) rfl, bg_in 15 (by decide +kernel) rfl, by decide +kernel⟩
theorem kt_J5_append_3fe6f : Cond.instanceMethod yJ5_append_3fe6f ∈ bg_L := bg_in 1194 (by decide +kernel) rfl
theorem kc_J5_append_c97b9 : (yJ5_append_c97b9.cls ≠ "java/lang/invoke/MethodHandle" ∧ yJ5_append_c97b9.cls ≠ "java/lang/invoke/VarHandle" ∧ (parseMethodDescriptor yJ5_append_c97b9.desc).map (fun d => d.parameters.length) = some 1) ∧ Cond.code yJ5_append_c97b9 cJ5_append_c97b9 4 (some (.object "java/lang/AbstractStringBuilder")) ∈ bg_L ∧ Cond.initialized yJ5_append_c97b9.cls ∈ bg_L ∧ plainName yJ5_append_c97b9.cls = true := ⟨⟨by decide +kernel, by decide +kernel, by decide +kernel⟩, bg_in 1208 (by decide +kernel) rfl, bg_in 15 (by decide +kernel) rfl, by decide +kernel⟩
theorem kt_J5_append_c97b9 : Cond.instanceMethod yJ5_append_c97b9 ∈ bg_L := bg_in 1207 (by decide +kernel) rfl
theorem kc_J0_init_81219 : (yJ0_init_81219.cls ≠ "java/lang/invoke/MethodHandle" ∧ yJ0_init_81219.cls ≠ "java/lang/invoke/VarHandle" ∧ (parseMethodDescriptor yJ0_init_81219.desc).map (fun d => d.parameters.length) = some 1) ∧ Cond.code yJ0_init_81219 cJ0_init_81219 2 none ∈ bg_L ∧ Cond.initialized yJ0_init_81219.cls ∈ bg_L ∧ plainName yJ0_init_81219.cls = true := ⟨⟨by decide +kernel, by decide +kernel, by decide +kernel⟩, bg_in 1235 (by decide +kernel) rfl, bg_in 17 (by decide +kernel) rfl, by decide +kernel⟩
theorem kt_J0_init_81219 : Cond.instanceMethod yJ0_init_81219 ∈ bg_L := bg_in 1234 (by decide +kernel) rfl
theorem kc_X11_appendText : (yX11_appendText.cls ≠ "java/lang/invoke/MethodHandle" ∧ yX11_appendText.cls ≠ "java/lang/invoke/VarHandle" ∧ (parseMethodDescriptor yX11_appendText.desc).map (fun d => d.parameters.length) = some 5) ∧ Cond.code yX11_appendText cX11_appendText 6 (some .int) ∈ bg_L ∧ Cond.initialized yX11_appendText.cls ∈ bg_L ∧ plainName yX11_appendText.cls = true := ⟨⟨by decide +kernel, by decide +kernel, by decide +kernel⟩, bg_in 569 (by decide +kernel) rfl, bg_in 5 (by decide +kernel) rfl, by decide +kernel⟩
theorem kt_X11_appendText : Cond.instanceMethod yX11_appendText ∈ bg_L := bg_in 567 (by decide +kernel) rfl
theorem ke_X11_appendText : Cond.selects RX11 yX11_appendText yX11_appendText ∈ bg_L := bg_in 568 (by decide +kernel) rfl
theorem kc_L_add : (yL_add.cls ≠ "java/lang/invoke/MethodHandle" ∧ yL_add.cls ≠ "java/lang/invoke/VarHandle" ∧ (parseMethodDescriptor yL_add.desc).map (fun d => d.parameters.length) = some 3) ∧ Cond.code yL_add cL_add 4 none ∈ bg_L ∧ Cond.initialized yL_add.cls ∈ bg_L ∧ plainName yL_add.cls = true := ⟨⟨by decide +kernel, by decide +kernel, by decide +kernel⟩, bg_in 565 (by decide +kernel) rfl, bg_in 4 (by decide +kernel) rfl, by decide +kernel⟩
theorem kt_L_add : Cond.static yL_add ∈ bg_L := bg_in 564 (by decide +kernel) rfl
theorem kc_X11_sheetCount : (yX11_sheetCount.cls ≠ "java/lang/invoke/MethodHandle" ∧ yX11_sheetCount.cls ≠ "java/lang/invoke/VarHandle" ∧ (parseMethodDescriptor yX11_sheetCount.desc).map (fun d => d.parameters.length) = some 0) ∧ Cond.code yX11_sheetCount cX11_sheetCount 1 (some .int) ∈ bg_L ∧ Cond.initialized yX11_sheetCount.cls ∈ bg_L ∧ plainName yX11_sheetCount.cls = true := ⟨⟨by decide +kernel, by decide +kernel, by decide +kernel⟩, bg_in 583 (by decide +kernel) rfl, bg_in 5 (by decide +kernel) rfl, by decide +kernel⟩
theorem kt_X11_sheetCount : Cond.instanceMethod yX11_sheetCount ∈ bg_L := bg_in 581 (by decide +kernel) rfl
theorem ke_X11_sheetCount : Cond.selects RX11 yX11_sheetCount yX11_sheetCount ∈ bg_L := bg_in 582 (by decide +kernel) rfl
theorem kc_X11_layerCount : (yX11_layerCount.cls ≠ "java/lang/invoke/MethodHandle" ∧ yX11_layerCount.cls ≠ "java/lang/invoke/VarHandle" ∧ (parseMethodDescriptor yX11_layerCount.desc).map (fun d => d.parameters.length) = some 1) ∧ Cond.code yX11_layerCount cX11_layerCount 2 (some .int) ∈ bg_L ∧ Cond.initialized yX11_layerCount.cls ∈ bg_L ∧ plainName yX11_layerCount.cls = true := ⟨⟨by decide +kernel, by decide +kernel, by decide +kernel⟩, bg_in 587 (by decide +kernel) rfl, bg_in 5 (by decide +kernel) rfl, by decide +kernel⟩
theorem kt_X11_layerCount : Cond.instanceMethod yX11_layerCount ∈ bg_L := bg_in 585 (by decide +kernel) rfl
theorem ke_X11_layerCount : Cond.selects RX11 yX11_layerCount yX11_layerCount ∈ bg_L := bg_in 586 (by decide +kernel) rfl
theorem kc_X11_flour : (yX11_flour.cls ≠ "java/lang/invoke/MethodHandle" ∧ yX11_flour.cls ≠ "java/lang/invoke/VarHandle" ∧ (parseMethodDescriptor yX11_flour.desc).map (fun d => d.parameters.length) = some 0) ∧ Cond.code yX11_flour cX11_flour 1 (some .int) ∈ bg_L ∧ Cond.initialized yX11_flour.cls ∈ bg_L ∧ plainName yX11_flour.cls = true := ⟨⟨by decide +kernel, by decide +kernel, by decide +kernel⟩, bg_in 615 (by decide +kernel) rfl, bg_in 5 (by decide +kernel) rfl, by decide +kernel⟩
theorem kt_X11_flour : Cond.instanceMethod yX11_flour ∈ bg_L := bg_in 613 (by decide +kernel) rfl
theorem ke_X11_flour : Cond.selects RX11 yX11_flour yX11_flour ∈ bg_L := bg_in 614 (by decide +kernel) rfl
theorem kc_X11_hoursPassed : (yX11_hoursPassed.cls ≠ "java/lang/invoke/MethodHandle" ∧ yX11_hoursPassed.cls ≠ "java/lang/invoke/VarHandle" ∧ (parseMethodDescriptor yX11_hoursPassed.desc).map (fun d => d.parameters.length) = some 0) ∧ Cond.code yX11_hoursPassed cX11_hoursPassed 1 (some .int) ∈ bg_L ∧ Cond.initialized yX11_hoursPassed.cls ∈ bg_L ∧ plainName yX11_hoursPassed.cls = true := ⟨⟨by decide +kernel, by decide +kernel, by decide +kernel⟩, bg_in 619 (by decide +kernel) rfl, bg_in 5 (by decide +kernel) rfl, by decide +kernel⟩
theorem kt_X11_hoursPassed : Cond.instanceMethod yX11_hoursPassed ∈ bg_L := bg_in 617 (by decide +kernel) rfl
theorem ke_X11_hoursPassed : Cond.selects RX11 yX11_hoursPassed yX11_hoursPassed ∈ bg_L := bg_in 618 (by decide +kernel) rfl
theorem kc_X11_escapedButter : (yX11_escapedButter.cls ≠ "java/lang/invoke/MethodHandle" ∧ yX11_escapedButter.cls ≠ "java/lang/invoke/VarHandle" ∧ (parseMethodDescriptor yX11_escapedButter.desc).map (fun d => d.parameters.length) = some 0) ∧ Cond.code yX11_escapedButter cX11_escapedButter 1 (some .int) ∈ bg_L ∧ Cond.initialized yX11_escapedButter.cls ∈ bg_L ∧ plainName yX11_escapedButter.cls = true := ⟨⟨by decide +kernel, by decide +kernel, by decide +kernel⟩, bg_in 623 (by decide +kernel) rfl, bg_in 5 (by decide +kernel) rfl, by decide +kernel⟩
theorem kt_X11_escapedButter : Cond.instanceMethod yX11_escapedButter ∈ bg_L := bg_in 621 (by decide +kernel) rfl
theorem ke_X11_escapedButter : Cond.selects RX11 yX11_escapedButter yX11_escapedButter ∈ bg_L := bg_in 622 (by decide +kernel) rfl
theorem kc_X11_brokenLayers : (yX11_brokenLayers.cls ≠ "java/lang/invoke/MethodHandle" ∧ yX11_brokenLayers.cls ≠ "java/lang/invoke/VarHandle" ∧ (parseMethodDescriptor yX11_brokenLayers.desc).map (fun d => d.parameters.length) = some 0) ∧ Cond.code yX11_brokenLayers cX11_brokenLayers 1 (some .int) ∈ bg_L ∧ Cond.initialized yX11_brokenLayers.cls ∈ bg_L ∧ plainName yX11_brokenLayers.cls = true := ⟨⟨by decide +kernel, by decide +kernel, by decide +kernel⟩, bg_in 627 (by decide +kernel) rfl, bg_in 5 (by decide +kernel) rfl, by decide +kernel⟩
theorem kt_X11_brokenLayers : Cond.instanceMethod yX11_brokenLayers ∈ bg_L := bg_in 625 (by decide +kernel) rfl
theorem ke_X11_brokenLayers : Cond.selects RX11 yX11_brokenLayers yX11_brokenLayers ∈ bg_L := bg_in 626 (by decide +kernel) rfl
theorem kc_X11_expectedLayers : (yX11_expectedLayers.cls ≠ "java/lang/invoke/MethodHandle" ∧ yX11_expectedLayers.cls ≠ "java/lang/invoke/VarHandle" ∧ (parseMethodDescriptor yX11_expectedLayers.desc).map (fun d => d.parameters.length) = some 1) ∧ Cond.code yX11_expectedLayers cX11_expectedLayers 2 (some .int) ∈ bg_L ∧ Cond.initialized yX11_expectedLayers.cls ∈ bg_L ∧ plainName yX11_expectedLayers.cls = true := ⟨⟨by decide +kernel, by decide +kernel, by decide +kernel⟩, bg_in 631 (by decide +kernel) rfl, bg_in 5 (by decide +kernel) rfl, by decide +kernel⟩
theorem kt_X11_expectedLayers : Cond.instanceMethod yX11_expectedLayers ∈ bg_L := bg_in 629 (by decide +kernel) rfl
theorem ke_X11_expectedLayers : Cond.selects RX11 yX11_expectedLayers yX11_expectedLayers ∈ bg_L := bg_in 630 (by decide +kernel) rfl
theorem kc_X11_temperature : (yX11_temperature.cls ≠ "java/lang/invoke/MethodHandle" ∧ yX11_temperature.cls ≠ "java/lang/invoke/VarHandle" ∧ (parseMethodDescriptor yX11_temperature.desc).map (fun d => d.parameters.length) = some 1) ∧ Cond.code yX11_temperature cX11_temperature 2 (some .int) ∈ bg_L ∧ Cond.initialized yX11_temperature.cls ∈ bg_L ∧ plainName yX11_temperature.cls = true := ⟨⟨by decide +kernel, by decide +kernel, by decide +kernel⟩, bg_in 635 (by decide +kernel) rfl, bg_in 5 (by decide +kernel) rfl, by decide +kernel⟩
theorem kt_X11_temperature : Cond.instanceMethod yX11_temperature ∈ bg_L := bg_in 633 (by decide +kernel) rfl
theorem ke_X11_temperature : Cond.selects RX11 yX11_temperature yX11_temperature ∈ bg_L := bg_in 634 (by decide +kernel) rfl
theorem kc_X11_foldCount : (yX11_foldCount.cls ≠ "java/lang/invoke/MethodHandle" ∧ yX11_foldCount.cls ≠ "java/lang/invoke/VarHandle" ∧ (parseMethodDescriptor yX11_foldCount.desc).map (fun d => d.parameters.length) = some 1) ∧ Cond.code yX11_foldCount cX11_foldCount 2 (some .int) ∈ bg_L ∧ Cond.initialized yX11_foldCount.cls ∈ bg_L ∧ plainName yX11_foldCount.cls = true := ⟨⟨by decide +kernel, by decide +kernel, by decide +kernel⟩, bg_in 639 (by decide +kernel) rfl, bg_in 5 (by decide +kernel) rfl, by decide +kernel⟩
theorem kt_X11_foldCount : Cond.instanceMethod yX11_foldCount ∈ bg_L := bg_in 637 (by decide +kernel) rfl
theorem ke_X11_foldCount : Cond.selects RX11 yX11_foldCount yX11_foldCount ∈ bg_L := bg_in 638 (by decide +kernel) rfl
theorem kc_X11_isDusted : (yX11_isDusted.cls ≠ "java/lang/invoke/MethodHandle" ∧ yX11_isDusted.cls ≠ "java/lang/invoke/VarHandle" ∧ (parseMethodDescriptor yX11_isDusted.desc).map (fun d => d.parameters.length) = some 1) ∧ Cond.code yX11_isDusted cX11_isDusted 2 (some .boolean) ∈ bg_L ∧ Cond.initialized yX11_isDusted.cls ∈ bg_L ∧ plainName yX11_isDusted.cls = true := ⟨⟨by decide +kernel, by decide +kernel, by decide +kernel⟩, bg_in 643 (by decide +kernel) rfl, bg_in 5 (by decide +kernel) rfl, by decide +kernel⟩
theorem kt_X11_isDusted : Cond.instanceMethod yX11_isDusted ∈ bg_L := bg_in 641 (by decide +kernel) rfl
theorem ke_X11_isDusted : Cond.selects RX11 yX11_isDusted yX11_isDusted ∈ bg_L := bg_in 642 (by decide +kernel) rfl
theorem kc_X11_isSealed : (yX11_isSealed.cls ≠ "java/lang/invoke/MethodHandle" ∧ yX11_isSealed.cls ≠ "java/lang/invoke/VarHandle" ∧ (parseMethodDescriptor yX11_isSealed.desc).map (fun d => d.parameters.length) = some 1) ∧ Cond.code yX11_isSealed cX11_isSealed 2 (some .boolean) ∈ bg_L ∧ Cond.initialized yX11_isSealed.cls ∈ bg_L ∧ plainName yX11_isSealed.cls = true := ⟨⟨by decide +kernel, by decide +kernel, by decide +kernel⟩, bg_in 647 (by decide +kernel) rfl, bg_in 5 (by decide +kernel) rfl, by decide +kernel⟩
theorem kt_X11_isSealed : Cond.instanceMethod yX11_isSealed ∈ bg_L := bg_in 645 (by decide +kernel) rfl
theorem ke_X11_isSealed : Cond.selects RX11 yX11_isSealed yX11_isSealed ∈ bg_L := bg_in 646 (by decide +kernel) rfl
theorem kc_X11_isCooling : (yX11_isCooling.cls ≠ "java/lang/invoke/MethodHandle" ∧ yX11_isCooling.cls ≠ "java/lang/invoke/VarHandle" ∧ (parseMethodDescriptor yX11_isCooling.desc).map (fun d => d.parameters.length) = some 1) ∧ Cond.code yX11_isCooling cX11_isCooling 2 (some .boolean) ∈ bg_L ∧ Cond.initialized yX11_isCooling.cls ∈ bg_L ∧ plainName yX11_isCooling.cls = true := ⟨⟨by decide +kernel, by decide +kernel, by decide +kernel⟩, bg_in 651 (by decide +kernel) rfl, bg_in 5 (by decide +kernel) rfl, by decide +kernel⟩
theorem kt_X11_isCooling : Cond.instanceMethod yX11_isCooling ∈ bg_L := bg_in 649 (by decide +kernel) rfl
theorem ke_X11_isCooling : Cond.selects RX11 yX11_isCooling yX11_isCooling ∈ bg_L := bg_in 650 (by decide +kernel) rfl
theorem kc_X11_isButter : (yX11_isButter.cls ≠ "java/lang/invoke/MethodHandle" ∧ yX11_isButter.cls ≠ "java/lang/invoke/VarHandle" ∧ (parseMethodDescriptor yX11_isButter.desc).map (fun d => d.parameters.length) = some 2) ∧ Cond.code yX11_isButter cX11_isButter 4 (some .boolean) ∈ bg_L ∧ Cond.initialized yX11_isButter.cls ∈ bg_L ∧ plainName yX11_isButter.cls = true := ⟨⟨by decide +kernel, by decide +kernel, by decide +kernel⟩, bg_in 655 (by decide +kernel) rfl, bg_in 5 (by decide +kernel) rfl, by decide +kernel⟩
theorem kt_X11_isButter : Cond.instanceMethod yX11_isButter ∈ bg_L := bg_in 653 (by decide +kernel) rfl
theorem ke_X11_isButter : Cond.selects RX11 yX11_isButter yX11_isButter ∈ bg_L := bg_in 654 (by decide +kernel) rfl
theorem kc_X11_thickness : (yX11_thickness.cls ≠ "java/lang/invoke/MethodHandle" ∧ yX11_thickness.cls ≠ "java/lang/invoke/VarHandle" ∧ (parseMethodDescriptor yX11_thickness.desc).map (fun d => d.parameters.length) = some 2) ∧ Cond.code yX11_thickness cX11_thickness 4 (some .int) ∈ bg_L ∧ Cond.initialized yX11_thickness.cls ∈ bg_L ∧ plainName yX11_thickness.cls = true := ⟨⟨by decide +kernel, by decide +kernel, by decide +kernel⟩, bg_in 663 (by decide +kernel) rfl, bg_in 5 (by decide +kernel) rfl, by decide +kernel⟩
theorem kt_X11_thickness : Cond.instanceMethod yX11_thickness ∈ bg_L := bg_in 661 (by decide +kernel) rfl
theorem ke_X11_thickness : Cond.selects RX11 yX11_thickness yX11_thickness ∈ bg_L := bg_in 662 (by decide +kernel) rfl
theorem kc_X11_thinnestLayer : (yX11_thinnestLayer.cls ≠ "java/lang/invoke/MethodHandle" ∧ yX11_thinnestLayer.cls ≠ "java/lang/invoke/VarHandle" ∧ (parseMethodDescriptor yX11_thinnestLayer.desc).map (fun d => d.parameters.length) = some 1) ∧ Cond.code yX11_thinnestLayer cX11_thinnestLayer 2 (some .int) ∈ bg_L ∧ Cond.initialized yX11_thinnestLayer.cls ∈ bg_L ∧ plainName yX11_thinnestLayer.cls = true := ⟨⟨by decide +kernel, by decide +kernel, by decide +kernel⟩, bg_in 673 (by decide +kernel) rfl, bg_in 5 (by decide +kernel) rfl, by decide +kernel⟩
theorem kt_X11_thinnestLayer : Cond.instanceMethod yX11_thinnestLayer ∈ bg_L := bg_in 671 (by decide +kernel) rfl
theorem ke_X11_thinnestLayer : Cond.selects RX11 yX11_thinnestLayer yX11_thinnestLayer ∈ bg_L := bg_in 672 (by decide +kernel) rfl
theorem kc_X11_thickestLayer : (yX11_thickestLayer.cls ≠ "java/lang/invoke/MethodHandle" ∧ yX11_thickestLayer.cls ≠ "java/lang/invoke/VarHandle" ∧ (parseMethodDescriptor yX11_thickestLayer.desc).map (fun d => d.parameters.length) = some 1) ∧ Cond.code yX11_thickestLayer cX11_thickestLayer 2 (some .int) ∈ bg_L ∧ Cond.initialized yX11_thickestLayer.cls ∈ bg_L ∧ plainName yX11_thickestLayer.cls = true := ⟨⟨by decide +kernel, by decide +kernel, by decide +kernel⟩, bg_in 681 (by decide +kernel) rfl, bg_in 5 (by decide +kernel) rfl, by decide +kernel⟩
theorem kt_X11_thickestLayer : Cond.instanceMethod yX11_thickestLayer ∈ bg_L := bg_in 679 (by decide +kernel) rfl
theorem ke_X11_thickestLayer : Cond.selects RX11 yX11_thickestLayer yX11_thickestLayer ∈ bg_L := bg_in 680 (by decide +kernel) rfl
theorem kc_X11_meltingPoint : (yX11_meltingPoint.cls ≠ "java/lang/invoke/MethodHandle" ∧ yX11_meltingPoint.cls ≠ "java/lang/invoke/VarHandle" ∧ (parseMethodDescriptor yX11_meltingPoint.desc).map (fun d => d.parameters.length) = some 0) ∧ Cond.code yX11_meltingPoint cX11_meltingPoint 1 (some .int) ∈ bg_L ∧ Cond.initialized yX11_meltingPoint.cls ∈ bg_L ∧ plainName yX11_meltingPoint.cls = true := ⟨⟨by decide +kernel, by decide +kernel, by decide +kernel⟩, bg_in 689 (by decide +kernel) rfl, bg_in 5 (by decide +kernel) rfl, by decide +kernel⟩
theorem kt_X11_meltingPoint : Cond.instanceMethod yX11_meltingPoint ∈ bg_L := bg_in 687 (by decide +kernel) rfl
theorem ke_X11_meltingPoint : Cond.selects RX11 yX11_meltingPoint yX11_meltingPoint ∈ bg_L := bg_in 688 (by decide +kernel) rfl
theorem kc_X11_butterAtRisk : (yX11_butterAtRisk.cls ≠ "java/lang/invoke/MethodHandle" ∧ yX11_butterAtRisk.cls ≠ "java/lang/invoke/VarHandle" ∧ (parseMethodDescriptor yX11_butterAtRisk.desc).map (fun d => d.parameters.length) = some 1) ∧ Cond.code yX11_butterAtRisk cX11_butterAtRisk 2 (some .int) ∈ bg_L ∧ Cond.initialized yX11_butterAtRisk.cls ∈ bg_L ∧ plainName yX11_butterAtRisk.cls = true := ⟨⟨by decide +kernel, by decide +kernel, by decide +kernel⟩, bg_in 693 (by decide +kernel) rfl, bg_in 5 (by decide +kernel) rfl, by decide +kernel⟩
theorem kt_X11_butterAtRisk : Cond.instanceMethod yX11_butterAtRisk ∈ bg_L := bg_in 691 (by decide +kernel) rfl
theorem ke_X11_butterAtRisk : Cond.selects RX11 yX11_butterAtRisk yX11_butterAtRisk ∈ bg_L := bg_in 692 (by decide +kernel) rfl
theorem kc_X11_height : (yX11_height.cls ≠ "java/lang/invoke/MethodHandle" ∧ yX11_height.cls ≠ "java/lang/invoke/VarHandle" ∧ (parseMethodDescriptor yX11_height.desc).map (fun d => d.parameters.length) = some 1) ∧ Cond.code yX11_height cX11_height 2 (some .int) ∈ bg_L ∧ Cond.initialized yX11_height.cls ∈ bg_L ∧ plainName yX11_height.cls = true := ⟨⟨by decide +kernel, by decide +kernel, by decide +kernel⟩, bg_in 709 (by decide +kernel) rfl, bg_in 5 (by decide +kernel) rfl, by decide +kernel⟩
theorem kt_X11_height : Cond.instanceMethod yX11_height ∈ bg_L := bg_in 707 (by decide +kernel) rfl
theorem ke_X11_height : Cond.selects RX11 yX11_height yX11_height ∈ bg_L := bg_in 708 (by decide +kernel) rfl
theorem kc_X11_butterHeight : (yX11_butterHeight.cls ≠ "java/lang/invoke/MethodHandle" ∧ yX11_butterHeight.cls ≠ "java/lang/invoke/VarHandle" ∧ (parseMethodDescriptor yX11_butterHeight.desc).map (fun d => d.parameters.length) = some 1) ∧ Cond.code yX11_butterHeight cX11_butterHeight 2 (some .int) ∈ bg_L ∧ Cond.initialized yX11_butterHeight.cls ∈ bg_L ∧ plainName yX11_butterHeight.cls = true := ⟨⟨by decide +kernel, by decide +kernel, by decide +kernel⟩, bg_in 717 (by decide +kernel) rfl, bg_in 5 (by decide +kernel) rfl, by decide +kernel⟩
theorem kt_X11_butterHeight : Cond.instanceMethod yX11_butterHeight ∈ bg_L := bg_in 715 (by decide +kernel) rfl
theorem ke_X11_butterHeight : Cond.selects RX11 yX11_butterHeight yX11_butterHeight ∈ bg_L := bg_in 716 (by decide +kernel) rfl
theorem kc_X11_butterLayerCount : (yX11_butterLayerCount.cls ≠ "java/lang/invoke/MethodHandle" ∧ yX11_butterLayerCount.cls ≠ "java/lang/invoke/VarHandle" ∧ (parseMethodDescriptor yX11_butterLayerCount.desc).map (fun d => d.parameters.length) = some 1) ∧ Cond.code yX11_butterLayerCount cX11_butterLayerCount 2 (some .int) ∈ bg_L ∧ Cond.initialized yX11_butterLayerCount.cls ∈ bg_L ∧ plainName yX11_butterLayerCount.cls = true := ⟨⟨by decide +kernel, by decide +kernel, by decide +kernel⟩, bg_in 725 (by decide +kernel) rfl, bg_in 5 (by decide +kernel) rfl, by decide +kernel⟩
theorem kt_X11_butterLayerCount : Cond.instanceMethod yX11_butterLayerCount ∈ bg_L := bg_in 723 (by decide +kernel) rfl
theorem ke_X11_butterLayerCount : Cond.selects RX11 yX11_butterLayerCount yX11_butterLayerCount ∈ bg_L := bg_in 724 (by decide +kernel) rfl
theorem kc_X11_hoursToSafety : (yX11_hoursToSafety.cls ≠ "java/lang/invoke/MethodHandle" ∧ yX11_hoursToSafety.cls ≠ "java/lang/invoke/VarHandle" ∧ (parseMethodDescriptor yX11_hoursToSafety.desc).map (fun d => d.parameters.length) = some 1) ∧ Cond.code yX11_hoursToSafety cX11_hoursToSafety 2 (some .int) ∈ bg_L ∧ Cond.initialized yX11_hoursToSafety.cls ∈ bg_L ∧ plainName yX11_hoursToSafety.cls = true := ⟨⟨by decide +kernel, by decide +kernel, by decide +kernel⟩, bg_in 733 (by decide +kernel) rfl, bg_in 5 (by decide +kernel) rfl, by decide +kernel⟩
theorem kt_X11_hoursToSafety : Cond.instanceMethod yX11_hoursToSafety ∈ bg_L := bg_in 731 (by decide +kernel) rfl
theorem ke_X11_hoursToSafety : Cond.selects RX11 yX11_hoursToSafety yX11_hoursToSafety ∈ bg_L := bg_in 732 (by decide +kernel) rfl
theorem kc_X11_temperatureAfter : (yX11_temperatureAfter.cls ≠ "java/lang/invoke/MethodHandle" ∧ yX11_temperatureAfter.cls ≠ "java/lang/invoke/VarHandle" ∧ (parseMethodDescriptor yX11_temperatureAfter.desc).map (fun d => d.parameters.length) = some 2) ∧ Cond.code yX11_temperatureAfter cX11_temperatureAfter 4 (some .int) ∈ bg_L ∧ Cond.initialized yX11_temperatureAfter.cls ∈ bg_L ∧ plainName yX11_temperatureAfter.cls = true := ⟨⟨by decide +kernel, by decide +kernel, by decide +kernel⟩, bg_in 745 (by decide +kernel) rfl, bg_in 5 (by decide +kernel) rfl, by decide +kernel⟩
theorem kt_X11_temperatureAfter : Cond.instanceMethod yX11_temperatureAfter ∈ bg_L := bg_in 743 (by decide +kernel) rfl
theorem ke_X11_temperatureAfter : Cond.selects RX11 yX11_temperatureAfter yX11_temperatureAfter ∈ bg_L := bg_in 744 (by decide +kernel) rfl
theorem kc_X11_seamCount : (yX11_seamCount.cls ≠ "java/lang/invoke/MethodHandle" ∧ yX11_seamCount.cls ≠ "java/lang/invoke/VarHandle" ∧ (parseMethodDescriptor yX11_seamCount.desc).map (fun d => d.parameters.length) = some 1) ∧ Cond.code yX11_seamCount cX11_seamCount 2 (some .int) ∈ bg_L ∧ Cond.initialized yX11_seamCount.cls ∈ bg_L ∧ plainName yX11_seamCount.cls = true := ⟨⟨by decide +kernel, by decide +kernel, by decide +kernel⟩, bg_in 757 (by decide +kernel) rfl, bg_in 5 (by decide +kernel) rfl, by decide +kernel⟩
theorem kt_X11_seamCount : Cond.instanceMethod yX11_seamCount ∈ bg_L := bg_in 755 (by decide +kernel) rfl
theorem ke_X11_seamCount : Cond.selects RX11 yX11_seamCount yX11_seamCount ∈ bg_L := bg_in 756 (by decide +kernel) rfl
theorem kc_X11_warmestSheet : (yX11_warmestSheet.cls ≠ "java/lang/invoke/MethodHandle" ∧ yX11_warmestSheet.cls ≠ "java/lang/invoke/VarHandle" ∧ (parseMethodDescriptor yX11_warmestSheet.desc).map (fun d => d.parameters.length) = some 0) ∧ Cond.code yX11_warmestSheet cX11_warmestSheet 1 (some .int) ∈ bg_L ∧ Cond.initialized yX11_warmestSheet.cls ∈ bg_L ∧ plainName yX11_warmestSheet.cls = true := ⟨⟨by decide +kernel, by decide +kernel, by decide +kernel⟩, bg_in 765 (by decide +kernel) rfl, bg_in 5 (by decide +kernel) rfl, by decide +kernel⟩
theorem kt_X11_warmestSheet : Cond.instanceMethod yX11_warmestSheet ∈ bg_L := bg_in 763 (by decide +kernel) rfl
theorem ke_X11_warmestSheet : Cond.selects RX11 yX11_warmestSheet yX11_warmestSheet ∈ bg_L := bg_in 764 (by decide +kernel) rfl
theorem kc_X11_finestSheet : (yX11_finestSheet.cls ≠ "java/lang/invoke/MethodHandle" ∧ yX11_finestSheet.cls ≠ "java/lang/invoke/VarHandle" ∧ (parseMethodDescriptor yX11_finestSheet.desc).map (fun d => d.parameters.length) = some 0) ∧ Cond.code yX11_finestSheet cX11_finestSheet 1 (some .int) ∈ bg_L ∧ Cond.initialized yX11_finestSheet.cls ∈ bg_L ∧ plainName yX11_finestSheet.cls = true := ⟨⟨by decide +kernel, by decide +kernel, by decide +kernel⟩, bg_in 773 (by decide +kernel) rfl, bg_in 5 (by decide +kernel) rfl, by decide +kernel⟩
theorem kt_X11_finestSheet : Cond.instanceMethod yX11_finestSheet ∈ bg_L := bg_in 771 (by decide +kernel) rfl
theorem ke_X11_finestSheet : Cond.selects RX11 yX11_finestSheet yX11_finestSheet ∈ bg_L := bg_in 772 (by decide +kernel) rfl
theorem kc_X11_butterShare : (yX11_butterShare.cls ≠ "java/lang/invoke/MethodHandle" ∧ yX11_butterShare.cls ≠ "java/lang/invoke/VarHandle" ∧ (parseMethodDescriptor yX11_butterShare.desc).map (fun d => d.parameters.length) = some 1) ∧ Cond.code yX11_butterShare cX11_butterShare 4 (some .float) ∈ bg_L ∧ Cond.initialized yX11_butterShare.cls ∈ bg_L ∧ plainName yX11_butterShare.cls = true := ⟨⟨by decide +kernel, by decide +kernel, by decide +kernel⟩, bg_in 781 (by decide +kernel) rfl, bg_in 5 (by decide +kernel) rfl, by decide +kernel⟩
theorem kt_X11_butterShare : Cond.instanceMethod yX11_butterShare ∈ bg_L := bg_in 779 (by decide +kernel) rfl
theorem ke_X11_butterShare : Cond.selects RX11 yX11_butterShare yX11_butterShare ∈ bg_L := bg_in 780 (by decide +kernel) rfl
theorem kc_X11_foldObstacle : (yX11_foldObstacle.cls ≠ "java/lang/invoke/MethodHandle" ∧ yX11_foldObstacle.cls ≠ "java/lang/invoke/VarHandle" ∧ (parseMethodDescriptor yX11_foldObstacle.desc).map (fun d => d.parameters.length) = some 2) ∧ Cond.code yX11_foldObstacle cX11_foldObstacle 4 (some .int) ∈ bg_L ∧ Cond.initialized yX11_foldObstacle.cls ∈ bg_L ∧ plainName yX11_foldObstacle.cls = true := ⟨⟨by decide +kernel, by decide +kernel, by decide +kernel⟩, bg_in 785 (by decide +kernel) rfl, bg_in 5 (by decide +kernel) rfl, by decide +kernel⟩
theorem kt_X11_foldObstacle : Cond.instanceMethod yX11_foldObstacle ∈ bg_L := bg_in 783 (by decide +kernel) rfl
theorem ke_X11_foldObstacle : Cond.selects RX11 yX11_foldObstacle yX11_foldObstacle ∈ bg_L := bg_in 784 (by decide +kernel) rfl
theorem kc_X11_layersAfterFold : (yX11_layersAfterFold.cls ≠ "java/lang/invoke/MethodHandle" ∧ yX11_layersAfterFold.cls ≠ "java/lang/invoke/VarHandle" ∧ (parseMethodDescriptor yX11_layersAfterFold.desc).map (fun d => d.parameters.length) = some 2) ∧ Cond.code yX11_layersAfterFold cX11_layersAfterFold 4 (some .int) ∈ bg_L ∧ Cond.initialized yX11_layersAfterFold.cls ∈ bg_L ∧ plainName yX11_layersAfterFold.cls = true := ⟨⟨by decide +kernel, by decide +kernel, by decide +kernel⟩, bg_in 804 (by decide +kernel) rfl, bg_in 5 (by decide +kernel) rfl, by decide +kernel⟩
theorem kt_X11_layersAfterFold : Cond.instanceMethod yX11_layersAfterFold ∈ bg_L := bg_in 802 (by decide +kernel) rfl
theorem ke_X11_layersAfterFold : Cond.selects RX11 yX11_layersAfterFold yX11_layersAfterFold ∈ bg_L := bg_in 803 (by decide +kernel) rfl
theorem kc_X11_foldsPossible : (yX11_foldsPossible.cls ≠ "java/lang/invoke/MethodHandle" ∧ yX11_foldsPossible.cls ≠ "java/lang/invoke/VarHandle" ∧ (parseMethodDescriptor yX11_foldsPossible.desc).map (fun d => d.parameters.length) = some 2) ∧ Cond.code yX11_foldsPossible cX11_foldsPossible 4 (some .int) ∈ bg_L ∧ Cond.initialized yX11_foldsPossible.cls ∈ bg_L ∧ plainName yX11_foldsPossible.cls = true := ⟨⟨by decide +kernel, by decide +kernel, by decide +kernel⟩, bg_in 809 (by decide +kernel) rfl, bg_in 5 (by decide +kernel) rfl, by decide +kernel⟩
theorem kt_X11_foldsPossible : Cond.instanceMethod yX11_foldsPossible ∈ bg_L := bg_in 807 (by decide +kernel) rfl
theorem ke_X11_foldsPossible : Cond.selects RX11 yX11_foldsPossible yX11_foldsPossible ∈ bg_L := bg_in 808 (by decide +kernel) rfl
theorem kc_X11_layersAtRisk : (yX11_layersAtRisk.cls ≠ "java/lang/invoke/MethodHandle" ∧ yX11_layersAtRisk.cls ≠ "java/lang/invoke/VarHandle" ∧ (parseMethodDescriptor yX11_layersAtRisk.desc).map (fun d => d.parameters.length) = some 2) ∧ Cond.code yX11_layersAtRisk cX11_layersAtRisk 4 (some .int) ∈ bg_L ∧ Cond.initialized yX11_layersAtRisk.cls ∈ bg_L ∧ plainName yX11_layersAtRisk.cls = true := ⟨⟨by decide +kernel, by decide +kernel, by decide +kernel⟩, bg_in 817 (by decide +kernel) rfl, bg_in 5 (by decide +kernel) rfl, by decide +kernel⟩
theorem kt_X11_layersAtRisk : Cond.instanceMethod yX11_layersAtRisk ∈ bg_L := bg_in 815 (by decide +kernel) rfl
theorem ke_X11_layersAtRisk : Cond.selects RX11 yX11_layersAtRisk yX11_layersAtRisk ∈ bg_L := bg_in 816 (by decide +kernel) rfl
theorem kc_L_most : (yL_most.cls ≠ "java/lang/invoke/MethodHandle" ∧ yL_most.cls ≠ "java/lang/invoke/VarHandle" ∧ (parseMethodDescriptor yL_most.desc).map (fun d => d.parameters.length) = some 2) ∧ Cond.code yL_most cL_most 2 (some .int) ∈ bg_L ∧ Cond.initialized yL_most.cls ∈ bg_L ∧ plainName yL_most.cls = true := ⟨⟨by decide +kernel, by decide +kernel, by decide +kernel⟩, bg_in 553 (by decide +kernel) rfl, bg_in 4 (by decide +kernel) rfl, by decide +kernel⟩
theorem kt_L_most : Cond.static yL_most ∈ bg_L := bg_in 552 (by decide +kernel) rfl
theorem kc_X11_buyFlour : (yX11_buyFlour.cls ≠ "java/lang/invoke/MethodHandle" ∧ yX11_buyFlour.cls ≠ "java/lang/invoke/VarHandle" ∧ (parseMethodDescriptor yX11_buyFlour.desc).map (fun d => d.parameters.length) = some 1) ∧ Cond.code yX11_buyFlour cX11_buyFlour 2 (some .int) ∈ bg_L ∧ Cond.initialized yX11_buyFlour.cls ∈ bg_L ∧ plainName yX11_buyFlour.cls = true := ⟨⟨by decide +kernel, by decide +kernel, by decide +kernel⟩, bg_in 832 (by decide +kernel) rfl, bg_in 5 (by decide +kernel) rfl, by decide +kernel⟩
theorem kt_X11_buyFlour : Cond.instanceMethod yX11_buyFlour ∈ bg_L := bg_in 830 (by decide +kernel) rfl
theorem ke_X11_buyFlour : Cond.selects RX11 yX11_buyFlour yX11_buyFlour ∈ bg_L := bg_in 831 (by decide +kernel) rfl
theorem kc_X11_isSymmetric : (yX11_isSymmetric.cls ≠ "java/lang/invoke/MethodHandle" ∧ yX11_isSymmetric.cls ≠ "java/lang/invoke/VarHandle" ∧ (parseMethodDescriptor yX11_isSymmetric.desc).map (fun d => d.parameters.length) = some 1) ∧ Cond.code yX11_isSymmetric cX11_isSymmetric 2 (some .boolean) ∈ bg_L ∧ Cond.initialized yX11_isSymmetric.cls ∈ bg_L ∧ plainName yX11_isSymmetric.cls = true := ⟨⟨by decide +kernel, by decide +kernel, by decide +kernel⟩, bg_in 870 (by decide +kernel) rfl, bg_in 5 (by decide +kernel) rfl, by decide +kernel⟩
theorem kt_X11_isSymmetric : Cond.instanceMethod yX11_isSymmetric ∈ bg_L := bg_in 868 (by decide +kernel) rfl
theorem ke_X11_isSymmetric : Cond.selects RX11 yX11_isSymmetric yX11_isSymmetric ∈ bg_L := bg_in 869 (by decide +kernel) rfl
theorem kc_X11_fold : (yX11_fold.cls ≠ "java/lang/invoke/MethodHandle" ∧ yX11_fold.cls ≠ "java/lang/invoke/VarHandle" ∧ (parseMethodDescriptor yX11_fold.desc).map (fun d => d.parameters.length) = some 2) ∧ Cond.code yX11_fold cX11_fold 3 (some .int) ∈ bg_L ∧ Cond.initialized yX11_fold.cls ∈ bg_L ∧ plainName yX11_fold.cls = true := ⟨⟨by decide +kernel, by decide +kernel, by decide +kernel⟩, bg_in 878 (by decide +kernel) rfl, bg_in 5 (by decide +kernel) rfl, by decide +kernel⟩
theorem kt_X11_fold : Cond.instanceMethod yX11_fold ∈ bg_L := bg_in 876 (by decide +kernel) rfl
theorem ke_X11_fold : Cond.selects RX11 yX11_fold yX11_fold ∈ bg_L := bg_in 877 (by decide +kernel) rfl
theorem kc_X11_heightAfterRoll : (yX11_heightAfterRoll.cls ≠ "java/lang/invoke/MethodHandle" ∧ yX11_heightAfterRoll.cls ≠ "java/lang/invoke/VarHandle" ∧ (parseMethodDescriptor yX11_heightAfterRoll.desc).map (fun d => d.parameters.length) = some 2) ∧ Cond.code yX11_heightAfterRoll cX11_heightAfterRoll 4 (some .int) ∈ bg_L ∧ Cond.initialized yX11_heightAfterRoll.cls ∈ bg_L ∧ plainName yX11_heightAfterRoll.cls = true := ⟨⟨by decide +kernel, by decide +kernel, by decide +kernel⟩, bg_in 902 (by decide +kernel) rfl, bg_in 5 (by decide +kernel) rfl, by decide +kernel⟩
theorem kt_X11_heightAfterRoll : Cond.instanceMethod yX11_heightAfterRoll ∈ bg_L := bg_in 900 (by decide +kernel) rfl
theorem ke_X11_heightAfterRoll : Cond.selects RX11 yX11_heightAfterRoll yX11_heightAfterRoll ∈ bg_L := bg_in 901 (by decide +kernel) rfl
theorem kc_X11_roll : (yX11_roll.cls ≠ "java/lang/invoke/MethodHandle" ∧ yX11_roll.cls ≠ "java/lang/invoke/VarHandle" ∧ (parseMethodDescriptor yX11_roll.desc).map (fun d => d.parameters.length) = some 2) ∧ Cond.code yX11_roll cX11_roll 3 (some .int) ∈ bg_L ∧ Cond.initialized yX11_roll.cls ∈ bg_L ∧ plainName yX11_roll.cls = true := ⟨⟨by decide +kernel, by decide +kernel, by decide +kernel⟩, bg_in 910 (by decide +kernel) rfl, bg_in 5 (by decide +kernel) rfl, by decide +kernel⟩
theorem kt_X11_roll : Cond.instanceMethod yX11_roll ∈ bg_L := bg_in 908 (by decide +kernel) rfl
theorem ke_X11_roll : Cond.selects RX11 yX11_roll yX11_roll ∈ bg_L := bg_in 909 (by decide +kernel) rfl
theorem kc_X11_dust : (yX11_dust.cls ≠ "java/lang/invoke/MethodHandle" ∧ yX11_dust.cls ≠ "java/lang/invoke/VarHandle" ∧ (parseMethodDescriptor yX11_dust.desc).map (fun d => d.parameters.length) = some 1) ∧ Cond.code yX11_dust cX11_dust 2 (some .int) ∈ bg_L ∧ Cond.initialized yX11_dust.cls ∈ bg_L ∧ plainName yX11_dust.cls = true := ⟨⟨by decide +kernel, by decide +kernel, by decide +kernel⟩, bg_in 928 (by decide +kernel) rfl, bg_in 5 (by decide +kernel) rfl, by decide +kernel⟩
theorem kt_X11_dust : Cond.instanceMethod yX11_dust ∈ bg_L := bg_in 926 (by decide +kernel) rfl
theorem ke_X11_dust : Cond.selects RX11 yX11_dust yX11_dust ∈ bg_L := bg_in 927 (by decide +kernel) rfl
theorem kc_X11_seal : (yX11_seal.cls ≠ "java/lang/invoke/MethodHandle" ∧ yX11_seal.cls ≠ "java/lang/invoke/VarHandle" ∧ (parseMethodDescriptor yX11_seal.desc).map (fun d => d.parameters.length) = some 1) ∧ Cond.code yX11_seal cX11_seal 2 (some .int) ∈ bg_L ∧ Cond.initialized yX11_seal.cls ∈ bg_L ∧ plainName yX11_seal.cls = true := ⟨⟨by decide +kernel, by decide +kernel, by decide +kernel⟩, bg_in 940 (by decide +kernel) rfl, bg_in 5 (by decide +kernel) rfl, by decide +kernel⟩
theorem kt_X11_seal : Cond.instanceMethod yX11_seal ∈ bg_L := bg_in 938 (by decide +kernel) rfl
theorem ke_X11_seal : Cond.selects RX11 yX11_seal yX11_seal ∈ bg_L := bg_in 939 (by decide +kernel) rfl
theorem kc_X11_takeOut : (yX11_takeOut.cls ≠ "java/lang/invoke/MethodHandle" ∧ yX11_takeOut.cls ≠ "java/lang/invoke/VarHandle" ∧ (parseMethodDescriptor yX11_takeOut.desc).map (fun d => d.parameters.length) = some 1) ∧ Cond.code yX11_takeOut cX11_takeOut 2 (some .int) ∈ bg_L ∧ Cond.initialized yX11_takeOut.cls ∈ bg_L ∧ plainName yX11_takeOut.cls = true := ⟨⟨by decide +kernel, by decide +kernel, by decide +kernel⟩, bg_in 956 (by decide +kernel) rfl, bg_in 5 (by decide +kernel) rfl, by decide +kernel⟩
theorem kt_X11_takeOut : Cond.instanceMethod yX11_takeOut ∈ bg_L := bg_in 954 (by decide +kernel) rfl
theorem ke_X11_takeOut : Cond.selects RX11 yX11_takeOut yX11_takeOut ∈ bg_L := bg_in 955 (by decide +kernel) rfl
theorem kc_X11_cool : (yX11_cool.cls ≠ "java/lang/invoke/MethodHandle" ∧ yX11_cool.cls ≠ "java/lang/invoke/VarHandle" ∧ (parseMethodDescriptor yX11_cool.desc).map (fun d => d.parameters.length) = some 1) ∧ Cond.code yX11_cool cX11_cool 2 (some .int) ∈ bg_L ∧ Cond.initialized yX11_cool.cls ∈ bg_L ∧ plainName yX11_cool.cls = true := ⟨⟨by decide +kernel, by decide +kernel, by decide +kernel⟩, bg_in 968 (by decide +kernel) rfl, bg_in 5 (by decide +kernel) rfl, by decide +kernel⟩
theorem kt_X11_cool : Cond.instanceMethod yX11_cool ∈ bg_L := bg_in 966 (by decide +kernel) rfl
theorem ke_X11_cool : Cond.selects RX11 yX11_cool yX11_cool ∈ bg_L := bg_in 967 (by decide +kernel) rfl
theorem kc_X11_passHours : (yX11_passHours.cls ≠ "java/lang/invoke/MethodHandle" ∧ yX11_passHours.cls ≠ "java/lang/invoke/VarHandle" ∧ (parseMethodDescriptor yX11_passHours.desc).map (fun d => d.parameters.length) = some 1) ∧ Cond.code yX11_passHours cX11_passHours 2 (some .int) ∈ bg_L ∧ Cond.initialized yX11_passHours.cls ∈ bg_L ∧ plainName yX11_passHours.cls = true := ⟨⟨by decide +kernel, by decide +kernel, by decide +kernel⟩, bg_in 984 (by decide +kernel) rfl, bg_in 5 (by decide +kernel) rfl, by decide +kernel⟩
theorem kt_X11_passHours : Cond.instanceMethod yX11_passHours ∈ bg_L := bg_in 982 (by decide +kernel) rfl
theorem ke_X11_passHours : Cond.selects RX11 yX11_passHours yX11_passHours ∈ bg_L := bg_in 983 (by decide +kernel) rfl
theorem kc_X11_cut : (yX11_cut.cls ≠ "java/lang/invoke/MethodHandle" ∧ yX11_cut.cls ≠ "java/lang/invoke/VarHandle" ∧ (parseMethodDescriptor yX11_cut.desc).map (fun d => d.parameters.length) = some 1) ∧ Cond.code yX11_cut cX11_cut 2 (some .int) ∈ bg_L ∧ Cond.initialized yX11_cut.cls ∈ bg_L ∧ plainName yX11_cut.cls = true := ⟨⟨by decide +kernel, by decide +kernel, by decide +kernel⟩, bg_in 1001 (by decide +kernel) rfl, bg_in 5 (by decide +kernel) rfl, by decide +kernel⟩
theorem kt_X11_cut : Cond.instanceMethod yX11_cut ∈ bg_L := bg_in 999 (by decide +kernel) rfl
theorem ke_X11_cut : Cond.selects RX11 yX11_cut yX11_cut ∈ bg_L := bg_in 1000 (by decide +kernel) rfl
theorem kc_X11_stack : (yX11_stack.cls ≠ "java/lang/invoke/MethodHandle" ∧ yX11_stack.cls ≠ "java/lang/invoke/VarHandle" ∧ (parseMethodDescriptor yX11_stack.desc).map (fun d => d.parameters.length) = some 2) ∧ Cond.code yX11_stack cX11_stack 3 (some .int) ∈ bg_L ∧ Cond.initialized yX11_stack.cls ∈ bg_L ∧ plainName yX11_stack.cls = true := ⟨⟨by decide +kernel, by decide +kernel, by decide +kernel⟩, bg_in 1013 (by decide +kernel) rfl, bg_in 5 (by decide +kernel) rfl, by decide +kernel⟩
theorem kt_X11_stack : Cond.instanceMethod yX11_stack ∈ bg_L := bg_in 1011 (by decide +kernel) rfl
theorem ke_X11_stack : Cond.selects RX11 yX11_stack yX11_stack ∈ bg_L := bg_in 1012 (by decide +kernel) rfl
theorem kc_X11_addButter : (yX11_addButter.cls ≠ "java/lang/invoke/MethodHandle" ∧ yX11_addButter.cls ≠ "java/lang/invoke/VarHandle" ∧ (parseMethodDescriptor yX11_addButter.desc).map (fun d => d.parameters.length) = some 2) ∧ Cond.code yX11_addButter cX11_addButter 3 (some .int) ∈ bg_L ∧ Cond.initialized yX11_addButter.cls ∈ bg_L ∧ plainName yX11_addButter.cls = true := ⟨⟨by decide +kernel, by decide +kernel, by decide +kernel⟩, bg_in 1042 (by decide +kernel) rfl, bg_in 5 (by decide +kernel) rfl, by decide +kernel⟩
theorem kt_X11_addButter : Cond.instanceMethod yX11_addButter ∈ bg_L := bg_in 1040 (by decide +kernel) rfl
theorem ke_X11_addButter : Cond.selects RX11 yX11_addButter yX11_addButter ∈ bg_L := bg_in 1041 (by decide +kernel) rfl
theorem kc_X11_init : (yX11_init.cls ≠ "java/lang/invoke/MethodHandle" ∧ yX11_init.cls ≠ "java/lang/invoke/VarHandle" ∧ (parseMethodDescriptor yX11_init.desc).map (fun d => d.parameters.length) = some 0) ∧ Cond.code yX11_init cX11_init 1 none ∈ bg_L ∧ Cond.initialized yX11_init.cls ∈ bg_L ∧ plainName yX11_init.cls = true := ⟨⟨by decide +kernel, by decide +kernel, by decide +kernel⟩, bg_in 37 (by decide +kernel) rfl, bg_in 5 (by decide +kernel) rfl, by decide +kernel⟩
theorem kt_X11_init : Cond.instanceMethod yX11_init ∈ bg_L := bg_in 36 (by decide +kernel) rfl
theorem kc_L_cell : (yL_cell.cls ≠ "java/lang/invoke/MethodHandle" ∧ yL_cell.cls ≠ "java/lang/invoke/VarHandle" ∧ (parseMethodDescriptor yL_cell.desc).map (fun d => d.parameters.length) = some 2) ∧ Cond.code yL_cell cL_cell 2 (some .int) ∈ bg_L ∧ Cond.initialized yL_cell.cls ∈ bg_L ∧ plainName yL_cell.cls = true := ⟨⟨by decide +kernel, by decide +kernel, by decide +kernel⟩, bg_in 557 (by decide +kernel) rfl, bg_in 4 (by decide +kernel) rfl, by decide +kernel⟩
theorem kt_L_cell : Cond.static yL_cell ∈ bg_L := bg_in 556 (by decide +kernel) rfl
theorem kc_J4_init_a7421 : (yJ4_init_a7421.cls ≠ "java/lang/invoke/MethodHandle" ∧ yJ4_init_a7421.cls ≠ "java/lang/invoke/VarHandle" ∧ (parseMethodDescriptor yJ4_init_a7421.desc).map (fun d => d.parameters.length) = some 1) ∧ Cond.code yJ4_init_a7421 cJ4_init_a7421 2 none ∈ bg_L ∧ Cond.initialized yJ4_init_a7421.cls ∈ bg_L ∧ plainName yJ4_init_a7421.cls = true := ⟨⟨by decide +kernel, by decide +kernel, by decide +kernel⟩, bg_in 1059 (by decide +kernel) rfl, bg_in 16 (by decide +kernel) rfl, by decide +kernel⟩
theorem kt_J4_init_a7421 : Cond.instanceMethod yJ4_init_a7421 ∈ bg_L := bg_in 1058 (by decide +kernel) rfl
theorem kc_J4_append_bf812 : (yJ4_append_bf812.cls ≠ "java/lang/invoke/MethodHandle" ∧ yJ4_append_bf812.cls ≠ "java/lang/invoke/VarHandle" ∧ (parseMethodDescriptor yJ4_append_bf812.desc).map (fun d => d.parameters.length) = some 1) ∧ Cond.code yJ4_append_bf812 cJ4_append_bf812 2 (some (.object "java/lang/StringBuilder")) ∈ bg_L ∧ Cond.initialized yJ4_append_bf812.cls ∈ bg_L ∧ plainName yJ4_append_bf812.cls = true := ⟨⟨by decide +kernel, by decide +kernel, by decide +kernel⟩, bg_in 1205 (by decide +kernel) rfl, bg_in 16 (by decide +kernel) rfl, by decide +kernel⟩
theorem kt_J4_append_bf812 : Cond.instanceMethod yJ4_append_bf812 ∈ bg_L := bg_in 1203 (by decide +kernel) rfl
theorem ke_J4_append_bf812 : Cond.selects RJ4 yJ4_append_bf812 yJ4_append_bf812 ∈ bg_L := bg_in 1204 (by decide +kernel) rfl
theorem kc_J4_append_cf468 : (yJ4_append_cf468.cls ≠ "java/lang/invoke/MethodHandle" ∧ yJ4_append_cf468.cls ≠ "java/lang/invoke/VarHandle" ∧ (parseMethodDescriptor yJ4_append_cf468.desc).map (fun d => d.parameters.length) = some 1) ∧ Cond.code yJ4_append_cf468 cJ4_append_cf468 2 (some (.object "java/lang/StringBuilder")) ∈ bg_L ∧ Cond.initialized yJ4_append_cf468.cls ∈ bg_L ∧ plainName yJ4_append_cf468.cls = true := ⟨⟨by decide +kernel, by decide +kernel, by decide +kernel⟩, bg_in 1192 (by decide +kernel) rfl, bg_in 16 (by decide +kernel) rfl, by decide +kernel⟩
theorem kt_J4_append_cf468 : Cond.instanceMethod yJ4_append_cf468 ∈ bg_L := bg_in 1190 (by decide +kernel) rfl
theorem ke_J4_append_cf468 : Cond.selects RJ4 yJ4_append_cf468 yJ4_append_cf468 ∈ bg_L := bg_in 1191 (by decide +kernel) rfl
theorem kc_J4_toString_0e30d : (yJ4_toString_0e30d.cls ≠ "java/lang/invoke/MethodHandle" ∧ yJ4_toString_0e30d.cls ≠ "java/lang/invoke/VarHandle" ∧ (parseMethodDescriptor yJ4_toString_0e30d.desc).map (fun d => d.parameters.length) = some 0) ∧ Cond.code yJ4_toString_0e30d cJ4_toString_0e30d 1 (some (.object "java/lang/String")) ∈ bg_L ∧ Cond.initialized yJ4_toString_0e30d.cls ∈ bg_L ∧ plainName yJ4_toString_0e30d.cls = true := ⟨⟨by decide +kernel, by decide +kernel, by decide +kernel⟩, bg_in 1230 (by decide +kernel) rfl, bg_in 16 (by decide +kernel) rfl, by decide +kernel⟩
theorem kt_J4_toString_0e30d : Cond.instanceMethod yJ4_toString_0e30d ∈ bg_L := bg_in 1228 (by decide +kernel) rfl
theorem ke_J4_toString_0e30d : Cond.selects RJ4 yJ4_toString_0e30d yJ4_toString_0e30d ∈ bg_L := bg_in 1229 (by decide +kernel) rfl
theorem kc_L_say : (yL_say.cls ≠ "java/lang/invoke/MethodHandle" ∧ yL_say.cls ≠ "java/lang/invoke/VarHandle" ∧ (parseMethodDescriptor yL_say.desc).map (fun d => d.parameters.length) = some 3) ∧ Cond.code yL_say cL_say 4 none ∈ bg_L ∧ Cond.initialized yL_say.cls ∈ bg_L ∧ plainName yL_say.cls = true := ⟨⟨by decide +kernel, by decide +kernel, by decide +kernel⟩, bg_in 560 (by decide +kernel) rfl, bg_in 4 (by decide +kernel) rfl, by decide +kernel⟩
theorem kt_L_say : Cond.static yL_say ∈ bg_L := bg_in 559 (by decide +kernel) rfl
theorem kc_L_end : (yL_end.cls ≠ "java/lang/invoke/MethodHandle" ∧ yL_end.cls ≠ "java/lang/invoke/VarHandle" ∧ (parseMethodDescriptor yL_end.desc).map (fun d => d.parameters.length) = some 2) ∧ Cond.code yL_end cL_end 3 (some .int) ∈ bg_L ∧ Cond.initialized yL_end.cls ∈ bg_L ∧ plainName yL_end.cls = true := ⟨⟨by decide +kernel, by decide +kernel, by decide +kernel⟩, bg_in 576 (by decide +kernel) rfl, bg_in 4 (by decide +kernel) rfl, by decide +kernel⟩
theorem kt_L_end : Cond.static yL_end ∈ bg_L := bg_in 575 (by decide +kernel) rfl
theorem kc_X11_loadBench : (yX11_loadBench.cls ≠ "java/lang/invoke/MethodHandle" ∧ yX11_loadBench.cls ≠ "java/lang/invoke/VarHandle" ∧ (parseMethodDescriptor yX11_loadBench.desc).map (fun d => d.parameters.length) = some 1) ∧ Cond.code yX11_loadBench cX11_loadBench 3 (some .int) ∈ bg_L ∧ Cond.initialized yX11_loadBench.cls ∈ bg_L ∧ plainName yX11_loadBench.cls = true := ⟨⟨by decide +kernel, by decide +kernel, by decide +kernel⟩, bg_in 296 (by decide +kernel) rfl, bg_in 5 (by decide +kernel) rfl, by decide +kernel⟩
theorem kt_X11_loadBench : Cond.instanceMethod yX11_loadBench ∈ bg_L := bg_in 294 (by decide +kernel) rfl
theorem ke_X11_loadBench : Cond.selects RX11 yX11_loadBench yX11_loadBench ∈ bg_L := bg_in 295 (by decide +kernel) rfl
theorem kc_X11_undoableCount : (yX11_undoableCount.cls ≠ "java/lang/invoke/MethodHandle" ∧ yX11_undoableCount.cls ≠ "java/lang/invoke/VarHandle" ∧ (parseMethodDescriptor yX11_undoableCount.desc).map (fun d => d.parameters.length) = some 0) ∧ Cond.code yX11_undoableCount cX11_undoableCount 1 (some .int) ∈ bg_L ∧ Cond.initialized yX11_undoableCount.cls ∈ bg_L ∧ plainName yX11_undoableCount.cls = true := ⟨⟨by decide +kernel, by decide +kernel, by decide +kernel⟩, bg_in 516 (by decide +kernel) rfl, bg_in 5 (by decide +kernel) rfl, by decide +kernel⟩
theorem kt_X11_undoableCount : Cond.instanceMethod yX11_undoableCount ∈ bg_L := bg_in 514 (by decide +kernel) rfl
theorem ke_X11_undoableCount : Cond.selects RX11 yX11_undoableCount yX11_undoableCount ∈ bg_L := bg_in 515 (by decide +kernel) rfl
theorem kc_L_isBench : (yL_isBench.cls ≠ "java/lang/invoke/MethodHandle" ∧ yL_isBench.cls ≠ "java/lang/invoke/VarHandle" ∧ (parseMethodDescriptor yL_isBench.desc).map (fun d => d.parameters.length) = some 1) ∧ Cond.code yL_isBench cL_isBench 14 (some .boolean) ∈ bg_L ∧ Cond.initialized yL_isBench.cls ∈ bg_L ∧ plainName yL_isBench.cls = true := ⟨⟨by decide +kernel, by decide +kernel, by decide +kernel⟩, bg_in 669 (by decide +kernel) rfl, bg_in 4 (by decide +kernel) rfl, by decide +kernel⟩
theorem kt_L_isBench : Cond.static yL_isBench ∈ bg_L := bg_in 668 (by decide +kernel) rfl
theorem kc_L_all : (yL_all.cls ≠ "java/lang/invoke/MethodHandle" ∧ yL_all.cls ≠ "java/lang/invoke/VarHandle" ∧ (parseMethodDescriptor yL_all.desc).map (fun d => d.parameters.length) = some 1) ∧ Cond.code yL_all cL_all 7 (some (.array .int)) ∈ bg_L ∧ Cond.initialized yL_all.cls ∈ bg_L ∧ plainName yL_all.cls = true := ⟨⟨by decide +kernel, by decide +kernel, by decide +kernel⟩, bg_in 579 (by decide +kernel) rfl, bg_in 4 (by decide +kernel) rfl, by decide +kernel⟩
theorem kt_L_all : Cond.static yL_all ∈ bg_L := bg_in 578 (by decide +kernel) rfl
theorem kc_L_act : (yL_act.cls ≠ "java/lang/invoke/MethodHandle" ∧ yL_act.cls ≠ "java/lang/invoke/VarHandle" ∧ (parseMethodDescriptor yL_act.desc).map (fun d => d.parameters.length) = some 2) ∧ Cond.code yL_act cL_act 16 (some .boolean) ∈ bg_L ∧ Cond.initialized yL_act.cls ∈ bg_L ∧ plainName yL_act.cls = true := ⟨⟨by decide +kernel, by decide +kernel, by decide +kernel⟩, bg_in 828 (by decide +kernel) rfl, bg_in 4 (by decide +kernel) rfl, by decide +kernel⟩
theorem kt_L_act : Cond.static yL_act ∈ bg_L := bg_in 827 (by decide +kernel) rfl
theorem kc_X11_undo : (yX11_undo.cls ≠ "java/lang/invoke/MethodHandle" ∧ yX11_undo.cls ≠ "java/lang/invoke/VarHandle" ∧ (parseMethodDescriptor yX11_undo.desc).map (fun d => d.parameters.length) = some 0) ∧ Cond.code yX11_undo cX11_undo 1 (some .int) ∈ bg_L ∧ Cond.initialized yX11_undo.cls ∈ bg_L ∧ plainName yX11_undo.cls = true := ⟨⟨by decide +kernel, by decide +kernel, by decide +kernel⟩, bg_in 520 (by decide +kernel) rfl, bg_in 5 (by decide +kernel) rfl, by decide +kernel⟩
theorem kt_X11_undo : Cond.instanceMethod yX11_undo ∈ bg_L := bg_in 518 (by decide +kernel) rfl
theorem ke_X11_undo : Cond.selects RX11 yX11_undo yX11_undo ∈ bg_L := bg_in 519 (by decide +kernel) rfl
theorem kc_L_alike : (yL_alike.cls ≠ "java/lang/invoke/MethodHandle" ∧ yL_alike.cls ≠ "java/lang/invoke/VarHandle" ∧ (parseMethodDescriptor yL_alike.desc).map (fun d => d.parameters.length) = some 2) ∧ Cond.code yL_alike cL_alike 3 (some .boolean) ∈ bg_L ∧ Cond.initialized yL_alike.cls ∈ bg_L ∧ plainName yL_alike.cls = true := ⟨⟨by decide +kernel, by decide +kernel, by decide +kernel⟩, bg_in 666 (by decide +kernel) rfl, bg_in 4 (by decide +kernel) rfl, by decide +kernel⟩
theorem kt_L_alike : Cond.static yL_alike ∈ bg_L := bg_in 665 (by decide +kernel) rfl
theorem kc_X11_saveSnapshot : (yX11_saveSnapshot.cls ≠ "java/lang/invoke/MethodHandle" ∧ yX11_saveSnapshot.cls ≠ "java/lang/invoke/VarHandle" ∧ (parseMethodDescriptor yX11_saveSnapshot.desc).map (fun d => d.parameters.length) = some 0) ∧ Cond.code yX11_saveSnapshot cX11_saveSnapshot 1 none ∈ bg_L ∧ Cond.initialized yX11_saveSnapshot.cls ∈ bg_L ∧ plainName yX11_saveSnapshot.cls = true := ⟨⟨by decide +kernel, by decide +kernel, by decide +kernel⟩, bg_in 545 (by decide +kernel) rfl, bg_in 5 (by decide +kernel) rfl, by decide +kernel⟩
theorem kt_X11_saveSnapshot : Cond.instanceMethod yX11_saveSnapshot ∈ bg_L := bg_in 543 (by decide +kernel) rfl
theorem ke_X11_saveSnapshot : Cond.selects RX11 yX11_saveSnapshot yX11_saveSnapshot ∈ bg_L := bg_in 544 (by decide +kernel) rfl
theorem kc_X11_restoreSnapshot : (yX11_restoreSnapshot.cls ≠ "java/lang/invoke/MethodHandle" ∧ yX11_restoreSnapshot.cls ≠ "java/lang/invoke/VarHandle" ∧ (parseMethodDescriptor yX11_restoreSnapshot.desc).map (fun d => d.parameters.length) = some 0) ∧ Cond.code yX11_restoreSnapshot cX11_restoreSnapshot 1 (some .int) ∈ bg_L ∧ Cond.initialized yX11_restoreSnapshot.cls ∈ bg_L ∧ plainName yX11_restoreSnapshot.cls = true := ⟨⟨by decide +kernel, by decide +kernel, by decide +kernel⟩, bg_in 549 (by decide +kernel) rfl, bg_in 5 (by decide +kernel) rfl, by decide +kernel⟩
theorem kt_X11_restoreSnapshot : Cond.instanceMethod yX11_restoreSnapshot ∈ bg_L := bg_in 547 (by decide +kernel) rfl
theorem ke_X11_restoreSnapshot : Cond.selects RX11 yX11_restoreSnapshot yX11_restoreSnapshot ∈ bg_L := bg_in 548 (by decide +kernel) rfl
theorem km_X8_3 : Cond.methodLink RX8 3 Lib.objectInit ∈ bg_L := bg_in 126 (by decide +kernel) rfl
theorem km_X1_3 : Cond.methodLink RX1 3 Lib.objectInit ∈ bg_L := bg_in 119 (by decide +kernel) rfl
theorem km_X1_53 : Cond.methodLink RX1 53 yX8_begin ∈ bg_L := bg_in 211 (by decide +kernel) rfl
theorem km_X8_46 : Cond.methodLink RX8 46 yX8_wouldJoin ∈ bg_L := bg_in 227 (by decide +kernel) rfl
theorem km_X8_42 : Cond.methodLink RX8 42 yX8_putLayer ∈ bg_L := bg_in 223 (by decide +kernel) rfl
theorem km_X1_55 : Cond.methodLink RX1 55 yX8_load ∈ bg_L := bg_in 219 (by decide +kernel) rfl
theorem km_X1_18 : Cond.methodLink RX1 18 yX1_init ∈ bg_L := bg_in 116 (by decide +kernel) rfl
theorem km_X1_19 : Cond.methodLink RX1 19 yX1_begin ∈ bg_L := bg_in 203 (by decide +kernel) rfl
theorem km_X1_23 : Cond.methodLink RX1 23 yX1_addSheet ∈ bg_L := bg_in 207 (by decide +kernel) rfl
theorem km_X1_27 : Cond.methodLink RX1 27 yX1_addLayer ∈ bg_L := bg_in 215 (by decide +kernel) rfl
theorem km_X1_58 : Cond.methodLink RX1 58 yX8_copyFrom ∈ bg_L := bg_in 505 (by decide +kernel) rfl
theorem km_X8_54 : Cond.methodLink RX8 54 yX8_totalHeight ∈ bg_L := bg_in 800 (by decide +kernel) rfl
theorem km_X1_84 : Cond.methodLink RX1 84 yX1_hasSheet ∈ bg_L := bg_in 883 (by decide +kernel) rfl
theorem km_X1_97 : Cond.methodLink RX1 97 yX8_findFoldObstacle ∈ bg_L := bg_in 886 (by decide +kernel) rfl
theorem km_X1_101 : Cond.methodLink RX1 101 yX1_stateRefusal ∈ bg_L := bg_in 839 (by decide +kernel) rfl
theorem km_X11_359 : Cond.methodLink RX11 359 Lib.Math.min.name ∈ bg_L := bg_in 898 (by decide +kernel) rfl
theorem km_X1_105 : Cond.methodLink RX1 105 yX8_foldUp ∈ bg_L := bg_in 891 (by decide +kernel) rfl
theorem km_X8_62 : Cond.methodLink RX8 62 Lib.Math.max.name ∈ bg_L := bg_in 702 (by decide +kernel) rfl
theorem km_X8_68 : Cond.methodLink RX8 68 yX8_lossPerLayer ∈ bg_L := bg_in 698 (by decide +kernel) rfl
theorem km_X8_74 : Cond.methodLink RX8 74 yX8_thicknessRolled ∈ bg_L := bg_in 822 (by decide +kernel) rfl
theorem km_X1_108 : Cond.methodLink RX1 108 yX8_sumRolled ∈ bg_L := bg_in 915 (by decide +kernel) rfl
theorem km_X8_71 : Cond.methodLink RX8 71 Lib.Math.min.name ∈ bg_L := bg_in 705 (by decide +kernel) rfl
theorem km_X1_112 : Cond.methodLink RX1 112 yX8_sumEscaping ∈ bg_L := bg_in 920 (by decide +kernel) rfl
theorem km_X1_115 : Cond.methodLink RX1 115 yX8_rollOut ∈ bg_L := bg_in 921 (by decide +kernel) rfl
theorem km_X1_121 : Cond.methodLink RX1 121 yX1_countSealed ∈ bg_L := bg_in 949 (by decide +kernel) rfl
theorem km_X1_125 : Cond.methodLink RX1 125 yX1_countCooling ∈ bg_L := bg_in 973 (by decide +kernel) rfl
theorem km_X11_364 : Cond.methodLink RX11 364 Lib.Math.max.name ∈ bg_L := bg_in 741 (by decide +kernel) rfl
theorem km_X1_128 : Cond.methodLink RX1 128 yX8_warmthAfter ∈ bg_L := bg_in 993 (by decide +kernel) rfl
theorem km_X1_131 : Cond.methodLink RX1 131 yX1_countUnsafe ∈ bg_L := bg_in 994 (by decide +kernel) rfl
theorem km_X8_84 : Cond.methodLink RX8 84 yX8_joinsWith ∈ bg_L := bg_in 1022 (by decide +kernel) rfl
theorem km_X1_134 : Cond.methodLink RX1 134 yX8_layersWith ∈ bg_L := bg_in 1018 (by decide +kernel) rfl
theorem km_X1_138 : Cond.methodLink RX1 138 yX8_totalHeight ∈ bg_L := bg_in 1026 (by decide +kernel) rfl
theorem km_X1_141 : Cond.methodLink RX1 141 yX8_carry ∈ bg_L := bg_in 1031 (by decide +kernel) rfl
theorem km_X1_144 : Cond.methodLink RX1 144 yX1_removeSheet ∈ bg_L := bg_in 1035 (by decide +kernel) rfl
theorem km_X1_147 : Cond.methodLink RX1 147 yX8_butterTop ∈ bg_L := bg_in 1051 (by decide +kernel) rfl
theorem km_X3_3 : Cond.methodLink RX3 3 Lib.objectInit ∈ bg_L := bg_in 238 (by decide +kernel) rfl
theorem km_X3_17 : Cond.methodLink RX3 17 yX1_init ∈ bg_L := bg_in 241 (by decide +kernel) rfl
theorem km_X3_22 : Cond.methodLink RX3 22 yX3_dropOldest ∈ bg_L := bg_in 859 (by decide +kernel) rfl
theorem km_X3_25 : Cond.methodLink RX3 25 yX1_copyFrom ∈ bg_L := bg_in 541 (by decide +kernel) rfl
theorem km_X4_3 : Cond.methodLink RX4 3 Lib.objectInit ∈ bg_L := bg_in 255 (by decide +kernel) rfl
theorem km_X10_3 : Cond.methodLink RX10 3 Lib.objectInit ∈ bg_L := bg_in 52 (by decide +kernel) rfl
theorem km_X5_3 : Cond.methodLink RX5 3 Lib.objectInit ∈ bg_L := bg_in 46 (by decide +kernel) rfl
theorem km_X10_40 : Cond.methodLink RX10 40 yX10_isSeparator ∈ bg_L := bg_in 388 (by decide +kernel) rfl
theorem km_X10_47 : Cond.methodLink RX10 47 yX10_isLetter ∈ bg_L := bg_in 391 (by decide +kernel) rfl
theorem km_X10_53 : Cond.methodLink RX10 53 yX10_isDigit ∈ bg_L := bg_in 396 (by decide +kernel) rfl
theorem km_X10_24 : Cond.methodLink RX10 24 Lib.Math.min.name ∈ bg_L := bg_in 381 (by decide +kernel) rfl
theorem km_X10_37 : Cond.methodLink RX10 37 yX10_advance ∈ bg_L := bg_in 384 (by decide +kernel) rfl
theorem km_X5_25 : Cond.methodLink RX5 25 yX10_begin ∈ bg_L := bg_in 377 (by decide +kernel) rfl
theorem km_J0_335 : Cond.methodLink RJ0 335 yJ0_coder_7d493 ∈ bg_L := bg_in 423 (by decide +kernel) rfl
theorem km_J0_1059 : Cond.methodLink RJ0 1059 yJ3_checkIndex_8e157 ∈ bg_L := bg_in 445 (by decide +kernel) rfl
theorem km_J1_9 : Cond.methodLink RJ1 9 yJ0_checkIndex_df160 ∈ bg_L := bg_in 440 (by decide +kernel) rfl
theorem km_J2_48 : Cond.methodLink RJ2 48 yJ2_length_9d52b ∈ bg_L := bg_in 454 (by decide +kernel) rfl
theorem km_J2_414 : Cond.methodLink RJ2 414 yJ0_checkIndex_df160 ∈ bg_L := bg_in 457 (by decide +kernel) rfl
theorem km_J2_67 : Cond.methodLink RJ2 67 yJ2_checkIndex_2214a ∈ bg_L := bg_in 451 (by decide +kernel) rfl
theorem km_J2_71 : Cond.methodLink RJ2 71 yJ2_getChar_3b067 ∈ bg_L := bg_in 458 (by decide +kernel) rfl
theorem km_J0_492 : Cond.methodLink RJ0 492 yJ0_isLatin1_aae02 ∈ bg_L := bg_in 433 (by decide +kernel) rfl
theorem km_J0_495 : Cond.methodLink RJ0 495 yJ1_charAt_3b067 ∈ bg_L := bg_in 437 (by decide +kernel) rfl
theorem km_J0_498 : Cond.methodLink RJ0 498 yJ2_charAt_3b067 ∈ bg_L := bg_in 448 (by decide +kernel) rfl
theorem km_X10_69 : Cond.methodLink RX10 69 yJ0_length_8abf5 ∈ bg_L := bg_in 419 (by decide +kernel) rfl
theorem km_X10_74 : Cond.methodLink RX10 74 yJ0_charAt_5068e ∈ bg_L := bg_in 429 (by decide +kernel) rfl
theorem km_X5_32 : Cond.methodLink RX5 32 yX10_isWord ∈ bg_L := bg_in 415 (by decide +kernel) rfl
theorem km_X5_36 : Cond.methodLink RX5 36 yX5_fail ∈ bg_L := bg_in 467 (by decide +kernel) rfl
theorem km_X5_40 : Cond.methodLink RX5 40 yX10_advance ∈ bg_L := bg_in 471 (by decide +kernel) rfl
theorem km_X5_76 : Cond.methodLink RX5 76 yX5_takeWord ∈ bg_L := bg_in 411 (by decide +kernel) rfl
theorem km_X5_79 : Cond.methodLink RX5 79 yX5_takeNumber ∈ bg_L := bg_in 472 (by decide +kernel) rfl
theorem km_X5_83 : Cond.methodLink RX5 83 yX1_begin ∈ bg_L := bg_in 477 (by decide +kernel) rfl
theorem km_X5_88 : Cond.methodLink RX5 88 yX5_takeSemicolon ∈ bg_L := bg_in 478 (by decide +kernel) rfl
theorem km_X5_99 : Cond.methodLink RX5 99 yX5_isLayerWord ∈ bg_L := bg_in 494 (by decide +kernel) rfl
theorem km_X5_106 : Cond.methodLink RX5 106 yX1_addLayer ∈ bg_L := bg_in 500 (by decide +kernel) rfl
theorem km_X5_92 : Cond.methodLink RX5 92 yX1_addSheet ∈ bg_L := bg_in 489 (by decide +kernel) rfl
theorem km_X5_96 : Cond.methodLink RX5 96 yX5_readLayer ∈ bg_L := bg_in 490 (by decide +kernel) rfl
theorem km_X5_61 : Cond.methodLink RX5 61 yX5_begin ∈ bg_L := bg_in 373 (by decide +kernel) rfl
theorem km_X5_62 : Cond.methodLink RX5 62 yX5_readHeader ∈ bg_L := bg_in 406 (by decide +kernel) rfl
theorem km_X5_69 : Cond.methodLink RX5 69 yX5_readSheet ∈ bg_L := bg_in 484 (by decide +kernel) rfl
theorem km_X7_3 : Cond.methodLink RX7 3 Lib.objectInit ∈ bg_L := bg_in 96 (by decide +kernel) rfl
theorem km_X11_1 : Cond.methodLink RX11 1 Lib.objectInit ∈ bg_L := bg_in 38 (by decide +kernel) rfl
theorem km_X11_27 : Cond.methodLink RX11 27 yX1_first ∈ bg_L := bg_in 111 (by decide +kernel) rfl
theorem km_X11_37 : Cond.methodLink RX11 37 yX1_init ∈ bg_L := bg_in 232 (by decide +kernel) rfl
theorem km_X11_46 : Cond.methodLink RX11 46 yX3_init ∈ bg_L := bg_in 235 (by decide +kernel) rfl
theorem km_X11_62 : Cond.methodLink RX11 62 yX11_appendWord ∈ bg_L := bg_in 570 (by decide +kernel) rfl
theorem km_X11_66 : Cond.methodLink RX11 66 yX11_requireLength ∈ bg_L := bg_in 297 (by decide +kernel) rfl
theorem km_X11_69 : Cond.methodLink RX11 69 yX5_readBench ∈ bg_L := bg_in 369 (by decide +kernel) rfl
theorem km_X11_73 : Cond.methodLink RX11 73 yX1_copyFrom ∈ bg_L := bg_in 501 (by decide +kernel) rfl
theorem km_X11_77 : Cond.methodLink RX11 77 yX3_forget ∈ bg_L := bg_in 509 (by decide +kernel) rfl
theorem km_X11_111 : Cond.methodLink RX11 111 yX1_findWarmest ∈ bg_L := bg_in 766 (by decide +kernel) rfl
theorem km_X11_115 : Cond.methodLink RX11 115 yX1_findFinest ∈ bg_L := bg_in 774 (by decide +kernel) rfl
theorem km_X11_326 : Cond.methodLink RX11 326 yX1_hasSheet ∈ bg_L := bg_in 592 (by decide +kernel) rfl
theorem km_X11_118 : Cond.methodLink RX11 118 yX11_sheetAt ∈ bg_L := bg_in 588 (by decide +kernel) rfl
theorem km_X11_127 : Cond.methodLink RX11 127 yX8_countButterLayers ∈ bg_L := bg_in 726 (by decide +kernel) rfl
theorem km_X11_130 : Cond.methodLink RX11 130 yX11_requireLayer ∈ bg_L := bg_in 656 (by decide +kernel) rfl
theorem km_X11_141 : Cond.methodLink RX11 141 yX8_totalHeight ∈ bg_L := bg_in 710 (by decide +kernel) rfl
theorem km_X11_144 : Cond.methodLink RX11 144 yX8_totalButter ∈ bg_L := bg_in 718 (by decide +kernel) rfl
theorem km_X11_147 : Cond.methodLink RX11 147 yX8_findThinnest ∈ bg_L := bg_in 674 (by decide +kernel) rfl
theorem km_X11_150 : Cond.methodLink RX11 150 yX8_findThickest ∈ bg_L := bg_in 682 (by decide +kernel) rfl
theorem km_X11_153 : Cond.methodLink RX11 153 yX8_countSeams ∈ bg_L := bg_in 758 (by decide +kernel) rfl
theorem km_X11_156 : Cond.methodLink RX11 156 yX8_sameFromBothSides ∈ bg_L := bg_in 871 (by decide +kernel) rfl
theorem km_X11_338 : Cond.methodLink RX11 338 yX11_isFactor ∈ bg_L := bg_in 789 (by decide +kernel) rfl
theorem km_X11_178 : Cond.methodLink RX11 178 yX11_requireFactor ∈ bg_L := bg_in 786 (by decide +kernel) rfl
theorem km_X11_181 : Cond.methodLink RX11 181 yX8_findFoldObstacle ∈ bg_L := bg_in 793 (by decide +kernel) rfl
theorem km_X11_185 : Cond.methodLink RX11 185 yX11_layersFolded ∈ bg_L := bg_in 805 (by decide +kernel) rfl
theorem km_X11_189 : Cond.methodLink RX11 189 yX8_countPossibleFolds ∈ bg_L := bg_in 810 (by decide +kernel) rfl
theorem km_X11_192 : Cond.methodLink RX11 192 yX8_sumEscaping ∈ bg_L := bg_in 694 (by decide +kernel) rfl
theorem km_X11_195 : Cond.methodLink RX11 195 yX8_countBreaking ∈ bg_L := bg_in 818 (by decide +kernel) rfl
theorem km_X11_199 : Cond.methodLink RX11 199 yX8_sumRolled ∈ bg_L := bg_in 903 (by decide +kernel) rfl
theorem km_X11_209 : Cond.methodLink RX11 209 yX8_warmthAfter ∈ bg_L := bg_in 747 (by decide +kernel) rfl
theorem km_X11_212 : Cond.methodLink RX11 212 yX8_countHoursToSafety ∈ bg_L := bg_in 734 (by decide +kernel) rfl
theorem km_X11_215 : Cond.methodLink RX11 215 yX1_refusalOfFold ∈ bg_L := bg_in 879 (by decide +kernel) rfl
theorem km_X11_219 : Cond.methodLink RX11 219 yX11_throwIfRefused ∈ bg_L := bg_in 846 (by decide +kernel) rfl
theorem km_X11_223 : Cond.methodLink RX11 223 yX3_remember ∈ bg_L := bg_in 855 (by decide +kernel) rfl
theorem km_X11_226 : Cond.methodLink RX11 226 yX1_applyFold ∈ bg_L := bg_in 887 (by decide +kernel) rfl
theorem km_X11_229 : Cond.methodLink RX11 229 yX1_refusalOfRoll ∈ bg_L := bg_in 911 (by decide +kernel) rfl
theorem km_X11_232 : Cond.methodLink RX11 232 yX1_applyRoll ∈ bg_L := bg_in 916 (by decide +kernel) rfl
theorem km_X11_235 : Cond.methodLink RX11 235 yX1_refusalOfDust ∈ bg_L := bg_in 929 (by decide +kernel) rfl
theorem km_X11_239 : Cond.methodLink RX11 239 yX1_applyDust ∈ bg_L := bg_in 933 (by decide +kernel) rfl
theorem km_X11_242 : Cond.methodLink RX11 242 yX1_refusalOfSeal ∈ bg_L := bg_in 941 (by decide +kernel) rfl
theorem km_X11_245 : Cond.methodLink RX11 245 yX1_applySeal ∈ bg_L := bg_in 945 (by decide +kernel) rfl
theorem km_X11_248 : Cond.methodLink RX11 248 yX1_refusalOfCool ∈ bg_L := bg_in 969 (by decide +kernel) rfl
theorem km_X11_251 : Cond.methodLink RX11 251 yX1_applyCool ∈ bg_L := bg_in 977 (by decide +kernel) rfl
theorem km_X11_254 : Cond.methodLink RX11 254 yX1_refusalOfTakeOut ∈ bg_L := bg_in 957 (by decide +kernel) rfl
theorem km_X11_257 : Cond.methodLink RX11 257 yX1_applyTakeOut ∈ bg_L := bg_in 961 (by decide +kernel) rfl
theorem km_X11_260 : Cond.methodLink RX11 260 yX1_refusalOfHours ∈ bg_L := bg_in 985 (by decide +kernel) rfl
theorem km_X11_263 : Cond.methodLink RX11 263 yX1_applyHours ∈ bg_L := bg_in 989 (by decide +kernel) rfl
theorem km_X11_266 : Cond.methodLink RX11 266 yX1_refusalOfCut ∈ bg_L := bg_in 1002 (by decide +kernel) rfl
theorem km_X11_269 : Cond.methodLink RX11 269 yX1_applyCut ∈ bg_L := bg_in 1006 (by decide +kernel) rfl
theorem km_X11_272 : Cond.methodLink RX11 272 yX1_refusalOfStack ∈ bg_L := bg_in 1014 (by decide +kernel) rfl
theorem km_X11_275 : Cond.methodLink RX11 275 yX1_applyStack ∈ bg_L := bg_in 1027 (by decide +kernel) rfl
theorem km_X11_278 : Cond.methodLink RX11 278 yX1_refusalOfButter ∈ bg_L := bg_in 1043 (by decide +kernel) rfl
theorem km_X11_281 : Cond.methodLink RX11 281 yX1_applyButter ∈ bg_L := bg_in 1047 (by decide +kernel) rfl
theorem km_X11_284 : Cond.methodLink RX11 284 yX1_refusalOfFlour ∈ bg_L := bg_in 833 (by decide +kernel) rfl
theorem km_X11_287 : Cond.methodLink RX11 287 yX1_applyFlour ∈ bg_L := bg_in 863 (by decide +kernel) rfl
theorem km_X11_319 : Cond.methodLink RX11 319 yX3_takeBack ∈ bg_L := bg_in 537 (by decide +kernel) rfl
theorem km_J2_11 : Cond.methodLink RJ2 11 yJ2_newBytesLength_0f7a4 ∈ bg_L := bg_in 1071 (by decide +kernel) rfl
theorem km_J8_194 : Cond.methodLink RJ8 194 Lib.Math.max.name ∈ bg_L := bg_in 1103 (by decide +kernel) rfl
theorem km_J8_201 : Cond.methodLink RJ8 201 yJ8_hugeLength_7cf53 ∈ bg_L := bg_in 1105 (by decide +kernel) rfl
theorem km_J5_114 : Cond.methodLink RJ5 114 yJ8_newLength_cabcc ∈ bg_L := bg_in 1100 (by decide +kernel) rfl
theorem km_J7_304 : Cond.methodLink RJ7 304 Lib.Math.min.name ∈ bg_L := bg_in 1118 (by decide +kernel) rfl
theorem km_J7_150 : Cond.methodLink RJ7 150 arraycopyName ∈ bg_L := bg_in 1119 (by decide +kernel) rfl
theorem km_J5_104 : Cond.methodLink RJ5 104 yJ5_newCapacity_0f7a4 ∈ bg_L := bg_in 1096 (by decide +kernel) rfl
theorem km_J5_108 : Cond.methodLink RJ5 108 yJ7_copyOf_9075b ∈ bg_L := bg_in 1108 (by decide +kernel) rfl
theorem km_J0_1062 : Cond.methodLink RJ0 1062 yJ3_checkFromToIndex_8c36e ∈ bg_L := bg_in 1137 (by decide +kernel) rfl
theorem km_J2_241 : Cond.methodLink RJ2 241 yJ0_checkBoundsBeginEnd_23922 ∈ bg_L := bg_in 1134 (by decide +kernel) rfl
theorem km_J2_96 : Cond.methodLink RJ2 96 yJ2_checkBoundsBeginEnd_d044e ∈ bg_L := bg_in 1131 (by decide +kernel) rfl
theorem km_J2_111 : Cond.methodLink RJ2 111 yJ2_putChar_b72d1 ∈ bg_L := bg_in 1140 (by decide +kernel) rfl
theorem km_J5_100 : Cond.methodLink RJ5 100 yJ5_ensureCapacityInternal_d00df ∈ bg_L := bg_in 1092 (by decide +kernel) rfl
theorem km_J5_83 : Cond.methodLink RJ5 83 yJ5_isLatin1_aae02 ∈ bg_L := bg_in 1122 (by decide +kernel) rfl
theorem km_J5_226 : Cond.methodLink RJ5 226 yJ2_putCharsAt_cd4e5 ∈ bg_L := bg_in 1128 (by decide +kernel) rfl
theorem km_J0_1065 : Cond.methodLink RJ0 1065 yJ3_checkFromIndexSize_8c36e ∈ bg_L := bg_in 1167 (by decide +kernel) rfl
theorem km_J2_419 : Cond.methodLink RJ2 419 yJ0_checkBoundsOffCount_cabcc ∈ bg_L := bg_in 1164 (by decide +kernel) rfl
theorem km_J2_173 : Cond.methodLink RJ2 173 yJ2_checkBoundsOffCount_d044e ∈ bg_L := bg_in 1161 (by decide +kernel) rfl
theorem km_J1_240 : Cond.methodLink RJ1 240 yJ2_inflate_0e8fd ∈ bg_L := bg_in 1158 (by decide +kernel) rfl
theorem km_J5_26 : Cond.methodLink RJ5 26 yJ2_newBytesFor_77867 ∈ bg_L := bg_in 1068 (by decide +kernel) rfl
theorem km_J5_125 : Cond.methodLink RJ5 125 yJ1_inflate_0e8fd ∈ bg_L := bg_in 1155 (by decide +kernel) rfl
theorem km_J5_40 : Cond.methodLink RJ5 40 yJ0_coder_7d493 ∈ bg_L := bg_in 1067 (by decide +kernel) rfl
theorem km_J5_195 : Cond.methodLink RJ5 195 yJ5_inflate_da8c8 ∈ bg_L := bg_in 1151 (by decide +kernel) rfl
theorem km_J0_212 : Cond.methodLink RJ0 212 arraycopyName ∈ bg_L := bg_in 1174 (by decide +kernel) rfl
theorem km_J0_106 : Cond.methodLink RJ0 106 yJ1_inflate_0e8fd ∈ bg_L := bg_in 1175 (by decide +kernel) rfl
theorem km_J5_397 : Cond.methodLink RJ5 397 yJ5_inflateIfNeededFor_a7421 ∈ bg_L := bg_in 1147 (by decide +kernel) rfl
theorem km_J5_399 : Cond.methodLink RJ5 399 yJ0_getBytes_840e7 ∈ bg_L := bg_in 1170 (by decide +kernel) rfl
theorem km_J5_204 : Cond.methodLink RJ5 204 yJ5_appendNull_278bc ∈ bg_L := bg_in 1088 (by decide +kernel) rfl
theorem km_J5_32 : Cond.methodLink RJ5 32 yJ0_length_8abf5 ∈ bg_L := bg_in 1064 (by decide +kernel) rfl
theorem km_J5_208 : Cond.methodLink RJ5 208 yJ5_putStringAt_47b60 ∈ bg_L := bg_in 1143 (by decide +kernel) rfl
theorem km_J4_29 : Cond.methodLink RJ4 29 yJ5_append_cf1ce ∈ bg_L := bg_in 1085 (by decide +kernel) rfl
theorem km_J4_23 : Cond.methodLink RJ4 23 yJ4_append_15ec4 ∈ bg_L := bg_in 1081 (by decide +kernel) rfl
theorem km_J5_3 : Cond.methodLink RJ5 3 Lib.objectInit ∈ bg_L := bg_in 1063 (by decide +kernel) rfl
theorem km_J5_43 : Cond.methodLink RJ5 43 yJ5_append_cf1ce ∈ bg_L := bg_in 1075 (by decide +kernel) rfl
theorem km_J5_191 : Cond.methodLink RJ5 191 yJ1_canEncode_fc78d ∈ bg_L := bg_in 1196 (by decide +kernel) rfl
theorem km_J5_197 : Cond.methodLink RJ5 197 yJ2_putCharSB_b72d1 ∈ bg_L := bg_in 1199 (by decide +kernel) rfl
theorem km_J2_393 : Cond.methodLink RJ2 393 yJ2_getChars_ba4f3 ∈ bg_L := bg_in 1222 (by decide +kernel) rfl
theorem km_J5_245 : Cond.methodLink RJ5 245 yJ6_stringSize_0f7a4 ∈ bg_L := bg_in 1209 (by decide +kernel) rfl
theorem km_J5_248 : Cond.methodLink RJ5 248 yJ6_getChars_ba4f3 ∈ bg_L := bg_in 1212 (by decide +kernel) rfl
theorem km_J5_251 : Cond.methodLink RJ5 251 yJ2_getChars_46870 ∈ bg_L := bg_in 1219 (by decide +kernel) rfl
theorem km_J4_343 : Cond.methodLink RJ4 343 yJ5_length_8abf5 ∈ bg_L := bg_in 1251 (by decide +kernel) rfl
theorem km_J7_343 : Cond.methodLink RJ7 343 yJ7_checkLength_df160 ∈ bg_L := bg_in 1260 (by decide +kernel) rfl
theorem km_J7_339 : Cond.methodLink RJ7 339 yJ7_copyOfRangeByte_39247 ∈ bg_L := bg_in 1257 (by decide +kernel) rfl
theorem km_J2_123 : Cond.methodLink RJ2 123 yJ2_compress_5af95 ∈ bg_L := bg_in 1266 (by decide +kernel) rfl
theorem km_J2_126 : Cond.methodLink RJ2 126 yJ7_copyOfRange_39247 ∈ bg_L := bg_in 1269 (by decide +kernel) rfl
theorem km_J0_1 : Cond.methodLink RJ0 1 Lib.objectInit ∈ bg_L := bg_in 1239 (by decide +kernel) rfl
theorem km_J0_552 : Cond.methodLink RJ0 552 yJ5_getValue_6d5f1 ∈ bg_L := bg_in 1240 (by decide +kernel) rfl
theorem km_J0_549 : Cond.methodLink RJ0 549 yJ5_length_8abf5 ∈ bg_L := bg_in 1245 (by decide +kernel) rfl
theorem km_J0_1047 : Cond.methodLink RJ0 1047 yJ5_isLatin1_aae02 ∈ bg_L := bg_in 1253 (by decide +kernel) rfl
theorem km_J0_54 : Cond.methodLink RJ0 54 yJ7_copyOfRange_39247 ∈ bg_L := bg_in 1254 (by decide +kernel) rfl
theorem km_J0_1051 : Cond.methodLink RJ0 1051 yJ2_compress_39247 ∈ bg_L := bg_in 1263 (by decide +kernel) rfl
theorem km_J0_47 : Cond.methodLink RJ0 47 yJ2_coderFromArrayLen_85cad ∈ bg_L := bg_in 1270 (by decide +kernel) rfl
theorem km_J0_489 : Cond.methodLink RJ0 489 yJ0_init_db425 ∈ bg_L := bg_in 1236 (by decide +kernel) rfl
theorem km_J4_7 : Cond.methodLink RJ4 7 yJ5_init_a7421 ∈ bg_L := bg_in 1060 (by decide +kernel) rfl
theorem km_J4_50 : Cond.methodLink RJ4 50 yJ5_append_3fe6f ∈ bg_L := bg_in 1193 (by decide +kernel) rfl
theorem km_J4_53 : Cond.methodLink RJ4 53 yJ5_append_c97b9 ∈ bg_L := bg_in 1206 (by decide +kernel) rfl
theorem km_J4_137 : Cond.methodLink RJ4 137 yJ0_init_81219 ∈ bg_L := bg_in 1233 (by decide +kernel) rfl
theorem km_L_8 : Cond.methodLink RL 8 yX11_appendText ∈ bg_L := bg_in 566 (by decide +kernel) rfl
theorem km_L_14 : Cond.methodLink RL 14 yJ0_length_8abf5 ∈ bg_L := bg_in 561 (by decide +kernel) rfl
theorem km_L_20 : Cond.methodLink RL 20 yJ0_charAt_5068e ∈ bg_L := bg_in 562 (by decide +kernel) rfl
theorem km_L_24 : Cond.methodLink RL 24 yL_add ∈ bg_L := bg_in 563 (by decide +kernel) rfl
theorem km_L_30 : Cond.methodLink RL 30 yX11_sheetCount ∈ bg_L := bg_in 580 (by decide +kernel) rfl
theorem km_L_33 : Cond.methodLink RL 33 yX11_layerCount ∈ bg_L := bg_in 584 (by decide +kernel) rfl
theorem km_L_37 : Cond.methodLink RL 37 yX11_flour ∈ bg_L := bg_in 612 (by decide +kernel) rfl
theorem km_L_40 : Cond.methodLink RL 40 yX11_hoursPassed ∈ bg_L := bg_in 616 (by decide +kernel) rfl
theorem km_L_43 : Cond.methodLink RL 43 yX11_escapedButter ∈ bg_L := bg_in 620 (by decide +kernel) rfl
theorem km_L_46 : Cond.methodLink RL 46 yX11_brokenLayers ∈ bg_L := bg_in 624 (by decide +kernel) rfl
theorem km_L_49 : Cond.methodLink RL 49 yX11_expectedLayers ∈ bg_L := bg_in 628 (by decide +kernel) rfl
theorem km_L_52 : Cond.methodLink RL 52 yX11_temperature ∈ bg_L := bg_in 632 (by decide +kernel) rfl
theorem km_L_55 : Cond.methodLink RL 55 yX11_foldCount ∈ bg_L := bg_in 636 (by decide +kernel) rfl
theorem km_L_58 : Cond.methodLink RL 58 yX11_isDusted ∈ bg_L := bg_in 640 (by decide +kernel) rfl
theorem km_L_62 : Cond.methodLink RL 62 yX11_isSealed ∈ bg_L := bg_in 644 (by decide +kernel) rfl
theorem km_L_65 : Cond.methodLink RL 65 yX11_isCooling ∈ bg_L := bg_in 648 (by decide +kernel) rfl
theorem km_L_68 : Cond.methodLink RL 68 yX11_isButter ∈ bg_L := bg_in 652 (by decide +kernel) rfl
theorem km_L_72 : Cond.methodLink RL 72 yX11_thickness ∈ bg_L := bg_in 660 (by decide +kernel) rfl
theorem km_L_76 : Cond.methodLink RL 76 yX11_thinnestLayer ∈ bg_L := bg_in 670 (by decide +kernel) rfl
theorem km_L_79 : Cond.methodLink RL 79 yX11_thickestLayer ∈ bg_L := bg_in 678 (by decide +kernel) rfl
theorem km_L_82 : Cond.methodLink RL 82 yX11_meltingPoint ∈ bg_L := bg_in 686 (by decide +kernel) rfl
theorem km_L_85 : Cond.methodLink RL 85 yX11_butterAtRisk ∈ bg_L := bg_in 690 (by decide +kernel) rfl
theorem km_L_88 : Cond.methodLink RL 88 yX11_height ∈ bg_L := bg_in 706 (by decide +kernel) rfl
theorem km_L_91 : Cond.methodLink RL 91 yX11_butterHeight ∈ bg_L := bg_in 714 (by decide +kernel) rfl
theorem km_L_94 : Cond.methodLink RL 94 yX11_butterLayerCount ∈ bg_L := bg_in 722 (by decide +kernel) rfl
theorem km_L_97 : Cond.methodLink RL 97 yX11_hoursToSafety ∈ bg_L := bg_in 730 (by decide +kernel) rfl
theorem km_L_100 : Cond.methodLink RL 100 yX11_temperatureAfter ∈ bg_L := bg_in 742 (by decide +kernel) rfl
theorem km_L_103 : Cond.methodLink RL 103 yX11_seamCount ∈ bg_L := bg_in 754 (by decide +kernel) rfl
theorem km_L_106 : Cond.methodLink RL 106 yX11_warmestSheet ∈ bg_L := bg_in 762 (by decide +kernel) rfl
theorem km_L_109 : Cond.methodLink RL 109 yX11_finestSheet ∈ bg_L := bg_in 770 (by decide +kernel) rfl
theorem km_L_112 : Cond.methodLink RL 112 yX11_butterShare ∈ bg_L := bg_in 778 (by decide +kernel) rfl
theorem km_L_116 : Cond.methodLink RL 116 yX11_foldObstacle ∈ bg_L := bg_in 782 (by decide +kernel) rfl
theorem km_L_119 : Cond.methodLink RL 119 yX11_layersAfterFold ∈ bg_L := bg_in 801 (by decide +kernel) rfl
theorem km_L_122 : Cond.methodLink RL 122 yX11_foldsPossible ∈ bg_L := bg_in 806 (by decide +kernel) rfl
theorem km_L_125 : Cond.methodLink RL 125 yX11_layersAtRisk ∈ bg_L := bg_in 814 (by decide +kernel) rfl
theorem km_L_128 : Cond.methodLink RL 128 yL_most ∈ bg_L := bg_in 551 (by decide +kernel) rfl
theorem km_L_131 : Cond.methodLink RL 131 yX11_buyFlour ∈ bg_L := bg_in 829 (by decide +kernel) rfl
theorem km_L_134 : Cond.methodLink RL 134 yX11_isSymmetric ∈ bg_L := bg_in 867 (by decide +kernel) rfl
theorem km_L_137 : Cond.methodLink RL 137 yX11_fold ∈ bg_L := bg_in 875 (by decide +kernel) rfl
theorem km_L_140 : Cond.methodLink RL 140 yX11_heightAfterRoll ∈ bg_L := bg_in 899 (by decide +kernel) rfl
theorem km_L_143 : Cond.methodLink RL 143 yX11_roll ∈ bg_L := bg_in 907 (by decide +kernel) rfl
theorem km_L_146 : Cond.methodLink RL 146 yX11_dust ∈ bg_L := bg_in 925 (by decide +kernel) rfl
theorem km_L_149 : Cond.methodLink RL 149 yX11_seal ∈ bg_L := bg_in 937 (by decide +kernel) rfl
theorem km_L_152 : Cond.methodLink RL 152 yX11_takeOut ∈ bg_L := bg_in 953 (by decide +kernel) rfl
theorem km_L_155 : Cond.methodLink RL 155 yX11_cool ∈ bg_L := bg_in 965 (by decide +kernel) rfl
theorem km_L_158 : Cond.methodLink RL 158 yX11_passHours ∈ bg_L := bg_in 981 (by decide +kernel) rfl
theorem km_L_161 : Cond.methodLink RL 161 yX11_cut ∈ bg_L := bg_in 998 (by decide +kernel) rfl
theorem km_L_164 : Cond.methodLink RL 164 yX11_stack ∈ bg_L := bg_in 1010 (by decide +kernel) rfl
theorem km_L_167 : Cond.methodLink RL 167 yX11_addButter ∈ bg_L := bg_in 1039 (by decide +kernel) rfl
theorem km_L_170 : Cond.methodLink RL 170 yX11_init ∈ bg_L := bg_in 35 (by decide +kernel) rfl
theorem km_L_171 : Cond.methodLink RL 171 yL_cell ∈ bg_L := bg_in 555 (by decide +kernel) rfl
theorem km_L_179 : Cond.methodLink RL 179 yJ4_init_a7421 ∈ bg_L := bg_in 1057 (by decide +kernel) rfl
theorem km_L_182 : Cond.methodLink RL 182 yJ4_append_bf812 ∈ bg_L := bg_in 1202 (by decide +kernel) rfl
theorem km_L_186 : Cond.methodLink RL 186 yJ4_append_cf468 ∈ bg_L := bg_in 1189 (by decide +kernel) rfl
theorem km_L_191 : Cond.methodLink RL 191 yJ4_append_15ec4 ∈ bg_L := bg_in 1188 (by decide +kernel) rfl
theorem km_L_198 : Cond.methodLink RL 198 yJ4_toString_0e30d ∈ bg_L := bg_in 1227 (by decide +kernel) rfl
theorem km_L_202 : Cond.methodLink RL 202 yL_say ∈ bg_L := bg_in 558 (by decide +kernel) rfl
theorem km_L_206 : Cond.methodLink RL 206 yL_end ∈ bg_L := bg_in 574 (by decide +kernel) rfl
theorem km_L_210 : Cond.methodLink RL 210 yX11_loadBench ∈ bg_L := bg_in 293 (by decide +kernel) rfl
theorem km_L_213 : Cond.methodLink RL 213 yX11_undoableCount ∈ bg_L := bg_in 513 (by decide +kernel) rfl
theorem km_L_216 : Cond.methodLink RL 216 yL_isBench ∈ bg_L := bg_in 667 (by decide +kernel) rfl
theorem km_L_220 : Cond.methodLink RL 220 yL_all ∈ bg_L := bg_in 577 (by decide +kernel) rfl
theorem km_L_224 : Cond.methodLink RL 224 yL_act ∈ bg_L := bg_in 826 (by decide +kernel) rfl
theorem km_L_228 : Cond.methodLink RL 228 yX11_undo ∈ bg_L := bg_in 517 (by decide +kernel) rfl
theorem km_L_231 : Cond.methodLink RL 231 yL_alike ∈ bg_L := bg_in 664 (by decide +kernel) rfl
theorem km_L_235 : Cond.methodLink RL 235 yX11_saveSnapshot ∈ bg_L := bg_in 542 (by decide +kernel) rfl
theorem km_L_238 : Cond.methodLink RL 238 yX11_restoreSnapshot ∈ bg_L := bg_in 546 (by decide +kernel) rfl
theorem kv_X1_init_17 {G : xG} (hN : ∀ s : State, G.2.2.1 (x_A G) s s.heap → va_Nw (.methodLinkNest RX1 17 yX8_init "PastryBench") s) : x_LIN G MX1_init 17 MX8_init 0 "PastryBench" := ⟨⟨kc_X8_init.1, ⟨Nat.le_of_ble_eq_true rfl, Nat.le_of_ble_eq_true rfl⟩, kc_X8_init.2.1, kc_X8_init.2.2.1, kc_X8_init.2.2.2, rfl⟩, hN, kt_X8_init, rfl, rfl⟩
theorem kv_X1_addSheet_53 : x_LV MX1_addSheet 53 MX8_begin 1 := ⟨⟨kc_X8_begin.1, ⟨Nat.le_of_ble_eq_true rfl, Nat.le_of_ble_eq_true rfl⟩, kc_X8_begin.2.1, kc_X8_begin.2.2.1, kc_X8_begin.2.2.2, rfl⟩, km_X1_53, kt_X8_begin, ke_X8_begin⟩
theorem kv_X8_putLayer_46 : x_LV MX8_putLayer 46 MX8_wouldJoin 1 := ⟨⟨kc_X8_wouldJoin.1, ⟨Nat.le_of_ble_eq_true rfl, Nat.le_of_ble_eq_true rfl⟩, kc_X8_wouldJoin.2.1, kc_X8_wouldJoin.2.2.1, kc_X8_wouldJoin.2.2.2, rfl⟩, km_X8_46, kt_X8_wouldJoin, ke_X8_wouldJoin⟩
theorem kv_X8_load_42 : x_LV MX8_load 42 MX8_putLayer 3 := ⟨⟨kc_X8_putLayer.1, ⟨Nat.le_of_ble_eq_true rfl, Nat.le_of_ble_eq_true rfl⟩, kc_X8_putLayer.2.1, kc_X8_putLayer.2.2.1, kc_X8_putLayer.2.2.2, rfl⟩, km_X8_42, kt_X8_putLayer, ke_X8_putLayer⟩
theorem kv_X1_addLayer_55 : x_LV MX1_addLayer 55 MX8_load 2 := ⟨⟨kc_X8_load.1, ⟨Nat.le_of_ble_eq_true rfl, Nat.le_of_ble_eq_true rfl⟩, kc_X8_load.2.1, kc_X8_load.2.2.1, kc_X8_load.2.2.2, rfl⟩, km_X1_55, kt_X8_load, ke_X8_load⟩
theorem kv_X1_first_18 : x_LI MX1_first 18 MX1_init 0 := ⟨⟨kc_X1_init.1, ⟨Nat.le_of_ble_eq_true rfl, Nat.le_of_ble_eq_true rfl⟩, kc_X1_init.2.1, kc_X1_init.2.2.1, kc_X1_init.2.2.2, rfl⟩, km_X1_18, kt_X1_init, rfl, rfl⟩
theorem kv_X1_first_19 : x_LV MX1_first 19 MX1_begin 3 := ⟨⟨kc_X1_begin.1, ⟨Nat.le_of_ble_eq_true rfl, Nat.le_of_ble_eq_true rfl⟩, kc_X1_begin.2.1, kc_X1_begin.2.2.1, kc_X1_begin.2.2.2, rfl⟩, km_X1_19, kt_X1_begin, ke_X1_begin⟩
theorem kv_X1_first_23 : x_LV MX1_first 23 MX1_addSheet 1 := ⟨⟨kc_X1_addSheet.1, ⟨Nat.le_of_ble_eq_true rfl, Nat.le_of_ble_eq_true rfl⟩, kc_X1_addSheet.2.1, kc_X1_addSheet.2.2.1, kc_X1_addSheet.2.2.2, rfl⟩, km_X1_23, kt_X1_addSheet, ke_X1_addSheet⟩
theorem kv_X1_first_27 : x_LV MX1_first 27 MX1_addLayer 2 := ⟨⟨kc_X1_addLayer.1, ⟨Nat.le_of_ble_eq_true rfl, Nat.le_of_ble_eq_true rfl⟩, kc_X1_addLayer.2.1, kc_X1_addLayer.2.2.1, kc_X1_addLayer.2.2.2, rfl⟩, km_X1_27, kt_X1_addLayer, ke_X1_addLayer⟩
theorem kv_X1_copyFrom_58 : x_LV MX1_copyFrom 58 MX8_copyFrom 1 := ⟨⟨kc_X8_copyFrom.1, ⟨Nat.le_of_ble_eq_true rfl, Nat.le_of_ble_eq_true rfl⟩, kc_X8_copyFrom.2.1, kc_X8_copyFrom.2.2.1, kc_X8_copyFrom.2.2.2, rfl⟩, km_X1_58, kt_X8_copyFrom, ke_X8_copyFrom⟩
theorem kv_X8_findFoldObstacle_50 {G : xG} (hN : ∀ s : State, G.2.2.1 (x_A G) s s.heap → va_Nw (.methodLinkNest RX8 50 yX11_layersFolded "PastryBench") s) : x_LSN G MX8_findFoldObstacle 50 MX11_layersFolded 3 "PastryBench" := ⟨⟨kc_X11_layersFolded.1, ⟨Nat.le_of_ble_eq_true rfl, Nat.le_of_ble_eq_true rfl⟩, kc_X11_layersFolded.2.1, kc_X11_layersFolded.2.2.1, kc_X11_layersFolded.2.2.2, rfl⟩, hN, kt_X11_layersFolded⟩
theorem kv_X8_findFoldObstacle_54 : x_LV MX8_findFoldObstacle 54 MX8_totalHeight 0 := ⟨⟨kc_X8_totalHeight.1, ⟨Nat.le_of_ble_eq_true rfl, Nat.le_of_ble_eq_true rfl⟩, kc_X8_totalHeight.2.1, kc_X8_totalHeight.2.2.1, kc_X8_totalHeight.2.2.2, rfl⟩, km_X8_54, kt_X8_totalHeight, ke_X8_totalHeight⟩
theorem kv_X1_refusalOfFold_84 : x_LV MX1_refusalOfFold 84 MX1_hasSheet 1 := ⟨⟨kc_X1_hasSheet.1, ⟨Nat.le_of_ble_eq_true rfl, Nat.le_of_ble_eq_true rfl⟩, kc_X1_hasSheet.2.1, kc_X1_hasSheet.2.2.1, kc_X1_hasSheet.2.2.2, rfl⟩, km_X1_84, kt_X1_hasSheet, ke_X1_hasSheet⟩
theorem kv_X1_refusalOfFold_91 {G : xG} (hN : ∀ s : State, G.2.2.1 (x_A G) s s.heap → va_Nw (.methodLinkNest RX1 91 yX11_isFactor "PastryBench") s) : x_LSN G MX1_refusalOfFold 91 MX11_isFactor 1 "PastryBench" := ⟨⟨kc_X11_isFactor.1, ⟨Nat.le_of_ble_eq_true rfl, Nat.le_of_ble_eq_true rfl⟩, kc_X11_isFactor.2.1, kc_X11_isFactor.2.2.1, kc_X11_isFactor.2.2.2, rfl⟩, hN, kt_X11_isFactor⟩
theorem kv_X1_refusalOfFold_97 : x_LV MX1_refusalOfFold 97 MX8_findFoldObstacle 1 := ⟨⟨kc_X8_findFoldObstacle.1, ⟨Nat.le_of_ble_eq_true rfl, Nat.le_of_ble_eq_true rfl⟩, kc_X8_findFoldObstacle.2.1, kc_X8_findFoldObstacle.2.2.1, kc_X8_findFoldObstacle.2.2.2, rfl⟩, km_X1_97, kt_X8_findFoldObstacle, ke_X8_findFoldObstacle⟩
theorem kv_X1_refusalOfFold_101 : x_LS MX1_refusalOfFold 101 MX1_stateRefusal 1 := ⟨⟨kc_X1_stateRefusal.1, ⟨Nat.le_of_ble_eq_true rfl, Nat.le_of_ble_eq_true rfl⟩, kc_X1_stateRefusal.2.1, kc_X1_stateRefusal.2.2.1, kc_X1_stateRefusal.2.2.2, rfl⟩, km_X1_101, kt_X1_stateRefusal⟩
theorem kv_X11_warmedByWork_359 (n : Nat) (hn : n ≤ 8) : x_MN MX11_warmedByWork 359 n := ⟨km_X11_359, ks_min.1, ks_min.2.1, ks_min.2.2, Nat.le_of_ble_eq_true rfl, Nat.le_trans (Nat.add_le_add_right hn _) (by decide +kernel)⟩
theorem kv_X8_foldUp_42 : x_LV MX8_foldUp 42 MX8_putLayer 3 := ⟨⟨kc_X8_putLayer.1, ⟨Nat.le_of_ble_eq_true rfl, Nat.le_of_ble_eq_true rfl⟩, kc_X8_putLayer.2.1, kc_X8_putLayer.2.2.1, kc_X8_putLayer.2.2.2, rfl⟩, km_X8_42, kt_X8_putLayer, ke_X8_putLayer⟩
theorem kv_X8_foldUp_58 {G : xG} (hN : ∀ s : State, G.2.2.1 (x_A G) s s.heap → va_Nw (.methodLinkNest RX8 58 yX11_warmedByWork "PastryBench") s) : x_LSN G MX8_foldUp 58 MX11_warmedByWork 1 "PastryBench" := ⟨⟨kc_X11_warmedByWork.1, ⟨Nat.le_of_ble_eq_true rfl, Nat.le_of_ble_eq_true rfl⟩, kc_X11_warmedByWork.2.1, kc_X11_warmedByWork.2.2.1, kc_X11_warmedByWork.2.2.2, rfl⟩, hN, kt_X11_warmedByWork⟩
theorem kv_X1_applyFold_105 : x_LV MX1_applyFold 105 MX8_foldUp 1 := ⟨⟨kc_X8_foldUp.1, ⟨Nat.le_of_ble_eq_true rfl, Nat.le_of_ble_eq_true rfl⟩, kc_X8_foldUp.2.1, kc_X8_foldUp.2.2.1, kc_X8_foldUp.2.2.2, rfl⟩, km_X1_105, kt_X8_foldUp, ke_X8_foldUp⟩
theorem kv_X8_lossPerLayer_62 (n : Nat) (hn : n ≤ 8) : x_MX MX8_lossPerLayer 62 n := ⟨km_X8_62, ks_max.1, ks_max.2.1, ks_max.2.2, Nat.le_of_ble_eq_true rfl, Nat.le_trans (Nat.add_le_add_right hn _) (by decide +kernel)⟩
theorem kv_X8_thicknessRolled_62 (n : Nat) (hn : n ≤ 8) : x_MX MX8_thicknessRolled 62 n := ⟨km_X8_62, ks_max.1, ks_max.2.1, ks_max.2.2, Nat.le_of_ble_eq_true rfl, Nat.le_trans (Nat.add_le_add_right hn _) (by decide +kernel)⟩
theorem kv_X8_sumRolled_68 : x_LV MX8_sumRolled 68 MX8_lossPerLayer 1 := ⟨⟨kc_X8_lossPerLayer.1, ⟨Nat.le_of_ble_eq_true rfl, Nat.le_of_ble_eq_true rfl⟩, kc_X8_lossPerLayer.2.1, kc_X8_lossPerLayer.2.2.1, kc_X8_lossPerLayer.2.2.2, rfl⟩, km_X8_68, kt_X8_lossPerLayer, ke_X8_lossPerLayer⟩
theorem kv_X8_sumRolled_74 : x_LV MX8_sumRolled 74 MX8_thicknessRolled 3 := ⟨⟨kc_X8_thicknessRolled.1, ⟨Nat.le_of_ble_eq_true rfl, Nat.le_of_ble_eq_true rfl⟩, kc_X8_thicknessRolled.2.1, kc_X8_thicknessRolled.2.2.1, kc_X8_thicknessRolled.2.2.2, rfl⟩, km_X8_74, kt_X8_thicknessRolled, ke_X8_thicknessRolled⟩
theorem kv_X1_refusalOfRoll_84 : x_LV MX1_refusalOfRoll 84 MX1_hasSheet 1 := ⟨⟨kc_X1_hasSheet.1, ⟨Nat.le_of_ble_eq_true rfl, Nat.le_of_ble_eq_true rfl⟩, kc_X1_hasSheet.2.1, kc_X1_hasSheet.2.2.1, kc_X1_hasSheet.2.2.2, rfl⟩, km_X1_84, kt_X1_hasSheet, ke_X1_hasSheet⟩
theorem kv_X1_refusalOfRoll_91 {G : xG} (hN : ∀ s : State, G.2.2.1 (x_A G) s s.heap → va_Nw (.methodLinkNest RX1 91 yX11_isFactor "PastryBench") s) : x_LSN G MX1_refusalOfRoll 91 MX11_isFactor 1 "PastryBench" := ⟨⟨kc_X11_isFactor.1, ⟨Nat.le_of_ble_eq_true rfl, Nat.le_of_ble_eq_true rfl⟩, kc_X11_isFactor.2.1, kc_X11_isFactor.2.2.1, kc_X11_isFactor.2.2.2, rfl⟩, hN, kt_X11_isFactor⟩
theorem kv_X1_refusalOfRoll_108 : x_LV MX1_refusalOfRoll 108 MX8_sumRolled 2 := ⟨⟨kc_X8_sumRolled.1, ⟨Nat.le_of_ble_eq_true rfl, Nat.le_of_ble_eq_true rfl⟩, kc_X8_sumRolled.2.1, kc_X8_sumRolled.2.2.1, kc_X8_sumRolled.2.2.2, rfl⟩, km_X1_108, kt_X8_sumRolled, ke_X8_sumRolled⟩
theorem kv_X1_refusalOfRoll_101 : x_LS MX1_refusalOfRoll 101 MX1_stateRefusal 1 := ⟨⟨kc_X1_stateRefusal.1, ⟨Nat.le_of_ble_eq_true rfl, Nat.le_of_ble_eq_true rfl⟩, kc_X1_stateRefusal.2.1, kc_X1_stateRefusal.2.2.1, kc_X1_stateRefusal.2.2.2, rfl⟩, km_X1_101, kt_X1_stateRefusal⟩
theorem kv_X8_sumEscaping_68 : x_LV MX8_sumEscaping 68 MX8_lossPerLayer 1 := ⟨⟨kc_X8_lossPerLayer.1, ⟨Nat.le_of_ble_eq_true rfl, Nat.le_of_ble_eq_true rfl⟩, kc_X8_lossPerLayer.2.1, kc_X8_lossPerLayer.2.2.1, kc_X8_lossPerLayer.2.2.2, rfl⟩, km_X8_68, kt_X8_lossPerLayer, ke_X8_lossPerLayer⟩
theorem kv_X8_sumEscaping_71 (n : Nat) (hn : n ≤ 8) : x_MN MX8_sumEscaping 71 n := ⟨km_X8_71, ks_min.1, ks_min.2.1, ks_min.2.2, Nat.le_of_ble_eq_true rfl, Nat.le_trans (Nat.add_le_add_right hn _) (by decide +kernel)⟩
theorem kv_X8_rollOut_68 : x_LV MX8_rollOut 68 MX8_lossPerLayer 1 := ⟨⟨kc_X8_lossPerLayer.1, ⟨Nat.le_of_ble_eq_true rfl, Nat.le_of_ble_eq_true rfl⟩, kc_X8_lossPerLayer.2.1, kc_X8_lossPerLayer.2.2.1, kc_X8_lossPerLayer.2.2.2, rfl⟩, km_X8_68, kt_X8_lossPerLayer, ke_X8_lossPerLayer⟩
theorem kv_X8_rollOut_74 : x_LV MX8_rollOut 74 MX8_thicknessRolled 3 := ⟨⟨kc_X8_thicknessRolled.1, ⟨Nat.le_of_ble_eq_true rfl, Nat.le_of_ble_eq_true rfl⟩, kc_X8_thicknessRolled.2.1, kc_X8_thicknessRolled.2.2.1, kc_X8_thicknessRolled.2.2.2, rfl⟩, km_X8_74, kt_X8_thicknessRolled, ke_X8_thicknessRolled⟩
theorem kv_X8_rollOut_42 : x_LV MX8_rollOut 42 MX8_putLayer 3 := ⟨⟨kc_X8_putLayer.1, ⟨Nat.le_of_ble_eq_true rfl, Nat.le_of_ble_eq_true rfl⟩, kc_X8_putLayer.2.1, kc_X8_putLayer.2.2.1, kc_X8_putLayer.2.2.2, rfl⟩, km_X8_42, kt_X8_putLayer, ke_X8_putLayer⟩
theorem kv_X8_rollOut_58 {G : xG} (hN : ∀ s : State, G.2.2.1 (x_A G) s s.heap → va_Nw (.methodLinkNest RX8 58 yX11_warmedByWork "PastryBench") s) : x_LSN G MX8_rollOut 58 MX11_warmedByWork 1 "PastryBench" := ⟨⟨kc_X11_warmedByWork.1, ⟨Nat.le_of_ble_eq_true rfl, Nat.le_of_ble_eq_true rfl⟩, kc_X11_warmedByWork.2.1, kc_X11_warmedByWork.2.2.1, kc_X11_warmedByWork.2.2.2, rfl⟩, hN, kt_X11_warmedByWork⟩
theorem kv_X1_applyRoll_112 : x_LV MX1_applyRoll 112 MX8_sumEscaping 1 := ⟨⟨kc_X8_sumEscaping.1, ⟨Nat.le_of_ble_eq_true rfl, Nat.le_of_ble_eq_true rfl⟩, kc_X8_sumEscaping.2.1, kc_X8_sumEscaping.2.2.1, kc_X8_sumEscaping.2.2.2, rfl⟩, km_X1_112, kt_X8_sumEscaping, ke_X8_sumEscaping⟩
theorem kv_X1_applyRoll_115 : x_LV MX1_applyRoll 115 MX8_rollOut 2 := ⟨⟨kc_X8_rollOut.1, ⟨Nat.le_of_ble_eq_true rfl, Nat.le_of_ble_eq_true rfl⟩, kc_X8_rollOut.2.1, kc_X8_rollOut.2.2.1, kc_X8_rollOut.2.2.2, rfl⟩, km_X1_115, kt_X8_rollOut, ke_X8_rollOut⟩
theorem kv_X1_refusalOfDust_84 : x_LV MX1_refusalOfDust 84 MX1_hasSheet 1 := ⟨⟨kc_X1_hasSheet.1, ⟨Nat.le_of_ble_eq_true rfl, Nat.le_of_ble_eq_true rfl⟩, kc_X1_hasSheet.2.1, kc_X1_hasSheet.2.2.1, kc_X1_hasSheet.2.2.2, rfl⟩, km_X1_84, kt_X1_hasSheet, ke_X1_hasSheet⟩
theorem kv_X1_refusalOfDust_101 : x_LS MX1_refusalOfDust 101 MX1_stateRefusal 1 := ⟨⟨kc_X1_stateRefusal.1, ⟨Nat.le_of_ble_eq_true rfl, Nat.le_of_ble_eq_true rfl⟩, kc_X1_stateRefusal.2.1, kc_X1_stateRefusal.2.2.1, kc_X1_stateRefusal.2.2.2, rfl⟩, km_X1_101, kt_X1_stateRefusal⟩
theorem kv_X1_refusalOfSeal_84 : x_LV MX1_refusalOfSeal 84 MX1_hasSheet 1 := ⟨⟨kc_X1_hasSheet.1, ⟨Nat.le_of_ble_eq_true rfl, Nat.le_of_ble_eq_true rfl⟩, kc_X1_hasSheet.2.1, kc_X1_hasSheet.2.2.1, kc_X1_hasSheet.2.2.2, rfl⟩, km_X1_84, kt_X1_hasSheet, ke_X1_hasSheet⟩
theorem kv_X1_refusalOfSeal_101 : x_LS MX1_refusalOfSeal 101 MX1_stateRefusal 1 := ⟨⟨kc_X1_stateRefusal.1, ⟨Nat.le_of_ble_eq_true rfl, Nat.le_of_ble_eq_true rfl⟩, kc_X1_stateRefusal.2.1, kc_X1_stateRefusal.2.2.1, kc_X1_stateRefusal.2.2.2, rfl⟩, km_X1_101, kt_X1_stateRefusal⟩
theorem kv_X1_applySeal_121 : x_LV MX1_applySeal 121 MX1_countSealed 0 := ⟨⟨kc_X1_countSealed.1, ⟨Nat.le_of_ble_eq_true rfl, Nat.le_of_ble_eq_true rfl⟩, kc_X1_countSealed.2.1, kc_X1_countSealed.2.2.1, kc_X1_countSealed.2.2.2, rfl⟩, km_X1_121, kt_X1_countSealed, ke_X1_countSealed⟩
theorem kv_X1_refusalOfCool_84 : x_LV MX1_refusalOfCool 84 MX1_hasSheet 1 := ⟨⟨kc_X1_hasSheet.1, ⟨Nat.le_of_ble_eq_true rfl, Nat.le_of_ble_eq_true rfl⟩, kc_X1_hasSheet.2.1, kc_X1_hasSheet.2.2.1, kc_X1_hasSheet.2.2.2, rfl⟩, km_X1_84, kt_X1_hasSheet, ke_X1_hasSheet⟩
theorem kv_X1_refusalOfCool_125 : x_LV MX1_refusalOfCool 125 MX1_countCooling 0 := ⟨⟨kc_X1_countCooling.1, ⟨Nat.le_of_ble_eq_true rfl, Nat.le_of_ble_eq_true rfl⟩, kc_X1_countCooling.2.1, kc_X1_countCooling.2.2.1, kc_X1_countCooling.2.2.2, rfl⟩, km_X1_125, kt_X1_countCooling, ke_X1_countCooling⟩
theorem kv_X1_refusalOfCool_101 : x_LS MX1_refusalOfCool 101 MX1_stateRefusal 1 := ⟨⟨kc_X1_stateRefusal.1, ⟨Nat.le_of_ble_eq_true rfl, Nat.le_of_ble_eq_true rfl⟩, kc_X1_stateRefusal.2.1, kc_X1_stateRefusal.2.2.1, kc_X1_stateRefusal.2.2.2, rfl⟩, km_X1_101, kt_X1_stateRefusal⟩
theorem kv_X1_applyCool_125 : x_LV MX1_applyCool 125 MX1_countCooling 0 := ⟨⟨kc_X1_countCooling.1, ⟨Nat.le_of_ble_eq_true rfl, Nat.le_of_ble_eq_true rfl⟩, kc_X1_countCooling.2.1, kc_X1_countCooling.2.2.1, kc_X1_countCooling.2.2.2, rfl⟩, km_X1_125, kt_X1_countCooling, ke_X1_countCooling⟩
theorem kv_X1_refusalOfTakeOut_84 : x_LV MX1_refusalOfTakeOut 84 MX1_hasSheet 1 := ⟨⟨kc_X1_hasSheet.1, ⟨Nat.le_of_ble_eq_true rfl, Nat.le_of_ble_eq_true rfl⟩, kc_X1_hasSheet.2.1, kc_X1_hasSheet.2.2.1, kc_X1_hasSheet.2.2.2, rfl⟩, km_X1_84, kt_X1_hasSheet, ke_X1_hasSheet⟩
theorem kv_X1_refusalOfTakeOut_101 : x_LS MX1_refusalOfTakeOut 101 MX1_stateRefusal 1 := ⟨⟨kc_X1_stateRefusal.1, ⟨Nat.le_of_ble_eq_true rfl, Nat.le_of_ble_eq_true rfl⟩, kc_X1_stateRefusal.2.1, kc_X1_stateRefusal.2.2.1, kc_X1_stateRefusal.2.2.2, rfl⟩, km_X1_101, kt_X1_stateRefusal⟩
theorem kv_X1_refusalOfHours_101 : x_LS MX1_refusalOfHours 101 MX1_stateRefusal 1 := ⟨⟨kc_X1_stateRefusal.1, ⟨Nat.le_of_ble_eq_true rfl, Nat.le_of_ble_eq_true rfl⟩, kc_X1_stateRefusal.2.1, kc_X1_stateRefusal.2.2.1, kc_X1_stateRefusal.2.2.2, rfl⟩, km_X1_101, kt_X1_stateRefusal⟩
theorem kv_X11_cooledByFridge_364 (n : Nat) (hn : n ≤ 8) : x_MX MX11_cooledByFridge 364 n := ⟨km_X11_364, ks_max.1, ks_max.2.1, ks_max.2.2, Nat.le_of_ble_eq_true rfl, Nat.le_trans (Nat.add_le_add_right hn _) (by decide +kernel)⟩
theorem kv_X8_warmthAfter_78 {G : xG} (hN : ∀ s : State, G.2.2.1 (x_A G) s s.heap → va_Nw (.methodLinkNest RX8 78 yX11_cooledByFridge "PastryBench") s) : x_LSN G MX8_warmthAfter 78 MX11_cooledByFridge 1 "PastryBench" := ⟨⟨kc_X11_cooledByFridge.1, ⟨Nat.le_of_ble_eq_true rfl, Nat.le_of_ble_eq_true rfl⟩, kc_X11_cooledByFridge.2.1, kc_X11_cooledByFridge.2.2.1, kc_X11_cooledByFridge.2.2.2, rfl⟩, hN, kt_X11_cooledByFridge⟩
theorem kv_X8_warmthAfter_81 {G : xG} (hN : ∀ s : State, G.2.2.1 (x_A G) s s.heap → va_Nw (.methodLinkNest RX8 81 yX11_drawnToRoom "PastryBench") s) : x_LSN G MX8_warmthAfter 81 MX11_drawnToRoom 2 "PastryBench" := ⟨⟨kc_X11_drawnToRoom.1, ⟨Nat.le_of_ble_eq_true rfl, Nat.le_of_ble_eq_true rfl⟩, kc_X11_drawnToRoom.2.1, kc_X11_drawnToRoom.2.2.1, kc_X11_drawnToRoom.2.2.2, rfl⟩, hN, kt_X11_drawnToRoom⟩
theorem kv_X1_applyHours_128 : x_LV MX1_applyHours 128 MX8_warmthAfter 2 := ⟨⟨kc_X8_warmthAfter.1, ⟨Nat.le_of_ble_eq_true rfl, Nat.le_of_ble_eq_true rfl⟩, kc_X8_warmthAfter.2.1, kc_X8_warmthAfter.2.2.1, kc_X8_warmthAfter.2.2.2, rfl⟩, km_X1_128, kt_X8_warmthAfter, ke_X8_warmthAfter⟩
theorem kv_X1_applyHours_131 : x_LV MX1_applyHours 131 MX1_countUnsafe 0 := ⟨⟨kc_X1_countUnsafe.1, ⟨Nat.le_of_ble_eq_true rfl, Nat.le_of_ble_eq_true rfl⟩, kc_X1_countUnsafe.2.1, kc_X1_countUnsafe.2.2.1, kc_X1_countUnsafe.2.2.2, rfl⟩, km_X1_131, kt_X1_countUnsafe, ke_X1_countUnsafe⟩
theorem kv_X1_refusalOfCut_84 : x_LV MX1_refusalOfCut 84 MX1_hasSheet 1 := ⟨⟨kc_X1_hasSheet.1, ⟨Nat.le_of_ble_eq_true rfl, Nat.le_of_ble_eq_true rfl⟩, kc_X1_hasSheet.2.1, kc_X1_hasSheet.2.2.1, kc_X1_hasSheet.2.2.2, rfl⟩, km_X1_84, kt_X1_hasSheet, ke_X1_hasSheet⟩
theorem kv_X1_refusalOfCut_101 : x_LS MX1_refusalOfCut 101 MX1_stateRefusal 1 := ⟨⟨kc_X1_stateRefusal.1, ⟨Nat.le_of_ble_eq_true rfl, Nat.le_of_ble_eq_true rfl⟩, kc_X1_stateRefusal.2.1, kc_X1_stateRefusal.2.2.1, kc_X1_stateRefusal.2.2.2, rfl⟩, km_X1_101, kt_X1_stateRefusal⟩
theorem kv_X1_applyCut_58 : x_LV MX1_applyCut 58 MX8_copyFrom 1 := ⟨⟨kc_X8_copyFrom.1, ⟨Nat.le_of_ble_eq_true rfl, Nat.le_of_ble_eq_true rfl⟩, kc_X8_copyFrom.2.1, kc_X8_copyFrom.2.2.1, kc_X8_copyFrom.2.2.2, rfl⟩, km_X1_58, kt_X8_copyFrom, ke_X8_copyFrom⟩
theorem kv_X8_joinsWith_46 : x_LV MX8_joinsWith 46 MX8_wouldJoin 1 := ⟨⟨kc_X8_wouldJoin.1, ⟨Nat.le_of_ble_eq_true rfl, Nat.le_of_ble_eq_true rfl⟩, kc_X8_wouldJoin.2.1, kc_X8_wouldJoin.2.2.1, kc_X8_wouldJoin.2.2.2, rfl⟩, km_X8_46, kt_X8_wouldJoin, ke_X8_wouldJoin⟩
theorem kv_X8_layersWith_84 : x_LV MX8_layersWith 84 MX8_joinsWith 1 := ⟨⟨kc_X8_joinsWith.1, ⟨Nat.le_of_ble_eq_true rfl, Nat.le_of_ble_eq_true rfl⟩, kc_X8_joinsWith.2.1, kc_X8_joinsWith.2.2.1, kc_X8_joinsWith.2.2.2, rfl⟩, km_X8_84, kt_X8_joinsWith, ke_X8_joinsWith⟩
theorem kv_X1_refusalOfStack_84 : x_LV MX1_refusalOfStack 84 MX1_hasSheet 1 := ⟨⟨kc_X1_hasSheet.1, ⟨Nat.le_of_ble_eq_true rfl, Nat.le_of_ble_eq_true rfl⟩, kc_X1_hasSheet.2.1, kc_X1_hasSheet.2.2.1, kc_X1_hasSheet.2.2.2, rfl⟩, km_X1_84, kt_X1_hasSheet, ke_X1_hasSheet⟩
theorem kv_X1_refusalOfStack_134 : x_LV MX1_refusalOfStack 134 MX8_layersWith 1 := ⟨⟨kc_X8_layersWith.1, ⟨Nat.le_of_ble_eq_true rfl, Nat.le_of_ble_eq_true rfl⟩, kc_X8_layersWith.2.1, kc_X8_layersWith.2.2.1, kc_X8_layersWith.2.2.2, rfl⟩, km_X1_134, kt_X8_layersWith, ke_X8_layersWith⟩
theorem kv_X1_refusalOfStack_138 : x_LV MX1_refusalOfStack 138 MX8_totalHeight 0 := ⟨⟨kc_X8_totalHeight.1, ⟨Nat.le_of_ble_eq_true rfl, Nat.le_of_ble_eq_true rfl⟩, kc_X8_totalHeight.2.1, kc_X8_totalHeight.2.2.1, kc_X8_totalHeight.2.2.2, rfl⟩, km_X1_138, kt_X8_totalHeight, ke_X8_totalHeight⟩
theorem kv_X1_refusalOfStack_101 : x_LS MX1_refusalOfStack 101 MX1_stateRefusal 1 := ⟨⟨kc_X1_stateRefusal.1, ⟨Nat.le_of_ble_eq_true rfl, Nat.le_of_ble_eq_true rfl⟩, kc_X1_stateRefusal.2.1, kc_X1_stateRefusal.2.2.1, kc_X1_stateRefusal.2.2.2, rfl⟩, km_X1_101, kt_X1_stateRefusal⟩
theorem kv_X8_carry_42 : x_LV MX8_carry 42 MX8_putLayer 3 := ⟨⟨kc_X8_putLayer.1, ⟨Nat.le_of_ble_eq_true rfl, Nat.le_of_ble_eq_true rfl⟩, kc_X8_putLayer.2.1, kc_X8_putLayer.2.2.1, kc_X8_putLayer.2.2.2, rfl⟩, km_X8_42, kt_X8_putLayer, ke_X8_putLayer⟩
theorem kv_X8_carry_62 (n : Nat) (hn : n ≤ 8) : x_MX MX8_carry 62 n := ⟨km_X8_62, ks_max.1, ks_max.2.1, ks_max.2.2, Nat.le_of_ble_eq_true rfl, Nat.le_trans (Nat.add_le_add_right hn _) (by decide +kernel)⟩
theorem kv_X1_applyStack_141 : x_LV MX1_applyStack 141 MX8_carry 1 := ⟨⟨kc_X8_carry.1, ⟨Nat.le_of_ble_eq_true rfl, Nat.le_of_ble_eq_true rfl⟩, kc_X8_carry.2.1, kc_X8_carry.2.2.1, kc_X8_carry.2.2.2, rfl⟩, km_X1_141, kt_X8_carry, ke_X8_carry⟩
theorem kv_X1_applyStack_144 : x_LV MX1_applyStack 144 MX1_removeSheet 1 := ⟨⟨kc_X1_removeSheet.1, ⟨Nat.le_of_ble_eq_true rfl, Nat.le_of_ble_eq_true rfl⟩, kc_X1_removeSheet.2.1, kc_X1_removeSheet.2.2.1, kc_X1_removeSheet.2.2.2, rfl⟩, km_X1_144, kt_X1_removeSheet, ke_X1_removeSheet⟩
theorem kv_X1_refusalOfButter_84 : x_LV MX1_refusalOfButter 84 MX1_hasSheet 1 := ⟨⟨kc_X1_hasSheet.1, ⟨Nat.le_of_ble_eq_true rfl, Nat.le_of_ble_eq_true rfl⟩, kc_X1_hasSheet.2.1, kc_X1_hasSheet.2.2.1, kc_X1_hasSheet.2.2.2, rfl⟩, km_X1_84, kt_X1_hasSheet, ke_X1_hasSheet⟩
theorem kv_X1_refusalOfButter_138 : x_LV MX1_refusalOfButter 138 MX8_totalHeight 0 := ⟨⟨kc_X8_totalHeight.1, ⟨Nat.le_of_ble_eq_true rfl, Nat.le_of_ble_eq_true rfl⟩, kc_X8_totalHeight.2.1, kc_X8_totalHeight.2.2.1, kc_X8_totalHeight.2.2.2, rfl⟩, km_X1_138, kt_X8_totalHeight, ke_X8_totalHeight⟩
theorem kv_X1_refusalOfButter_101 : x_LS MX1_refusalOfButter 101 MX1_stateRefusal 1 := ⟨⟨kc_X1_stateRefusal.1, ⟨Nat.le_of_ble_eq_true rfl, Nat.le_of_ble_eq_true rfl⟩, kc_X1_stateRefusal.2.1, kc_X1_stateRefusal.2.2.1, kc_X1_stateRefusal.2.2.2, rfl⟩, km_X1_101, kt_X1_stateRefusal⟩
theorem kv_X8_butterTop_42 : x_LV MX8_butterTop 42 MX8_putLayer 3 := ⟨⟨kc_X8_putLayer.1, ⟨Nat.le_of_ble_eq_true rfl, Nat.le_of_ble_eq_true rfl⟩, kc_X8_putLayer.2.1, kc_X8_putLayer.2.2.1, kc_X8_putLayer.2.2.2, rfl⟩, km_X8_42, kt_X8_putLayer, ke_X8_putLayer⟩
theorem kv_X1_applyButter_147 : x_LV MX1_applyButter 147 MX8_butterTop 1 := ⟨⟨kc_X8_butterTop.1, ⟨Nat.le_of_ble_eq_true rfl, Nat.le_of_ble_eq_true rfl⟩, kc_X8_butterTop.2.1, kc_X8_butterTop.2.2.1, kc_X8_butterTop.2.2.2, rfl⟩, km_X1_147, kt_X8_butterTop, ke_X8_butterTop⟩
theorem kv_X1_refusalOfFlour_101 : x_LS MX1_refusalOfFlour 101 MX1_stateRefusal 1 := ⟨⟨kc_X1_stateRefusal.1, ⟨Nat.le_of_ble_eq_true rfl, Nat.le_of_ble_eq_true rfl⟩, kc_X1_stateRefusal.2.1, kc_X1_stateRefusal.2.2.1, kc_X1_stateRefusal.2.2.2, rfl⟩, km_X1_101, kt_X1_stateRefusal⟩
theorem kv_X3_init_17 : x_LI MX3_init 17 MX1_init 0 := ⟨⟨kc_X1_init.1, ⟨Nat.le_of_ble_eq_true rfl, Nat.le_of_ble_eq_true rfl⟩, kc_X1_init.2.1, kc_X1_init.2.2.1, kc_X1_init.2.2.2, rfl⟩, km_X3_17, kt_X1_init, rfl, rfl⟩
theorem kv_X3_remember_22 : x_LV MX3_remember 22 MX3_dropOldest 0 := ⟨⟨kc_X3_dropOldest.1, ⟨Nat.le_of_ble_eq_true rfl, Nat.le_of_ble_eq_true rfl⟩, kc_X3_dropOldest.2.1, kc_X3_dropOldest.2.2.1, kc_X3_dropOldest.2.2.2, rfl⟩, km_X3_22, kt_X3_dropOldest, ke_X3_dropOldest⟩
theorem kv_X3_remember_25 : x_LV MX3_remember 25 MX1_copyFrom 1 := ⟨⟨kc_X1_copyFrom.1, ⟨Nat.le_of_ble_eq_true rfl, Nat.le_of_ble_eq_true rfl⟩, kc_X1_copyFrom.2.1, kc_X1_copyFrom.2.2.1, kc_X1_copyFrom.2.2.2, rfl⟩, km_X3_25, kt_X1_copyFrom, ke_X1_copyFrom⟩
theorem kv_X3_takeBack_25 : x_LV MX3_takeBack 25 MX1_copyFrom 1 := ⟨⟨kc_X1_copyFrom.1, ⟨Nat.le_of_ble_eq_true rfl, Nat.le_of_ble_eq_true rfl⟩, kc_X1_copyFrom.2.1, kc_X1_copyFrom.2.2.1, kc_X1_copyFrom.2.2.2, rfl⟩, km_X3_25, kt_X1_copyFrom, ke_X1_copyFrom⟩
theorem kv_X5_init_11 {G : xG} (hN : ∀ s : State, G.2.2.1 (x_A G) s s.heap → va_Nw (.methodLinkNest RX5 11 yX10_init "PastryBench") s) : x_LIN G MX5_init 11 MX10_init 0 "PastryBench" := ⟨⟨kc_X10_init.1, ⟨Nat.le_of_ble_eq_true rfl, Nat.le_of_ble_eq_true rfl⟩, kc_X10_init.2.1, kc_X10_init.2.2.1, kc_X10_init.2.2.2, rfl⟩, hN, kt_X10_init, rfl, rfl⟩
theorem kv_X10_advance_40 : x_LS MX10_advance 40 MX10_isSeparator 1 := ⟨⟨kc_X10_isSeparator.1, ⟨Nat.le_of_ble_eq_true rfl, Nat.le_of_ble_eq_true rfl⟩, kc_X10_isSeparator.2.1, kc_X10_isSeparator.2.2.1, kc_X10_isSeparator.2.2.2, rfl⟩, km_X10_40, kt_X10_isSeparator⟩
theorem kv_X10_advance_47 : x_LS MX10_advance 47 MX10_isLetter 1 := ⟨⟨kc_X10_isLetter.1, ⟨Nat.le_of_ble_eq_true rfl, Nat.le_of_ble_eq_true rfl⟩, kc_X10_isLetter.2.1, kc_X10_isLetter.2.2.1, kc_X10_isLetter.2.2.2, rfl⟩, km_X10_47, kt_X10_isLetter⟩
theorem kv_X10_advance_53 : x_LS MX10_advance 53 MX10_isDigit 1 := ⟨⟨kc_X10_isDigit.1, ⟨Nat.le_of_ble_eq_true rfl, Nat.le_of_ble_eq_true rfl⟩, kc_X10_isDigit.2.1, kc_X10_isDigit.2.2.1, kc_X10_isDigit.2.2.2, rfl⟩, km_X10_53, kt_X10_isDigit⟩
theorem kv_X10_advance_24 (n : Nat) (hn : n ≤ 8) : x_MN MX10_advance 24 n := ⟨km_X10_24, ks_min.1, ks_min.2.1, ks_min.2.2, Nat.le_of_ble_eq_true rfl, Nat.le_trans (Nat.add_le_add_right hn _) (by decide +kernel)⟩
theorem kv_X10_begin_24 (n : Nat) (hn : n ≤ 8) : x_MN MX10_begin 24 n := ⟨km_X10_24, ks_min.1, ks_min.2.1, ks_min.2.2, Nat.le_of_ble_eq_true rfl, Nat.le_trans (Nat.add_le_add_right hn _) (by decide +kernel)⟩
theorem kv_X10_begin_37 : x_LV MX10_begin 37 MX10_advance 0 := ⟨⟨kc_X10_advance.1, ⟨Nat.le_of_ble_eq_true rfl, Nat.le_of_ble_eq_true rfl⟩, kc_X10_advance.2.1, kc_X10_advance.2.2.1, kc_X10_advance.2.2.2, rfl⟩, km_X10_37, kt_X10_advance, ke_X10_advance⟩
theorem kv_X5_begin_25 : x_LV MX5_begin 25 MX10_begin 2 := ⟨⟨kc_X10_begin.1, ⟨Nat.le_of_ble_eq_true rfl, Nat.le_of_ble_eq_true rfl⟩, kc_X10_begin.2.1, kc_X10_begin.2.2.1, kc_X10_begin.2.2.2, rfl⟩, km_X5_25, kt_X10_begin, ke_X10_begin⟩
theorem kv_J0_length_8abf5_335 : x_LV MJ0_length_8abf5 335 MJ0_coder_7d493 0 := ⟨⟨kc_J0_coder_7d493.1, ⟨Nat.le_of_ble_eq_true rfl, Nat.le_of_ble_eq_true rfl⟩, kc_J0_coder_7d493.2.1, kc_J0_coder_7d493.2.2.1, kc_J0_coder_7d493.2.2.2, rfl⟩, km_J0_335, kt_J0_coder_7d493, ke_J0_coder_7d493⟩
theorem kv_J0_checkIndex_df160_1059 : x_LS MJ0_checkIndex_df160 1059 MJ3_checkIndex_8e157 3 := ⟨⟨kc_J3_checkIndex_8e157.1, ⟨Nat.le_of_ble_eq_true rfl, Nat.le_of_ble_eq_true rfl⟩, kc_J3_checkIndex_8e157.2.1, kc_J3_checkIndex_8e157.2.2.1, kc_J3_checkIndex_8e157.2.2.2, rfl⟩, km_J0_1059, kt_J3_checkIndex_8e157⟩
theorem kv_J1_charAt_3b067_9 : x_LS MJ1_charAt_3b067 9 MJ0_checkIndex_df160 2 := ⟨⟨kc_J0_checkIndex_df160.1, ⟨Nat.le_of_ble_eq_true rfl, Nat.le_of_ble_eq_true rfl⟩, kc_J0_checkIndex_df160.2.1, kc_J0_checkIndex_df160.2.2.1, kc_J0_checkIndex_df160.2.2.2, rfl⟩, km_J1_9, kt_J0_checkIndex_df160⟩
theorem kv_J2_checkIndex_2214a_48 : x_LS MJ2_checkIndex_2214a 48 MJ2_length_9d52b 1 := ⟨⟨kc_J2_length_9d52b.1, ⟨Nat.le_of_ble_eq_true rfl, Nat.le_of_ble_eq_true rfl⟩, kc_J2_length_9d52b.2.1, kc_J2_length_9d52b.2.2.1, kc_J2_length_9d52b.2.2.2, rfl⟩, km_J2_48, kt_J2_length_9d52b⟩
theorem kv_J2_checkIndex_2214a_414 : x_LS MJ2_checkIndex_2214a 414 MJ0_checkIndex_df160 2 := ⟨⟨kc_J0_checkIndex_df160.1, ⟨Nat.le_of_ble_eq_true rfl, Nat.le_of_ble_eq_true rfl⟩, kc_J0_checkIndex_df160.2.1, kc_J0_checkIndex_df160.2.2.1, kc_J0_checkIndex_df160.2.2.2, rfl⟩, km_J2_414, kt_J0_checkIndex_df160⟩
theorem kv_J2_getChar_3b067_48 : x_LS MJ2_getChar_3b067 48 MJ2_length_9d52b 1 := ⟨⟨kc_J2_length_9d52b.1, ⟨Nat.le_of_ble_eq_true rfl, Nat.le_of_ble_eq_true rfl⟩, kc_J2_length_9d52b.2.1, kc_J2_length_9d52b.2.2.1, kc_J2_length_9d52b.2.2.2, rfl⟩, km_J2_48, kt_J2_length_9d52b⟩
theorem kv_J2_charAt_3b067_67 : x_LS MJ2_charAt_3b067 67 MJ2_checkIndex_2214a 2 := ⟨⟨kc_J2_checkIndex_2214a.1, ⟨Nat.le_of_ble_eq_true rfl, Nat.le_of_ble_eq_true rfl⟩, kc_J2_checkIndex_2214a.2.1, kc_J2_checkIndex_2214a.2.2.1, kc_J2_checkIndex_2214a.2.2.2, rfl⟩, km_J2_67, kt_J2_checkIndex_2214a⟩
theorem kv_J2_charAt_3b067_71 : x_LS MJ2_charAt_3b067 71 MJ2_getChar_3b067 2 := ⟨⟨kc_J2_getChar_3b067.1, ⟨Nat.le_of_ble_eq_true rfl, Nat.le_of_ble_eq_true rfl⟩, kc_J2_getChar_3b067.2.1, kc_J2_getChar_3b067.2.2.1, kc_J2_getChar_3b067.2.2.2, rfl⟩, km_J2_71, kt_J2_getChar_3b067⟩
theorem kv_J0_charAt_5068e_492 : x_LV MJ0_charAt_5068e 492 MJ0_isLatin1_aae02 0 := ⟨⟨kc_J0_isLatin1_aae02.1, ⟨Nat.le_of_ble_eq_true rfl, Nat.le_of_ble_eq_true rfl⟩, kc_J0_isLatin1_aae02.2.1, kc_J0_isLatin1_aae02.2.2.1, kc_J0_isLatin1_aae02.2.2.2, rfl⟩, km_J0_492, kt_J0_isLatin1_aae02, ke_J0_isLatin1_aae02⟩
theorem kv_J0_charAt_5068e_495 : x_LS MJ0_charAt_5068e 495 MJ1_charAt_3b067 2 := ⟨⟨kc_J1_charAt_3b067.1, ⟨Nat.le_of_ble_eq_true rfl, Nat.le_of_ble_eq_true rfl⟩, kc_J1_charAt_3b067.2.1, kc_J1_charAt_3b067.2.2.1, kc_J1_charAt_3b067.2.2.2, rfl⟩, km_J0_495, kt_J1_charAt_3b067⟩
theorem kv_J0_charAt_5068e_498 : x_LS MJ0_charAt_5068e 498 MJ2_charAt_3b067 2 := ⟨⟨kc_J2_charAt_3b067.1, ⟨Nat.le_of_ble_eq_true rfl, Nat.le_of_ble_eq_true rfl⟩, kc_J2_charAt_3b067.2.1, kc_J2_charAt_3b067.2.2.1, kc_J2_charAt_3b067.2.2.2, rfl⟩, km_J0_498, kt_J2_charAt_3b067⟩
theorem kv_X10_isWord_69 : x_LV MX10_isWord 69 MJ0_length_8abf5 0 := ⟨⟨kc_J0_length_8abf5.1, ⟨Nat.le_of_ble_eq_true rfl, Nat.le_of_ble_eq_true rfl⟩, kc_J0_length_8abf5.2.1, kc_J0_length_8abf5.2.2.1, kc_J0_length_8abf5.2.2.2, rfl⟩, km_X10_69, kt_J0_length_8abf5, ke_J0_length_8abf5⟩
theorem kv_X10_isWord_74 : x_LV MX10_isWord 74 MJ0_charAt_5068e 1 := ⟨⟨kc_J0_charAt_5068e.1, ⟨Nat.le_of_ble_eq_true rfl, Nat.le_of_ble_eq_true rfl⟩, kc_J0_charAt_5068e.2.1, kc_J0_charAt_5068e.2.2.1, kc_J0_charAt_5068e.2.2.2, rfl⟩, km_X10_74, kt_J0_charAt_5068e, ke_J0_charAt_5068e⟩
theorem kv_X5_takeWord_32 : x_LV MX5_takeWord 32 MX10_isWord 1 := ⟨⟨kc_X10_isWord.1, ⟨Nat.le_of_ble_eq_true rfl, Nat.le_of_ble_eq_true rfl⟩, kc_X10_isWord.2.1, kc_X10_isWord.2.2.1, kc_X10_isWord.2.2.2, rfl⟩, km_X5_32, kt_X10_isWord, ke_X10_isWord⟩
theorem kv_X5_takeWord_36 : x_LV MX5_takeWord 36 MX5_fail 1 := ⟨⟨kc_X5_fail.1, ⟨Nat.le_of_ble_eq_true rfl, Nat.le_of_ble_eq_true rfl⟩, kc_X5_fail.2.1, kc_X5_fail.2.2.1, kc_X5_fail.2.2.2, rfl⟩, km_X5_36, kt_X5_fail, ke_X5_fail⟩
theorem kv_X5_takeWord_40 : x_LV MX5_takeWord 40 MX10_advance 0 := ⟨⟨kc_X10_advance.1, ⟨Nat.le_of_ble_eq_true rfl, Nat.le_of_ble_eq_true rfl⟩, kc_X10_advance.2.1, kc_X10_advance.2.2.1, kc_X10_advance.2.2.2, rfl⟩, km_X5_40, kt_X10_advance, ke_X10_advance⟩
theorem kv_X5_takeSemicolon_36 : x_LV MX5_takeSemicolon 36 MX5_fail 1 := ⟨⟨kc_X5_fail.1, ⟨Nat.le_of_ble_eq_true rfl, Nat.le_of_ble_eq_true rfl⟩, kc_X5_fail.2.1, kc_X5_fail.2.2.1, kc_X5_fail.2.2.2, rfl⟩, km_X5_36, kt_X5_fail, ke_X5_fail⟩
theorem kv_X5_takeSemicolon_40 : x_LV MX5_takeSemicolon 40 MX10_advance 0 := ⟨⟨kc_X10_advance.1, ⟨Nat.le_of_ble_eq_true rfl, Nat.le_of_ble_eq_true rfl⟩, kc_X10_advance.2.1, kc_X10_advance.2.2.1, kc_X10_advance.2.2.2, rfl⟩, km_X5_40, kt_X10_advance, ke_X10_advance⟩
theorem kv_X5_takeNumber_36 : x_LV MX5_takeNumber 36 MX5_fail 1 := ⟨⟨kc_X5_fail.1, ⟨Nat.le_of_ble_eq_true rfl, Nat.le_of_ble_eq_true rfl⟩, kc_X5_fail.2.1, kc_X5_fail.2.2.1, kc_X5_fail.2.2.2, rfl⟩, km_X5_36, kt_X5_fail, ke_X5_fail⟩
theorem kv_X5_takeNumber_40 : x_LV MX5_takeNumber 40 MX10_advance 0 := ⟨⟨kc_X10_advance.1, ⟨Nat.le_of_ble_eq_true rfl, Nat.le_of_ble_eq_true rfl⟩, kc_X10_advance.2.1, kc_X10_advance.2.2.1, kc_X10_advance.2.2.2, rfl⟩, km_X5_40, kt_X10_advance, ke_X10_advance⟩
theorem kv_X5_readHeader_76 : x_LV MX5_readHeader 76 MX5_takeWord 1 := ⟨⟨kc_X5_takeWord.1, ⟨Nat.le_of_ble_eq_true rfl, Nat.le_of_ble_eq_true rfl⟩, kc_X5_takeWord.2.1, kc_X5_takeWord.2.2.1, kc_X5_takeWord.2.2.2, rfl⟩, km_X5_76, kt_X5_takeWord, ke_X5_takeWord⟩
theorem kv_X5_readHeader_79 : x_LV MX5_readHeader 79 MX5_takeNumber 2 := ⟨⟨kc_X5_takeNumber.1, ⟨Nat.le_of_ble_eq_true rfl, Nat.le_of_ble_eq_true rfl⟩, kc_X5_takeNumber.2.1, kc_X5_takeNumber.2.2.1, kc_X5_takeNumber.2.2.2, rfl⟩, km_X5_79, kt_X5_takeNumber, ke_X5_takeNumber⟩
theorem kv_X5_readHeader_83 : x_LV MX5_readHeader 83 MX1_begin 3 := ⟨⟨kc_X1_begin.1, ⟨Nat.le_of_ble_eq_true rfl, Nat.le_of_ble_eq_true rfl⟩, kc_X1_begin.2.1, kc_X1_begin.2.2.1, kc_X1_begin.2.2.2, rfl⟩, km_X5_83, kt_X1_begin, ke_X1_begin⟩
theorem kv_X5_readHeader_88 : x_LV MX5_readHeader 88 MX5_takeSemicolon 0 := ⟨⟨kc_X5_takeSemicolon.1, ⟨Nat.le_of_ble_eq_true rfl, Nat.le_of_ble_eq_true rfl⟩, kc_X5_takeSemicolon.2.1, kc_X5_takeSemicolon.2.2.1, kc_X5_takeSemicolon.2.2.2, rfl⟩, km_X5_88, kt_X5_takeSemicolon, ke_X5_takeSemicolon⟩
theorem kv_X5_isLayerWord_32 : x_LV MX5_isLayerWord 32 MX10_isWord 1 := ⟨⟨kc_X10_isWord.1, ⟨Nat.le_of_ble_eq_true rfl, Nat.le_of_ble_eq_true rfl⟩, kc_X10_isWord.2.1, kc_X10_isWord.2.2.1, kc_X10_isWord.2.2.2, rfl⟩, km_X5_32, kt_X10_isWord, ke_X10_isWord⟩
theorem kv_X5_readLayer_99 : x_LV MX5_readLayer 99 MX5_isLayerWord 0 := ⟨⟨kc_X5_isLayerWord.1, ⟨Nat.le_of_ble_eq_true rfl, Nat.le_of_ble_eq_true rfl⟩, kc_X5_isLayerWord.2.1, kc_X5_isLayerWord.2.2.1, kc_X5_isLayerWord.2.2.2, rfl⟩, km_X5_99, kt_X5_isLayerWord, ke_X5_isLayerWord⟩
theorem kv_X5_readLayer_36 : x_LV MX5_readLayer 36 MX5_fail 1 := ⟨⟨kc_X5_fail.1, ⟨Nat.le_of_ble_eq_true rfl, Nat.le_of_ble_eq_true rfl⟩, kc_X5_fail.2.1, kc_X5_fail.2.2.1, kc_X5_fail.2.2.2, rfl⟩, km_X5_36, kt_X5_fail, ke_X5_fail⟩
theorem kv_X5_readLayer_32 : x_LV MX5_readLayer 32 MX10_isWord 1 := ⟨⟨kc_X10_isWord.1, ⟨Nat.le_of_ble_eq_true rfl, Nat.le_of_ble_eq_true rfl⟩, kc_X10_isWord.2.1, kc_X10_isWord.2.2.1, kc_X10_isWord.2.2.2, rfl⟩, km_X5_32, kt_X10_isWord, ke_X10_isWord⟩
theorem kv_X5_readLayer_40 : x_LV MX5_readLayer 40 MX10_advance 0 := ⟨⟨kc_X10_advance.1, ⟨Nat.le_of_ble_eq_true rfl, Nat.le_of_ble_eq_true rfl⟩, kc_X10_advance.2.1, kc_X10_advance.2.2.1, kc_X10_advance.2.2.2, rfl⟩, km_X5_40, kt_X10_advance, ke_X10_advance⟩
theorem kv_X5_readLayer_79 : x_LV MX5_readLayer 79 MX5_takeNumber 2 := ⟨⟨kc_X5_takeNumber.1, ⟨Nat.le_of_ble_eq_true rfl, Nat.le_of_ble_eq_true rfl⟩, kc_X5_takeNumber.2.1, kc_X5_takeNumber.2.2.1, kc_X5_takeNumber.2.2.2, rfl⟩, km_X5_79, kt_X5_takeNumber, ke_X5_takeNumber⟩
theorem kv_X5_readLayer_106 : x_LV MX5_readLayer 106 MX1_addLayer 2 := ⟨⟨kc_X1_addLayer.1, ⟨Nat.le_of_ble_eq_true rfl, Nat.le_of_ble_eq_true rfl⟩, kc_X1_addLayer.2.1, kc_X1_addLayer.2.2.1, kc_X1_addLayer.2.2.2, rfl⟩, km_X5_106, kt_X1_addLayer, ke_X1_addLayer⟩
theorem kv_X5_readSheet_76 : x_LV MX5_readSheet 76 MX5_takeWord 1 := ⟨⟨kc_X5_takeWord.1, ⟨Nat.le_of_ble_eq_true rfl, Nat.le_of_ble_eq_true rfl⟩, kc_X5_takeWord.2.1, kc_X5_takeWord.2.2.1, kc_X5_takeWord.2.2.2, rfl⟩, km_X5_76, kt_X5_takeWord, ke_X5_takeWord⟩
theorem kv_X5_readSheet_79 : x_LV MX5_readSheet 79 MX5_takeNumber 2 := ⟨⟨kc_X5_takeNumber.1, ⟨Nat.le_of_ble_eq_true rfl, Nat.le_of_ble_eq_true rfl⟩, kc_X5_takeNumber.2.1, kc_X5_takeNumber.2.2.1, kc_X5_takeNumber.2.2.2, rfl⟩, km_X5_79, kt_X5_takeNumber, ke_X5_takeNumber⟩
theorem kv_X5_readSheet_92 : x_LV MX5_readSheet 92 MX1_addSheet 1 := ⟨⟨kc_X1_addSheet.1, ⟨Nat.le_of_ble_eq_true rfl, Nat.le_of_ble_eq_true rfl⟩, kc_X1_addSheet.2.1, kc_X1_addSheet.2.2.1, kc_X1_addSheet.2.2.2, rfl⟩, km_X5_92, kt_X1_addSheet, ke_X1_addSheet⟩
theorem kv_X5_readSheet_96 : x_LV MX5_readSheet 96 MX5_readLayer 1 := ⟨⟨kc_X5_readLayer.1, ⟨Nat.le_of_ble_eq_true rfl, Nat.le_of_ble_eq_true rfl⟩, kc_X5_readLayer.2.1, kc_X5_readLayer.2.2.1, kc_X5_readLayer.2.2.2, rfl⟩, km_X5_96, kt_X5_readLayer, ke_X5_readLayer⟩
theorem kv_X5_readSheet_99 : x_LV MX5_readSheet 99 MX5_isLayerWord 0 := ⟨⟨kc_X5_isLayerWord.1, ⟨Nat.le_of_ble_eq_true rfl, Nat.le_of_ble_eq_true rfl⟩, kc_X5_isLayerWord.2.1, kc_X5_isLayerWord.2.2.1, kc_X5_isLayerWord.2.2.2, rfl⟩, km_X5_99, kt_X5_isLayerWord, ke_X5_isLayerWord⟩
theorem kv_X5_readSheet_36 : x_LV MX5_readSheet 36 MX5_fail 1 := ⟨⟨kc_X5_fail.1, ⟨Nat.le_of_ble_eq_true rfl, Nat.le_of_ble_eq_true rfl⟩, kc_X5_fail.2.1, kc_X5_fail.2.2.1, kc_X5_fail.2.2.2, rfl⟩, km_X5_36, kt_X5_fail, ke_X5_fail⟩
theorem kv_X5_readSheet_88 : x_LV MX5_readSheet 88 MX5_takeSemicolon 0 := ⟨⟨kc_X5_takeSemicolon.1, ⟨Nat.le_of_ble_eq_true rfl, Nat.le_of_ble_eq_true rfl⟩, kc_X5_takeSemicolon.2.1, kc_X5_takeSemicolon.2.2.1, kc_X5_takeSemicolon.2.2.2, rfl⟩, km_X5_88, kt_X5_takeSemicolon, ke_X5_takeSemicolon⟩
theorem kv_X5_readBench_61 : x_LV MX5_readBench 61 MX5_begin 2 := ⟨⟨kc_X5_begin.1, ⟨Nat.le_of_ble_eq_true rfl, Nat.le_of_ble_eq_true rfl⟩, kc_X5_begin.2.1, kc_X5_begin.2.2.1, kc_X5_begin.2.2.2, rfl⟩, km_X5_61, kt_X5_begin, ke_X5_begin⟩
theorem kv_X5_readBench_62 : x_LV MX5_readBench 62 MX5_readHeader 1 := ⟨⟨kc_X5_readHeader.1, ⟨Nat.le_of_ble_eq_true rfl, Nat.le_of_ble_eq_true rfl⟩, kc_X5_readHeader.2.1, kc_X5_readHeader.2.2.1, kc_X5_readHeader.2.2.2, rfl⟩, km_X5_62, kt_X5_readHeader, ke_X5_readHeader⟩
theorem kv_X5_readBench_69 : x_LV MX5_readBench 69 MX5_readSheet 1 := ⟨⟨kc_X5_readSheet.1, ⟨Nat.le_of_ble_eq_true rfl, Nat.le_of_ble_eq_true rfl⟩, kc_X5_readSheet.2.1, kc_X5_readSheet.2.2.1, kc_X5_readSheet.2.2.2, rfl⟩, km_X5_69, kt_X5_readSheet, ke_X5_readSheet⟩
theorem kv_X5_readBench_32 : x_LV MX5_readBench 32 MX10_isWord 1 := ⟨⟨kc_X10_isWord.1, ⟨Nat.le_of_ble_eq_true rfl, Nat.le_of_ble_eq_true rfl⟩, kc_X10_isWord.2.1, kc_X10_isWord.2.2.1, kc_X10_isWord.2.2.2, rfl⟩, km_X5_32, kt_X10_isWord, ke_X10_isWord⟩
theorem kv_X5_readBench_36 : x_LV MX5_readBench 36 MX5_fail 1 := ⟨⟨kc_X5_fail.1, ⟨Nat.le_of_ble_eq_true rfl, Nat.le_of_ble_eq_true rfl⟩, kc_X5_fail.2.1, kc_X5_fail.2.2.1, kc_X5_fail.2.2.2, rfl⟩, km_X5_36, kt_X5_fail, ke_X5_fail⟩
theorem kv_X8_countPossibleFolds_50 {G : xG} (hN : ∀ s : State, G.2.2.1 (x_A G) s s.heap → va_Nw (.methodLinkNest RX8 50 yX11_layersFolded "PastryBench") s) : x_LSN G MX8_countPossibleFolds 50 MX11_layersFolded 3 "PastryBench" := ⟨⟨kc_X11_layersFolded.1, ⟨Nat.le_of_ble_eq_true rfl, Nat.le_of_ble_eq_true rfl⟩, kc_X11_layersFolded.2.1, kc_X11_layersFolded.2.2.1, kc_X11_layersFolded.2.2.2, rfl⟩, hN, kt_X11_layersFolded⟩
theorem kv_X8_countPossibleFolds_54 : x_LV MX8_countPossibleFolds 54 MX8_totalHeight 0 := ⟨⟨kc_X8_totalHeight.1, ⟨Nat.le_of_ble_eq_true rfl, Nat.le_of_ble_eq_true rfl⟩, kc_X8_totalHeight.2.1, kc_X8_totalHeight.2.2.1, kc_X8_totalHeight.2.2.2, rfl⟩, km_X8_54, kt_X8_totalHeight, ke_X8_totalHeight⟩
theorem kv_X8_countBreaking_68 : x_LV MX8_countBreaking 68 MX8_lossPerLayer 1 := ⟨⟨kc_X8_lossPerLayer.1, ⟨Nat.le_of_ble_eq_true rfl, Nat.le_of_ble_eq_true rfl⟩, kc_X8_lossPerLayer.2.1, kc_X8_lossPerLayer.2.2.1, kc_X8_lossPerLayer.2.2.2, rfl⟩, km_X8_68, kt_X8_lossPerLayer, ke_X8_lossPerLayer⟩
theorem kv_X8_countBreaking_74 : x_LV MX8_countBreaking 74 MX8_thicknessRolled 3 := ⟨⟨kc_X8_thicknessRolled.1, ⟨Nat.le_of_ble_eq_true rfl, Nat.le_of_ble_eq_true rfl⟩, kc_X8_thicknessRolled.2.1, kc_X8_thicknessRolled.2.2.1, kc_X8_thicknessRolled.2.2.2, rfl⟩, km_X8_74, kt_X8_thicknessRolled, ke_X8_thicknessRolled⟩
theorem kv_X8_countHoursToSafety_78 {G : xG} (hN : ∀ s : State, G.2.2.1 (x_A G) s s.heap → va_Nw (.methodLinkNest RX8 78 yX11_cooledByFridge "PastryBench") s) : x_LSN G MX8_countHoursToSafety 78 MX11_cooledByFridge 1 "PastryBench" := ⟨⟨kc_X11_cooledByFridge.1, ⟨Nat.le_of_ble_eq_true rfl, Nat.le_of_ble_eq_true rfl⟩, kc_X11_cooledByFridge.2.1, kc_X11_cooledByFridge.2.2.1, kc_X11_cooledByFridge.2.2.2, rfl⟩, hN, kt_X11_cooledByFridge⟩
theorem kv_X11_init_15 {G : xG} (hN : ∀ s : State, G.2.2.1 (x_A G) s s.heap → va_Nw (.methodLinkNest RX11 15 yX5_init "PastryBench") s) : x_LIN G MX11_init 15 MX5_init 0 "PastryBench" := ⟨⟨kc_X5_init.1, ⟨Nat.le_of_ble_eq_true rfl, Nat.le_of_ble_eq_true rfl⟩, kc_X5_init.2.1, kc_X5_init.2.2.1, kc_X5_init.2.2.2, rfl⟩, hN, kt_X5_init, rfl, rfl⟩
theorem kv_X11_init_22 {G : xG} (hN : ∀ s : State, G.2.2.1 (x_A G) s s.heap → va_Nw (.methodLinkNest RX11 22 yX7_init "PastryBench") s) : x_LIN G MX11_init 22 MX7_init 0 "PastryBench" := ⟨⟨kc_X7_init.1, ⟨Nat.le_of_ble_eq_true rfl, Nat.le_of_ble_eq_true rfl⟩, kc_X7_init.2.1, kc_X7_init.2.2.1, kc_X7_init.2.2.2, rfl⟩, hN, kt_X7_init, rfl, rfl⟩
theorem kv_X11_init_27 : x_LS MX11_init 27 MX1_first 0 := ⟨⟨kc_X1_first.1, ⟨Nat.le_of_ble_eq_true rfl, Nat.le_of_ble_eq_true rfl⟩, kc_X1_first.2.1, kc_X1_first.2.2.1, kc_X1_first.2.2.2, rfl⟩, km_X11_27, kt_X1_first⟩
theorem kv_X11_init_37 : x_LI MX11_init 37 MX1_init 0 := ⟨⟨kc_X1_init.1, ⟨Nat.le_of_ble_eq_true rfl, Nat.le_of_ble_eq_true rfl⟩, kc_X1_init.2.1, kc_X1_init.2.2.1, kc_X1_init.2.2.2, rfl⟩, km_X11_37, kt_X1_init, rfl, rfl⟩
theorem kv_X11_init_46 : x_LI MX11_init 46 MX3_init 0 := ⟨⟨kc_X3_init.1, ⟨Nat.le_of_ble_eq_true rfl, Nat.le_of_ble_eq_true rfl⟩, kc_X3_init.2.1, kc_X3_init.2.2.1, kc_X3_init.2.2.2, rfl⟩, km_X11_46, kt_X3_init, rfl, rfl⟩
theorem kv_X11_init_53 {G : xG} (hN : ∀ s : State, G.2.2.1 (x_A G) s s.heap → va_Nw (.methodLinkNest RX11 53 yX4_init "PastryBench") s) : x_LIN G MX11_init 53 MX4_init 0 "PastryBench" := ⟨⟨kc_X4_init.1, ⟨Nat.le_of_ble_eq_true rfl, Nat.le_of_ble_eq_true rfl⟩, kc_X4_init.2.1, kc_X4_init.2.2.1, kc_X4_init.2.2.2, rfl⟩, hN, kt_X4_init, rfl, rfl⟩
theorem kv_X11_appendText_62 : x_LV MX11_appendText 62 MX11_appendWord 1 := ⟨⟨kc_X11_appendWord.1, ⟨Nat.le_of_ble_eq_true rfl, Nat.le_of_ble_eq_true rfl⟩, kc_X11_appendWord.2.1, kc_X11_appendWord.2.2.1, kc_X11_appendWord.2.2.2, rfl⟩, km_X11_62, kt_X11_appendWord, ke_X11_appendWord⟩
theorem kv_X11_loadBench_66 : x_LV MX11_loadBench 66 MX11_requireLength 1 := ⟨⟨kc_X11_requireLength.1, ⟨Nat.le_of_ble_eq_true rfl, Nat.le_of_ble_eq_true rfl⟩, kc_X11_requireLength.2.1, kc_X11_requireLength.2.2.1, kc_X11_requireLength.2.2.2, rfl⟩, km_X11_66, kt_X11_requireLength, ke_X11_requireLength⟩
theorem kv_X11_loadBench_69 : x_LV MX11_loadBench 69 MX5_readBench 3 := ⟨⟨kc_X5_readBench.1, ⟨Nat.le_of_ble_eq_true rfl, Nat.le_of_ble_eq_true rfl⟩, kc_X5_readBench.2.1, kc_X5_readBench.2.2.1, kc_X5_readBench.2.2.2, rfl⟩, km_X11_69, kt_X5_readBench, ke_X5_readBench⟩
theorem kv_X11_loadBench_73 : x_LV MX11_loadBench 73 MX1_copyFrom 1 := ⟨⟨kc_X1_copyFrom.1, ⟨Nat.le_of_ble_eq_true rfl, Nat.le_of_ble_eq_true rfl⟩, kc_X1_copyFrom.2.1, kc_X1_copyFrom.2.2.1, kc_X1_copyFrom.2.2.2, rfl⟩, km_X11_73, kt_X1_copyFrom, ke_X1_copyFrom⟩
theorem kv_X11_loadBench_77 : x_LV MX11_loadBench 77 MX3_forget 0 := ⟨⟨kc_X3_forget.1, ⟨Nat.le_of_ble_eq_true rfl, Nat.le_of_ble_eq_true rfl⟩, kc_X3_forget.2.1, kc_X3_forget.2.2.1, kc_X3_forget.2.2.2, rfl⟩, km_X11_77, kt_X3_forget, ke_X3_forget⟩
theorem kv_X11_warmestSheet_111 : x_LV MX11_warmestSheet 111 MX1_findWarmest 0 := ⟨⟨kc_X1_findWarmest.1, ⟨Nat.le_of_ble_eq_true rfl, Nat.le_of_ble_eq_true rfl⟩, kc_X1_findWarmest.2.1, kc_X1_findWarmest.2.2.1, kc_X1_findWarmest.2.2.2, rfl⟩, km_X11_111, kt_X1_findWarmest, ke_X1_findWarmest⟩
theorem kv_X11_finestSheet_115 : x_LV MX11_finestSheet 115 MX1_findFinest 0 := ⟨⟨kc_X1_findFinest.1, ⟨Nat.le_of_ble_eq_true rfl, Nat.le_of_ble_eq_true rfl⟩, kc_X1_findFinest.2.1, kc_X1_findFinest.2.2.1, kc_X1_findFinest.2.2.2, rfl⟩, km_X11_115, kt_X1_findFinest, ke_X1_findFinest⟩
theorem kv_X11_sheetAt_326 : x_LV MX11_sheetAt 326 MX1_hasSheet 1 := ⟨⟨kc_X1_hasSheet.1, ⟨Nat.le_of_ble_eq_true rfl, Nat.le_of_ble_eq_true rfl⟩, kc_X1_hasSheet.2.1, kc_X1_hasSheet.2.2.1, kc_X1_hasSheet.2.2.2, rfl⟩, km_X11_326, kt_X1_hasSheet, ke_X1_hasSheet⟩
theorem kv_X11_layerCount_118 : x_LV MX11_layerCount 118 MX11_sheetAt 1 := ⟨⟨kc_X11_sheetAt.1, ⟨Nat.le_of_ble_eq_true rfl, Nat.le_of_ble_eq_true rfl⟩, kc_X11_sheetAt.2.1, kc_X11_sheetAt.2.2.1, kc_X11_sheetAt.2.2.2, rfl⟩, km_X11_118, kt_X11_sheetAt, ke_X11_sheetAt⟩
theorem kv_X11_butterLayerCount_118 : x_LV MX11_butterLayerCount 118 MX11_sheetAt 1 := ⟨⟨kc_X11_sheetAt.1, ⟨Nat.le_of_ble_eq_true rfl, Nat.le_of_ble_eq_true rfl⟩, kc_X11_sheetAt.2.1, kc_X11_sheetAt.2.2.1, kc_X11_sheetAt.2.2.2, rfl⟩, km_X11_118, kt_X11_sheetAt, ke_X11_sheetAt⟩
theorem kv_X11_butterLayerCount_127 : x_LV MX11_butterLayerCount 127 MX8_countButterLayers 0 := ⟨⟨kc_X8_countButterLayers.1, ⟨Nat.le_of_ble_eq_true rfl, Nat.le_of_ble_eq_true rfl⟩, kc_X8_countButterLayers.2.1, kc_X8_countButterLayers.2.2.1, kc_X8_countButterLayers.2.2.2, rfl⟩, km_X11_127, kt_X8_countButterLayers, ke_X8_countButterLayers⟩
theorem kv_X11_isButter_118 : x_LV MX11_isButter 118 MX11_sheetAt 1 := ⟨⟨kc_X11_sheetAt.1, ⟨Nat.le_of_ble_eq_true rfl, Nat.le_of_ble_eq_true rfl⟩, kc_X11_sheetAt.2.1, kc_X11_sheetAt.2.2.1, kc_X11_sheetAt.2.2.2, rfl⟩, km_X11_118, kt_X11_sheetAt, ke_X11_sheetAt⟩
theorem kv_X11_isButter_130 : x_LS MX11_isButter 130 MX11_requireLayer 2 := ⟨⟨kc_X11_requireLayer.1, ⟨Nat.le_of_ble_eq_true rfl, Nat.le_of_ble_eq_true rfl⟩, kc_X11_requireLayer.2.1, kc_X11_requireLayer.2.2.1, kc_X11_requireLayer.2.2.2, rfl⟩, km_X11_130, kt_X11_requireLayer⟩
theorem kv_X11_thickness_118 : x_LV MX11_thickness 118 MX11_sheetAt 1 := ⟨⟨kc_X11_sheetAt.1, ⟨Nat.le_of_ble_eq_true rfl, Nat.le_of_ble_eq_true rfl⟩, kc_X11_sheetAt.2.1, kc_X11_sheetAt.2.2.1, kc_X11_sheetAt.2.2.2, rfl⟩, km_X11_118, kt_X11_sheetAt, ke_X11_sheetAt⟩
theorem kv_X11_thickness_130 : x_LS MX11_thickness 130 MX11_requireLayer 2 := ⟨⟨kc_X11_requireLayer.1, ⟨Nat.le_of_ble_eq_true rfl, Nat.le_of_ble_eq_true rfl⟩, kc_X11_requireLayer.2.1, kc_X11_requireLayer.2.2.1, kc_X11_requireLayer.2.2.2, rfl⟩, km_X11_130, kt_X11_requireLayer⟩
theorem kv_X11_height_118 : x_LV MX11_height 118 MX11_sheetAt 1 := ⟨⟨kc_X11_sheetAt.1, ⟨Nat.le_of_ble_eq_true rfl, Nat.le_of_ble_eq_true rfl⟩, kc_X11_sheetAt.2.1, kc_X11_sheetAt.2.2.1, kc_X11_sheetAt.2.2.2, rfl⟩, km_X11_118, kt_X11_sheetAt, ke_X11_sheetAt⟩
theorem kv_X11_height_141 : x_LV MX11_height 141 MX8_totalHeight 0 := ⟨⟨kc_X8_totalHeight.1, ⟨Nat.le_of_ble_eq_true rfl, Nat.le_of_ble_eq_true rfl⟩, kc_X8_totalHeight.2.1, kc_X8_totalHeight.2.2.1, kc_X8_totalHeight.2.2.2, rfl⟩, km_X11_141, kt_X8_totalHeight, ke_X8_totalHeight⟩
theorem kv_X11_butterHeight_118 : x_LV MX11_butterHeight 118 MX11_sheetAt 1 := ⟨⟨kc_X11_sheetAt.1, ⟨Nat.le_of_ble_eq_true rfl, Nat.le_of_ble_eq_true rfl⟩, kc_X11_sheetAt.2.1, kc_X11_sheetAt.2.2.1, kc_X11_sheetAt.2.2.2, rfl⟩, km_X11_118, kt_X11_sheetAt, ke_X11_sheetAt⟩
theorem kv_X11_butterHeight_144 : x_LV MX11_butterHeight 144 MX8_totalButter 0 := ⟨⟨kc_X8_totalButter.1, ⟨Nat.le_of_ble_eq_true rfl, Nat.le_of_ble_eq_true rfl⟩, kc_X8_totalButter.2.1, kc_X8_totalButter.2.2.1, kc_X8_totalButter.2.2.2, rfl⟩, km_X11_144, kt_X8_totalButter, ke_X8_totalButter⟩
theorem kv_X11_thinnestLayer_118 : x_LV MX11_thinnestLayer 118 MX11_sheetAt 1 := ⟨⟨kc_X11_sheetAt.1, ⟨Nat.le_of_ble_eq_true rfl, Nat.le_of_ble_eq_true rfl⟩, kc_X11_sheetAt.2.1, kc_X11_sheetAt.2.2.1, kc_X11_sheetAt.2.2.2, rfl⟩, km_X11_118, kt_X11_sheetAt, ke_X11_sheetAt⟩
theorem kv_X11_thinnestLayer_147 : x_LV MX11_thinnestLayer 147 MX8_findThinnest 0 := ⟨⟨kc_X8_findThinnest.1, ⟨Nat.le_of_ble_eq_true rfl, Nat.le_of_ble_eq_true rfl⟩, kc_X8_findThinnest.2.1, kc_X8_findThinnest.2.2.1, kc_X8_findThinnest.2.2.2, rfl⟩, km_X11_147, kt_X8_findThinnest, ke_X8_findThinnest⟩
theorem kv_X11_thickestLayer_118 : x_LV MX11_thickestLayer 118 MX11_sheetAt 1 := ⟨⟨kc_X11_sheetAt.1, ⟨Nat.le_of_ble_eq_true rfl, Nat.le_of_ble_eq_true rfl⟩, kc_X11_sheetAt.2.1, kc_X11_sheetAt.2.2.1, kc_X11_sheetAt.2.2.2, rfl⟩, km_X11_118, kt_X11_sheetAt, ke_X11_sheetAt⟩
theorem kv_X11_thickestLayer_150 : x_LV MX11_thickestLayer 150 MX8_findThickest 0 := ⟨⟨kc_X8_findThickest.1, ⟨Nat.le_of_ble_eq_true rfl, Nat.le_of_ble_eq_true rfl⟩, kc_X8_findThickest.2.1, kc_X8_findThickest.2.2.1, kc_X8_findThickest.2.2.2, rfl⟩, km_X11_150, kt_X8_findThickest, ke_X8_findThickest⟩
theorem kv_X11_seamCount_118 : x_LV MX11_seamCount 118 MX11_sheetAt 1 := ⟨⟨kc_X11_sheetAt.1, ⟨Nat.le_of_ble_eq_true rfl, Nat.le_of_ble_eq_true rfl⟩, kc_X11_sheetAt.2.1, kc_X11_sheetAt.2.2.1, kc_X11_sheetAt.2.2.2, rfl⟩, km_X11_118, kt_X11_sheetAt, ke_X11_sheetAt⟩
theorem kv_X11_seamCount_153 : x_LV MX11_seamCount 153 MX8_countSeams 0 := ⟨⟨kc_X8_countSeams.1, ⟨Nat.le_of_ble_eq_true rfl, Nat.le_of_ble_eq_true rfl⟩, kc_X8_countSeams.2.1, kc_X8_countSeams.2.2.1, kc_X8_countSeams.2.2.2, rfl⟩, km_X11_153, kt_X8_countSeams, ke_X8_countSeams⟩
theorem kv_X11_isSymmetric_118 : x_LV MX11_isSymmetric 118 MX11_sheetAt 1 := ⟨⟨kc_X11_sheetAt.1, ⟨Nat.le_of_ble_eq_true rfl, Nat.le_of_ble_eq_true rfl⟩, kc_X11_sheetAt.2.1, kc_X11_sheetAt.2.2.1, kc_X11_sheetAt.2.2.2, rfl⟩, km_X11_118, kt_X11_sheetAt, ke_X11_sheetAt⟩
theorem kv_X11_isSymmetric_156 : x_LV MX11_isSymmetric 156 MX8_sameFromBothSides 0 := ⟨⟨kc_X8_sameFromBothSides.1, ⟨Nat.le_of_ble_eq_true rfl, Nat.le_of_ble_eq_true rfl⟩, kc_X8_sameFromBothSides.2.1, kc_X8_sameFromBothSides.2.2.1, kc_X8_sameFromBothSides.2.2.2, rfl⟩, km_X11_156, kt_X8_sameFromBothSides, ke_X8_sameFromBothSides⟩
theorem kv_X11_temperature_118 : x_LV MX11_temperature 118 MX11_sheetAt 1 := ⟨⟨kc_X11_sheetAt.1, ⟨Nat.le_of_ble_eq_true rfl, Nat.le_of_ble_eq_true rfl⟩, kc_X11_sheetAt.2.1, kc_X11_sheetAt.2.2.1, kc_X11_sheetAt.2.2.2, rfl⟩, km_X11_118, kt_X11_sheetAt, ke_X11_sheetAt⟩
theorem kv_X11_isDusted_118 : x_LV MX11_isDusted 118 MX11_sheetAt 1 := ⟨⟨kc_X11_sheetAt.1, ⟨Nat.le_of_ble_eq_true rfl, Nat.le_of_ble_eq_true rfl⟩, kc_X11_sheetAt.2.1, kc_X11_sheetAt.2.2.1, kc_X11_sheetAt.2.2.2, rfl⟩, km_X11_118, kt_X11_sheetAt, ke_X11_sheetAt⟩
theorem kv_X11_isSealed_118 : x_LV MX11_isSealed 118 MX11_sheetAt 1 := ⟨⟨kc_X11_sheetAt.1, ⟨Nat.le_of_ble_eq_true rfl, Nat.le_of_ble_eq_true rfl⟩, kc_X11_sheetAt.2.1, kc_X11_sheetAt.2.2.1, kc_X11_sheetAt.2.2.2, rfl⟩, km_X11_118, kt_X11_sheetAt, ke_X11_sheetAt⟩
theorem kv_X11_isCooling_118 : x_LV MX11_isCooling 118 MX11_sheetAt 1 := ⟨⟨kc_X11_sheetAt.1, ⟨Nat.le_of_ble_eq_true rfl, Nat.le_of_ble_eq_true rfl⟩, kc_X11_sheetAt.2.1, kc_X11_sheetAt.2.2.1, kc_X11_sheetAt.2.2.2, rfl⟩, km_X11_118, kt_X11_sheetAt, ke_X11_sheetAt⟩
theorem kv_X11_foldCount_118 : x_LV MX11_foldCount 118 MX11_sheetAt 1 := ⟨⟨kc_X11_sheetAt.1, ⟨Nat.le_of_ble_eq_true rfl, Nat.le_of_ble_eq_true rfl⟩, kc_X11_sheetAt.2.1, kc_X11_sheetAt.2.2.1, kc_X11_sheetAt.2.2.2, rfl⟩, km_X11_118, kt_X11_sheetAt, ke_X11_sheetAt⟩
theorem kv_X11_expectedLayers_118 : x_LV MX11_expectedLayers 118 MX11_sheetAt 1 := ⟨⟨kc_X11_sheetAt.1, ⟨Nat.le_of_ble_eq_true rfl, Nat.le_of_ble_eq_true rfl⟩, kc_X11_sheetAt.2.1, kc_X11_sheetAt.2.2.1, kc_X11_sheetAt.2.2.2, rfl⟩, km_X11_118, kt_X11_sheetAt, ke_X11_sheetAt⟩
theorem kv_X11_butterShare_118 : x_LV MX11_butterShare 118 MX11_sheetAt 1 := ⟨⟨kc_X11_sheetAt.1, ⟨Nat.le_of_ble_eq_true rfl, Nat.le_of_ble_eq_true rfl⟩, kc_X11_sheetAt.2.1, kc_X11_sheetAt.2.2.1, kc_X11_sheetAt.2.2.2, rfl⟩, km_X11_118, kt_X11_sheetAt, ke_X11_sheetAt⟩
theorem kv_X11_butterShare_141 : x_LV MX11_butterShare 141 MX8_totalHeight 0 := ⟨⟨kc_X8_totalHeight.1, ⟨Nat.le_of_ble_eq_true rfl, Nat.le_of_ble_eq_true rfl⟩, kc_X8_totalHeight.2.1, kc_X8_totalHeight.2.2.1, kc_X8_totalHeight.2.2.2, rfl⟩, km_X11_141, kt_X8_totalHeight, ke_X8_totalHeight⟩
theorem kv_X11_butterShare_144 : x_LV MX11_butterShare 144 MX8_totalButter 0 := ⟨⟨kc_X8_totalButter.1, ⟨Nat.le_of_ble_eq_true rfl, Nat.le_of_ble_eq_true rfl⟩, kc_X8_totalButter.2.1, kc_X8_totalButter.2.2.1, kc_X8_totalButter.2.2.2, rfl⟩, km_X11_144, kt_X8_totalButter, ke_X8_totalButter⟩
theorem kv_X11_requireFactor_338 : x_LS MX11_requireFactor 338 MX11_isFactor 1 := ⟨⟨kc_X11_isFactor.1, ⟨Nat.le_of_ble_eq_true rfl, Nat.le_of_ble_eq_true rfl⟩, kc_X11_isFactor.2.1, kc_X11_isFactor.2.2.1, kc_X11_isFactor.2.2.2, rfl⟩, km_X11_338, kt_X11_isFactor⟩
theorem kv_X11_foldObstacle_118 : x_LV MX11_foldObstacle 118 MX11_sheetAt 1 := ⟨⟨kc_X11_sheetAt.1, ⟨Nat.le_of_ble_eq_true rfl, Nat.le_of_ble_eq_true rfl⟩, kc_X11_sheetAt.2.1, kc_X11_sheetAt.2.2.1, kc_X11_sheetAt.2.2.2, rfl⟩, km_X11_118, kt_X11_sheetAt, ke_X11_sheetAt⟩
theorem kv_X11_foldObstacle_178 : x_LS MX11_foldObstacle 178 MX11_requireFactor 1 := ⟨⟨kc_X11_requireFactor.1, ⟨Nat.le_of_ble_eq_true rfl, Nat.le_of_ble_eq_true rfl⟩, kc_X11_requireFactor.2.1, kc_X11_requireFactor.2.2.1, kc_X11_requireFactor.2.2.2, rfl⟩, km_X11_178, kt_X11_requireFactor⟩
theorem kv_X11_foldObstacle_181 : x_LV MX11_foldObstacle 181 MX8_findFoldObstacle 1 := ⟨⟨kc_X8_findFoldObstacle.1, ⟨Nat.le_of_ble_eq_true rfl, Nat.le_of_ble_eq_true rfl⟩, kc_X8_findFoldObstacle.2.1, kc_X8_findFoldObstacle.2.2.1, kc_X8_findFoldObstacle.2.2.2, rfl⟩, km_X11_181, kt_X8_findFoldObstacle, ke_X8_findFoldObstacle⟩
theorem kv_X11_layersAfterFold_118 : x_LV MX11_layersAfterFold 118 MX11_sheetAt 1 := ⟨⟨kc_X11_sheetAt.1, ⟨Nat.le_of_ble_eq_true rfl, Nat.le_of_ble_eq_true rfl⟩, kc_X11_sheetAt.2.1, kc_X11_sheetAt.2.2.1, kc_X11_sheetAt.2.2.2, rfl⟩, km_X11_118, kt_X11_sheetAt, ke_X11_sheetAt⟩
theorem kv_X11_layersAfterFold_178 : x_LS MX11_layersAfterFold 178 MX11_requireFactor 1 := ⟨⟨kc_X11_requireFactor.1, ⟨Nat.le_of_ble_eq_true rfl, Nat.le_of_ble_eq_true rfl⟩, kc_X11_requireFactor.2.1, kc_X11_requireFactor.2.2.1, kc_X11_requireFactor.2.2.2, rfl⟩, km_X11_178, kt_X11_requireFactor⟩
theorem kv_X11_layersAfterFold_181 : x_LV MX11_layersAfterFold 181 MX8_findFoldObstacle 1 := ⟨⟨kc_X8_findFoldObstacle.1, ⟨Nat.le_of_ble_eq_true rfl, Nat.le_of_ble_eq_true rfl⟩, kc_X8_findFoldObstacle.2.1, kc_X8_findFoldObstacle.2.2.1, kc_X8_findFoldObstacle.2.2.2, rfl⟩, km_X11_181, kt_X8_findFoldObstacle, ke_X8_findFoldObstacle⟩
theorem kv_X11_layersAfterFold_185 : x_LS MX11_layersAfterFold 185 MX11_layersFolded 3 := ⟨⟨kc_X11_layersFolded.1, ⟨Nat.le_of_ble_eq_true rfl, Nat.le_of_ble_eq_true rfl⟩, kc_X11_layersFolded.2.1, kc_X11_layersFolded.2.2.1, kc_X11_layersFolded.2.2.2, rfl⟩, km_X11_185, kt_X11_layersFolded⟩
theorem kv_X11_foldsPossible_118 : x_LV MX11_foldsPossible 118 MX11_sheetAt 1 := ⟨⟨kc_X11_sheetAt.1, ⟨Nat.le_of_ble_eq_true rfl, Nat.le_of_ble_eq_true rfl⟩, kc_X11_sheetAt.2.1, kc_X11_sheetAt.2.2.1, kc_X11_sheetAt.2.2.2, rfl⟩, km_X11_118, kt_X11_sheetAt, ke_X11_sheetAt⟩
theorem kv_X11_foldsPossible_178 : x_LS MX11_foldsPossible 178 MX11_requireFactor 1 := ⟨⟨kc_X11_requireFactor.1, ⟨Nat.le_of_ble_eq_true rfl, Nat.le_of_ble_eq_true rfl⟩, kc_X11_requireFactor.2.1, kc_X11_requireFactor.2.2.1, kc_X11_requireFactor.2.2.2, rfl⟩, km_X11_178, kt_X11_requireFactor⟩
theorem kv_X11_foldsPossible_189 : x_LV MX11_foldsPossible 189 MX8_countPossibleFolds 1 := ⟨⟨kc_X8_countPossibleFolds.1, ⟨Nat.le_of_ble_eq_true rfl, Nat.le_of_ble_eq_true rfl⟩, kc_X8_countPossibleFolds.2.1, kc_X8_countPossibleFolds.2.2.1, kc_X8_countPossibleFolds.2.2.2, rfl⟩, km_X11_189, kt_X8_countPossibleFolds, ke_X8_countPossibleFolds⟩
theorem kv_X11_butterAtRisk_118 : x_LV MX11_butterAtRisk 118 MX11_sheetAt 1 := ⟨⟨kc_X11_sheetAt.1, ⟨Nat.le_of_ble_eq_true rfl, Nat.le_of_ble_eq_true rfl⟩, kc_X11_sheetAt.2.1, kc_X11_sheetAt.2.2.1, kc_X11_sheetAt.2.2.2, rfl⟩, km_X11_118, kt_X11_sheetAt, ke_X11_sheetAt⟩
theorem kv_X11_butterAtRisk_192 : x_LV MX11_butterAtRisk 192 MX8_sumEscaping 1 := ⟨⟨kc_X8_sumEscaping.1, ⟨Nat.le_of_ble_eq_true rfl, Nat.le_of_ble_eq_true rfl⟩, kc_X8_sumEscaping.2.1, kc_X8_sumEscaping.2.2.1, kc_X8_sumEscaping.2.2.2, rfl⟩, km_X11_192, kt_X8_sumEscaping, ke_X8_sumEscaping⟩
theorem kv_X11_layersAtRisk_118 : x_LV MX11_layersAtRisk 118 MX11_sheetAt 1 := ⟨⟨kc_X11_sheetAt.1, ⟨Nat.le_of_ble_eq_true rfl, Nat.le_of_ble_eq_true rfl⟩, kc_X11_sheetAt.2.1, kc_X11_sheetAt.2.2.1, kc_X11_sheetAt.2.2.2, rfl⟩, km_X11_118, kt_X11_sheetAt, ke_X11_sheetAt⟩
theorem kv_X11_layersAtRisk_178 : x_LS MX11_layersAtRisk 178 MX11_requireFactor 1 := ⟨⟨kc_X11_requireFactor.1, ⟨Nat.le_of_ble_eq_true rfl, Nat.le_of_ble_eq_true rfl⟩, kc_X11_requireFactor.2.1, kc_X11_requireFactor.2.2.1, kc_X11_requireFactor.2.2.2, rfl⟩, km_X11_178, kt_X11_requireFactor⟩
theorem kv_X11_layersAtRisk_195 : x_LV MX11_layersAtRisk 195 MX8_countBreaking 2 := ⟨⟨kc_X8_countBreaking.1, ⟨Nat.le_of_ble_eq_true rfl, Nat.le_of_ble_eq_true rfl⟩, kc_X8_countBreaking.2.1, kc_X8_countBreaking.2.2.1, kc_X8_countBreaking.2.2.2, rfl⟩, km_X11_195, kt_X8_countBreaking, ke_X8_countBreaking⟩
theorem kv_X11_heightAfterRoll_118 : x_LV MX11_heightAfterRoll 118 MX11_sheetAt 1 := ⟨⟨kc_X11_sheetAt.1, ⟨Nat.le_of_ble_eq_true rfl, Nat.le_of_ble_eq_true rfl⟩, kc_X11_sheetAt.2.1, kc_X11_sheetAt.2.2.1, kc_X11_sheetAt.2.2.2, rfl⟩, km_X11_118, kt_X11_sheetAt, ke_X11_sheetAt⟩
theorem kv_X11_heightAfterRoll_178 : x_LS MX11_heightAfterRoll 178 MX11_requireFactor 1 := ⟨⟨kc_X11_requireFactor.1, ⟨Nat.le_of_ble_eq_true rfl, Nat.le_of_ble_eq_true rfl⟩, kc_X11_requireFactor.2.1, kc_X11_requireFactor.2.2.1, kc_X11_requireFactor.2.2.2, rfl⟩, km_X11_178, kt_X11_requireFactor⟩
theorem kv_X11_heightAfterRoll_199 : x_LV MX11_heightAfterRoll 199 MX8_sumRolled 2 := ⟨⟨kc_X8_sumRolled.1, ⟨Nat.le_of_ble_eq_true rfl, Nat.le_of_ble_eq_true rfl⟩, kc_X8_sumRolled.2.1, kc_X8_sumRolled.2.2.1, kc_X8_sumRolled.2.2.2, rfl⟩, km_X11_199, kt_X8_sumRolled, ke_X8_sumRolled⟩
theorem kv_X11_temperatureAfter_118 : x_LV MX11_temperatureAfter 118 MX11_sheetAt 1 := ⟨⟨kc_X11_sheetAt.1, ⟨Nat.le_of_ble_eq_true rfl, Nat.le_of_ble_eq_true rfl⟩, kc_X11_sheetAt.2.1, kc_X11_sheetAt.2.2.1, kc_X11_sheetAt.2.2.2, rfl⟩, km_X11_118, kt_X11_sheetAt, ke_X11_sheetAt⟩
theorem kv_X11_temperatureAfter_209 : x_LV MX11_temperatureAfter 209 MX8_warmthAfter 2 := ⟨⟨kc_X8_warmthAfter.1, ⟨Nat.le_of_ble_eq_true rfl, Nat.le_of_ble_eq_true rfl⟩, kc_X8_warmthAfter.2.1, kc_X8_warmthAfter.2.2.1, kc_X8_warmthAfter.2.2.2, rfl⟩, km_X11_209, kt_X8_warmthAfter, ke_X8_warmthAfter⟩
theorem kv_X11_hoursToSafety_118 : x_LV MX11_hoursToSafety 118 MX11_sheetAt 1 := ⟨⟨kc_X11_sheetAt.1, ⟨Nat.le_of_ble_eq_true rfl, Nat.le_of_ble_eq_true rfl⟩, kc_X11_sheetAt.2.1, kc_X11_sheetAt.2.2.1, kc_X11_sheetAt.2.2.2, rfl⟩, km_X11_118, kt_X11_sheetAt, ke_X11_sheetAt⟩
theorem kv_X11_hoursToSafety_212 : x_LV MX11_hoursToSafety 212 MX8_countHoursToSafety 1 := ⟨⟨kc_X8_countHoursToSafety.1, ⟨Nat.le_of_ble_eq_true rfl, Nat.le_of_ble_eq_true rfl⟩, kc_X8_countHoursToSafety.2.1, kc_X8_countHoursToSafety.2.2.1, kc_X8_countHoursToSafety.2.2.2, rfl⟩, km_X11_212, kt_X8_countHoursToSafety, ke_X8_countHoursToSafety⟩
theorem kv_X11_fold_215 : x_LV MX11_fold 215 MX1_refusalOfFold 2 := ⟨⟨kc_X1_refusalOfFold.1, ⟨Nat.le_of_ble_eq_true rfl, Nat.le_of_ble_eq_true rfl⟩, kc_X1_refusalOfFold.2.1, kc_X1_refusalOfFold.2.2.1, kc_X1_refusalOfFold.2.2.2, rfl⟩, km_X11_215, kt_X1_refusalOfFold, ke_X1_refusalOfFold⟩
theorem kv_X11_fold_219 : x_LS MX11_fold 219 MX11_throwIfRefused 1 := ⟨⟨kc_X11_throwIfRefused.1, ⟨Nat.le_of_ble_eq_true rfl, Nat.le_of_ble_eq_true rfl⟩, kc_X11_throwIfRefused.2.1, kc_X11_throwIfRefused.2.2.1, kc_X11_throwIfRefused.2.2.2, rfl⟩, km_X11_219, kt_X11_throwIfRefused⟩
theorem kv_X11_fold_223 : x_LV MX11_fold 223 MX3_remember 1 := ⟨⟨kc_X3_remember.1, ⟨Nat.le_of_ble_eq_true rfl, Nat.le_of_ble_eq_true rfl⟩, kc_X3_remember.2.1, kc_X3_remember.2.2.1, kc_X3_remember.2.2.2, rfl⟩, km_X11_223, kt_X3_remember, ke_X3_remember⟩
theorem kv_X11_fold_226 : x_LV MX11_fold 226 MX1_applyFold 2 := ⟨⟨kc_X1_applyFold.1, ⟨Nat.le_of_ble_eq_true rfl, Nat.le_of_ble_eq_true rfl⟩, kc_X1_applyFold.2.1, kc_X1_applyFold.2.2.1, kc_X1_applyFold.2.2.2, rfl⟩, km_X11_226, kt_X1_applyFold, ke_X1_applyFold⟩
theorem kv_X11_roll_229 : x_LV MX11_roll 229 MX1_refusalOfRoll 2 := ⟨⟨kc_X1_refusalOfRoll.1, ⟨Nat.le_of_ble_eq_true rfl, Nat.le_of_ble_eq_true rfl⟩, kc_X1_refusalOfRoll.2.1, kc_X1_refusalOfRoll.2.2.1, kc_X1_refusalOfRoll.2.2.2, rfl⟩, km_X11_229, kt_X1_refusalOfRoll, ke_X1_refusalOfRoll⟩
theorem kv_X11_roll_219 : x_LS MX11_roll 219 MX11_throwIfRefused 1 := ⟨⟨kc_X11_throwIfRefused.1, ⟨Nat.le_of_ble_eq_true rfl, Nat.le_of_ble_eq_true rfl⟩, kc_X11_throwIfRefused.2.1, kc_X11_throwIfRefused.2.2.1, kc_X11_throwIfRefused.2.2.2, rfl⟩, km_X11_219, kt_X11_throwIfRefused⟩
theorem kv_X11_roll_223 : x_LV MX11_roll 223 MX3_remember 1 := ⟨⟨kc_X3_remember.1, ⟨Nat.le_of_ble_eq_true rfl, Nat.le_of_ble_eq_true rfl⟩, kc_X3_remember.2.1, kc_X3_remember.2.2.1, kc_X3_remember.2.2.2, rfl⟩, km_X11_223, kt_X3_remember, ke_X3_remember⟩
theorem kv_X11_roll_232 : x_LV MX11_roll 232 MX1_applyRoll 2 := ⟨⟨kc_X1_applyRoll.1, ⟨Nat.le_of_ble_eq_true rfl, Nat.le_of_ble_eq_true rfl⟩, kc_X1_applyRoll.2.1, kc_X1_applyRoll.2.2.1, kc_X1_applyRoll.2.2.2, rfl⟩, km_X11_232, kt_X1_applyRoll, ke_X1_applyRoll⟩
theorem kv_X11_dust_235 : x_LV MX11_dust 235 MX1_refusalOfDust 1 := ⟨⟨kc_X1_refusalOfDust.1, ⟨Nat.le_of_ble_eq_true rfl, Nat.le_of_ble_eq_true rfl⟩, kc_X1_refusalOfDust.2.1, kc_X1_refusalOfDust.2.2.1, kc_X1_refusalOfDust.2.2.2, rfl⟩, km_X11_235, kt_X1_refusalOfDust, ke_X1_refusalOfDust⟩
theorem kv_X11_dust_219 : x_LS MX11_dust 219 MX11_throwIfRefused 1 := ⟨⟨kc_X11_throwIfRefused.1, ⟨Nat.le_of_ble_eq_true rfl, Nat.le_of_ble_eq_true rfl⟩, kc_X11_throwIfRefused.2.1, kc_X11_throwIfRefused.2.2.1, kc_X11_throwIfRefused.2.2.2, rfl⟩, km_X11_219, kt_X11_throwIfRefused⟩
theorem kv_X11_dust_223 : x_LV MX11_dust 223 MX3_remember 1 := ⟨⟨kc_X3_remember.1, ⟨Nat.le_of_ble_eq_true rfl, Nat.le_of_ble_eq_true rfl⟩, kc_X3_remember.2.1, kc_X3_remember.2.2.1, kc_X3_remember.2.2.2, rfl⟩, km_X11_223, kt_X3_remember, ke_X3_remember⟩
theorem kv_X11_dust_239 : x_LV MX11_dust 239 MX1_applyDust 1 := ⟨⟨kc_X1_applyDust.1, ⟨Nat.le_of_ble_eq_true rfl, Nat.le_of_ble_eq_true rfl⟩, kc_X1_applyDust.2.1, kc_X1_applyDust.2.2.1, kc_X1_applyDust.2.2.2, rfl⟩, km_X11_239, kt_X1_applyDust, ke_X1_applyDust⟩
theorem kv_X11_seal_242 : x_LV MX11_seal 242 MX1_refusalOfSeal 1 := ⟨⟨kc_X1_refusalOfSeal.1, ⟨Nat.le_of_ble_eq_true rfl, Nat.le_of_ble_eq_true rfl⟩, kc_X1_refusalOfSeal.2.1, kc_X1_refusalOfSeal.2.2.1, kc_X1_refusalOfSeal.2.2.2, rfl⟩, km_X11_242, kt_X1_refusalOfSeal, ke_X1_refusalOfSeal⟩
theorem kv_X11_seal_219 : x_LS MX11_seal 219 MX11_throwIfRefused 1 := ⟨⟨kc_X11_throwIfRefused.1, ⟨Nat.le_of_ble_eq_true rfl, Nat.le_of_ble_eq_true rfl⟩, kc_X11_throwIfRefused.2.1, kc_X11_throwIfRefused.2.2.1, kc_X11_throwIfRefused.2.2.2, rfl⟩, km_X11_219, kt_X11_throwIfRefused⟩
theorem kv_X11_seal_223 : x_LV MX11_seal 223 MX3_remember 1 := ⟨⟨kc_X3_remember.1, ⟨Nat.le_of_ble_eq_true rfl, Nat.le_of_ble_eq_true rfl⟩, kc_X3_remember.2.1, kc_X3_remember.2.2.1, kc_X3_remember.2.2.2, rfl⟩, km_X11_223, kt_X3_remember, ke_X3_remember⟩
theorem kv_X11_seal_245 : x_LV MX11_seal 245 MX1_applySeal 1 := ⟨⟨kc_X1_applySeal.1, ⟨Nat.le_of_ble_eq_true rfl, Nat.le_of_ble_eq_true rfl⟩, kc_X1_applySeal.2.1, kc_X1_applySeal.2.2.1, kc_X1_applySeal.2.2.2, rfl⟩, km_X11_245, kt_X1_applySeal, ke_X1_applySeal⟩
theorem kv_X11_cool_248 : x_LV MX11_cool 248 MX1_refusalOfCool 1 := ⟨⟨kc_X1_refusalOfCool.1, ⟨Nat.le_of_ble_eq_true rfl, Nat.le_of_ble_eq_true rfl⟩, kc_X1_refusalOfCool.2.1, kc_X1_refusalOfCool.2.2.1, kc_X1_refusalOfCool.2.2.2, rfl⟩, km_X11_248, kt_X1_refusalOfCool, ke_X1_refusalOfCool⟩
theorem kv_X11_cool_219 : x_LS MX11_cool 219 MX11_throwIfRefused 1 := ⟨⟨kc_X11_throwIfRefused.1, ⟨Nat.le_of_ble_eq_true rfl, Nat.le_of_ble_eq_true rfl⟩, kc_X11_throwIfRefused.2.1, kc_X11_throwIfRefused.2.2.1, kc_X11_throwIfRefused.2.2.2, rfl⟩, km_X11_219, kt_X11_throwIfRefused⟩
theorem kv_X11_cool_223 : x_LV MX11_cool 223 MX3_remember 1 := ⟨⟨kc_X3_remember.1, ⟨Nat.le_of_ble_eq_true rfl, Nat.le_of_ble_eq_true rfl⟩, kc_X3_remember.2.1, kc_X3_remember.2.2.1, kc_X3_remember.2.2.2, rfl⟩, km_X11_223, kt_X3_remember, ke_X3_remember⟩
theorem kv_X11_cool_251 : x_LV MX11_cool 251 MX1_applyCool 1 := ⟨⟨kc_X1_applyCool.1, ⟨Nat.le_of_ble_eq_true rfl, Nat.le_of_ble_eq_true rfl⟩, kc_X1_applyCool.2.1, kc_X1_applyCool.2.2.1, kc_X1_applyCool.2.2.2, rfl⟩, km_X11_251, kt_X1_applyCool, ke_X1_applyCool⟩
theorem kv_X11_takeOut_254 : x_LV MX11_takeOut 254 MX1_refusalOfTakeOut 1 := ⟨⟨kc_X1_refusalOfTakeOut.1, ⟨Nat.le_of_ble_eq_true rfl, Nat.le_of_ble_eq_true rfl⟩, kc_X1_refusalOfTakeOut.2.1, kc_X1_refusalOfTakeOut.2.2.1, kc_X1_refusalOfTakeOut.2.2.2, rfl⟩, km_X11_254, kt_X1_refusalOfTakeOut, ke_X1_refusalOfTakeOut⟩
theorem kv_X11_takeOut_219 : x_LS MX11_takeOut 219 MX11_throwIfRefused 1 := ⟨⟨kc_X11_throwIfRefused.1, ⟨Nat.le_of_ble_eq_true rfl, Nat.le_of_ble_eq_true rfl⟩, kc_X11_throwIfRefused.2.1, kc_X11_throwIfRefused.2.2.1, kc_X11_throwIfRefused.2.2.2, rfl⟩, km_X11_219, kt_X11_throwIfRefused⟩
theorem kv_X11_takeOut_223 : x_LV MX11_takeOut 223 MX3_remember 1 := ⟨⟨kc_X3_remember.1, ⟨Nat.le_of_ble_eq_true rfl, Nat.le_of_ble_eq_true rfl⟩, kc_X3_remember.2.1, kc_X3_remember.2.2.1, kc_X3_remember.2.2.2, rfl⟩, km_X11_223, kt_X3_remember, ke_X3_remember⟩
theorem kv_X11_takeOut_257 : x_LV MX11_takeOut 257 MX1_applyTakeOut 1 := ⟨⟨kc_X1_applyTakeOut.1, ⟨Nat.le_of_ble_eq_true rfl, Nat.le_of_ble_eq_true rfl⟩, kc_X1_applyTakeOut.2.1, kc_X1_applyTakeOut.2.2.1, kc_X1_applyTakeOut.2.2.2, rfl⟩, km_X11_257, kt_X1_applyTakeOut, ke_X1_applyTakeOut⟩
theorem kv_X11_passHours_260 : x_LV MX11_passHours 260 MX1_refusalOfHours 1 := ⟨⟨kc_X1_refusalOfHours.1, ⟨Nat.le_of_ble_eq_true rfl, Nat.le_of_ble_eq_true rfl⟩, kc_X1_refusalOfHours.2.1, kc_X1_refusalOfHours.2.2.1, kc_X1_refusalOfHours.2.2.2, rfl⟩, km_X11_260, kt_X1_refusalOfHours, ke_X1_refusalOfHours⟩
theorem kv_X11_passHours_219 : x_LS MX11_passHours 219 MX11_throwIfRefused 1 := ⟨⟨kc_X11_throwIfRefused.1, ⟨Nat.le_of_ble_eq_true rfl, Nat.le_of_ble_eq_true rfl⟩, kc_X11_throwIfRefused.2.1, kc_X11_throwIfRefused.2.2.1, kc_X11_throwIfRefused.2.2.2, rfl⟩, km_X11_219, kt_X11_throwIfRefused⟩
theorem kv_X11_passHours_223 : x_LV MX11_passHours 223 MX3_remember 1 := ⟨⟨kc_X3_remember.1, ⟨Nat.le_of_ble_eq_true rfl, Nat.le_of_ble_eq_true rfl⟩, kc_X3_remember.2.1, kc_X3_remember.2.2.1, kc_X3_remember.2.2.2, rfl⟩, km_X11_223, kt_X3_remember, ke_X3_remember⟩
theorem kv_X11_passHours_263 : x_LV MX11_passHours 263 MX1_applyHours 1 := ⟨⟨kc_X1_applyHours.1, ⟨Nat.le_of_ble_eq_true rfl, Nat.le_of_ble_eq_true rfl⟩, kc_X1_applyHours.2.1, kc_X1_applyHours.2.2.1, kc_X1_applyHours.2.2.2, rfl⟩, km_X11_263, kt_X1_applyHours, ke_X1_applyHours⟩
theorem kv_X11_cut_266 : x_LV MX11_cut 266 MX1_refusalOfCut 1 := ⟨⟨kc_X1_refusalOfCut.1, ⟨Nat.le_of_ble_eq_true rfl, Nat.le_of_ble_eq_true rfl⟩, kc_X1_refusalOfCut.2.1, kc_X1_refusalOfCut.2.2.1, kc_X1_refusalOfCut.2.2.2, rfl⟩, km_X11_266, kt_X1_refusalOfCut, ke_X1_refusalOfCut⟩
theorem kv_X11_cut_219 : x_LS MX11_cut 219 MX11_throwIfRefused 1 := ⟨⟨kc_X11_throwIfRefused.1, ⟨Nat.le_of_ble_eq_true rfl, Nat.le_of_ble_eq_true rfl⟩, kc_X11_throwIfRefused.2.1, kc_X11_throwIfRefused.2.2.1, kc_X11_throwIfRefused.2.2.2, rfl⟩, km_X11_219, kt_X11_throwIfRefused⟩
theorem kv_X11_cut_223 : x_LV MX11_cut 223 MX3_remember 1 := ⟨⟨kc_X3_remember.1, ⟨Nat.le_of_ble_eq_true rfl, Nat.le_of_ble_eq_true rfl⟩, kc_X3_remember.2.1, kc_X3_remember.2.2.1, kc_X3_remember.2.2.2, rfl⟩, km_X11_223, kt_X3_remember, ke_X3_remember⟩
theorem kv_X11_cut_269 : x_LV MX11_cut 269 MX1_applyCut 1 := ⟨⟨kc_X1_applyCut.1, ⟨Nat.le_of_ble_eq_true rfl, Nat.le_of_ble_eq_true rfl⟩, kc_X1_applyCut.2.1, kc_X1_applyCut.2.2.1, kc_X1_applyCut.2.2.2, rfl⟩, km_X11_269, kt_X1_applyCut, ke_X1_applyCut⟩
theorem kv_X11_stack_272 : x_LV MX11_stack 272 MX1_refusalOfStack 2 := ⟨⟨kc_X1_refusalOfStack.1, ⟨Nat.le_of_ble_eq_true rfl, Nat.le_of_ble_eq_true rfl⟩, kc_X1_refusalOfStack.2.1, kc_X1_refusalOfStack.2.2.1, kc_X1_refusalOfStack.2.2.2, rfl⟩, km_X11_272, kt_X1_refusalOfStack, ke_X1_refusalOfStack⟩
theorem kv_X11_stack_219 : x_LS MX11_stack 219 MX11_throwIfRefused 1 := ⟨⟨kc_X11_throwIfRefused.1, ⟨Nat.le_of_ble_eq_true rfl, Nat.le_of_ble_eq_true rfl⟩, kc_X11_throwIfRefused.2.1, kc_X11_throwIfRefused.2.2.1, kc_X11_throwIfRefused.2.2.2, rfl⟩, km_X11_219, kt_X11_throwIfRefused⟩
theorem kv_X11_stack_223 : x_LV MX11_stack 223 MX3_remember 1 := ⟨⟨kc_X3_remember.1, ⟨Nat.le_of_ble_eq_true rfl, Nat.le_of_ble_eq_true rfl⟩, kc_X3_remember.2.1, kc_X3_remember.2.2.1, kc_X3_remember.2.2.2, rfl⟩, km_X11_223, kt_X3_remember, ke_X3_remember⟩
theorem kv_X11_stack_275 : x_LV MX11_stack 275 MX1_applyStack 2 := ⟨⟨kc_X1_applyStack.1, ⟨Nat.le_of_ble_eq_true rfl, Nat.le_of_ble_eq_true rfl⟩, kc_X1_applyStack.2.1, kc_X1_applyStack.2.2.1, kc_X1_applyStack.2.2.2, rfl⟩, km_X11_275, kt_X1_applyStack, ke_X1_applyStack⟩
theorem kv_X11_addButter_278 : x_LV MX11_addButter 278 MX1_refusalOfButter 2 := ⟨⟨kc_X1_refusalOfButter.1, ⟨Nat.le_of_ble_eq_true rfl, Nat.le_of_ble_eq_true rfl⟩, kc_X1_refusalOfButter.2.1, kc_X1_refusalOfButter.2.2.1, kc_X1_refusalOfButter.2.2.2, rfl⟩, km_X11_278, kt_X1_refusalOfButter, ke_X1_refusalOfButter⟩
theorem kv_X11_addButter_219 : x_LS MX11_addButter 219 MX11_throwIfRefused 1 := ⟨⟨kc_X11_throwIfRefused.1, ⟨Nat.le_of_ble_eq_true rfl, Nat.le_of_ble_eq_true rfl⟩, kc_X11_throwIfRefused.2.1, kc_X11_throwIfRefused.2.2.1, kc_X11_throwIfRefused.2.2.2, rfl⟩, km_X11_219, kt_X11_throwIfRefused⟩
theorem kv_X11_addButter_223 : x_LV MX11_addButter 223 MX3_remember 1 := ⟨⟨kc_X3_remember.1, ⟨Nat.le_of_ble_eq_true rfl, Nat.le_of_ble_eq_true rfl⟩, kc_X3_remember.2.1, kc_X3_remember.2.2.1, kc_X3_remember.2.2.2, rfl⟩, km_X11_223, kt_X3_remember, ke_X3_remember⟩
theorem kv_X11_addButter_281 : x_LV MX11_addButter 281 MX1_applyButter 2 := ⟨⟨kc_X1_applyButter.1, ⟨Nat.le_of_ble_eq_true rfl, Nat.le_of_ble_eq_true rfl⟩, kc_X1_applyButter.2.1, kc_X1_applyButter.2.2.1, kc_X1_applyButter.2.2.2, rfl⟩, km_X11_281, kt_X1_applyButter, ke_X1_applyButter⟩
theorem kv_X11_buyFlour_284 : x_LV MX11_buyFlour 284 MX1_refusalOfFlour 1 := ⟨⟨kc_X1_refusalOfFlour.1, ⟨Nat.le_of_ble_eq_true rfl, Nat.le_of_ble_eq_true rfl⟩, kc_X1_refusalOfFlour.2.1, kc_X1_refusalOfFlour.2.2.1, kc_X1_refusalOfFlour.2.2.2, rfl⟩, km_X11_284, kt_X1_refusalOfFlour, ke_X1_refusalOfFlour⟩
theorem kv_X11_buyFlour_219 : x_LS MX11_buyFlour 219 MX11_throwIfRefused 1 := ⟨⟨kc_X11_throwIfRefused.1, ⟨Nat.le_of_ble_eq_true rfl, Nat.le_of_ble_eq_true rfl⟩, kc_X11_throwIfRefused.2.1, kc_X11_throwIfRefused.2.2.1, kc_X11_throwIfRefused.2.2.2, rfl⟩, km_X11_219, kt_X11_throwIfRefused⟩
theorem kv_X11_buyFlour_223 : x_LV MX11_buyFlour 223 MX3_remember 1 := ⟨⟨kc_X3_remember.1, ⟨Nat.le_of_ble_eq_true rfl, Nat.le_of_ble_eq_true rfl⟩, kc_X3_remember.2.1, kc_X3_remember.2.2.1, kc_X3_remember.2.2.2, rfl⟩, km_X11_223, kt_X3_remember, ke_X3_remember⟩
theorem kv_X11_buyFlour_287 : x_LV MX11_buyFlour 287 MX1_applyFlour 1 := ⟨⟨kc_X1_applyFlour.1, ⟨Nat.le_of_ble_eq_true rfl, Nat.le_of_ble_eq_true rfl⟩, kc_X1_applyFlour.2.1, kc_X1_applyFlour.2.2.1, kc_X1_applyFlour.2.2.2, rfl⟩, km_X11_287, kt_X1_applyFlour, ke_X1_applyFlour⟩
theorem kv_X11_undo_319 : x_LV MX11_undo 319 MX3_takeBack 1 := ⟨⟨kc_X3_takeBack.1, ⟨Nat.le_of_ble_eq_true rfl, Nat.le_of_ble_eq_true rfl⟩, kc_X3_takeBack.2.1, kc_X3_takeBack.2.2.1, kc_X3_takeBack.2.2.2, rfl⟩, km_X11_319, kt_X3_takeBack, ke_X3_takeBack⟩
theorem kv_X11_saveSnapshot_73 : x_LV MX11_saveSnapshot 73 MX1_copyFrom 1 := ⟨⟨kc_X1_copyFrom.1, ⟨Nat.le_of_ble_eq_true rfl, Nat.le_of_ble_eq_true rfl⟩, kc_X1_copyFrom.2.1, kc_X1_copyFrom.2.2.1, kc_X1_copyFrom.2.2.2, rfl⟩, km_X11_73, kt_X1_copyFrom, ke_X1_copyFrom⟩
theorem kv_X11_restoreSnapshot_73 : x_LV MX11_restoreSnapshot 73 MX1_copyFrom 1 := ⟨⟨kc_X1_copyFrom.1, ⟨Nat.le_of_ble_eq_true rfl, Nat.le_of_ble_eq_true rfl⟩, kc_X1_copyFrom.2.1, kc_X1_copyFrom.2.2.1, kc_X1_copyFrom.2.2.2, rfl⟩, km_X11_73, kt_X1_copyFrom, ke_X1_copyFrom⟩
theorem kv_X11_restoreSnapshot_77 : x_LV MX11_restoreSnapshot 77 MX3_forget 0 := ⟨⟨kc_X3_forget.1, ⟨Nat.le_of_ble_eq_true rfl, Nat.le_of_ble_eq_true rfl⟩, kc_X3_forget.2.1, kc_X3_forget.2.2.1, kc_X3_forget.2.2.2, rfl⟩, km_X11_77, kt_X3_forget, ke_X3_forget⟩
theorem kv_J2_newBytesFor_77867_11 : x_LS MJ2_newBytesFor_77867 11 MJ2_newBytesLength_0f7a4 1 := ⟨⟨kc_J2_newBytesLength_0f7a4.1, ⟨Nat.le_of_ble_eq_true rfl, Nat.le_of_ble_eq_true rfl⟩, kc_J2_newBytesLength_0f7a4.2.1, kc_J2_newBytesLength_0f7a4.2.2.1, kc_J2_newBytesLength_0f7a4.2.2.2, rfl⟩, km_J2_11, kt_J2_newBytesLength_0f7a4⟩
theorem kv_J8_newLength_cabcc_194 (n : Nat) (hn : n ≤ 8) : x_MX MJ8_newLength_cabcc 194 n := ⟨km_J8_194, ks_max.1, ks_max.2.1, ks_max.2.2, Nat.le_of_ble_eq_true rfl, Nat.le_trans (Nat.add_le_add_right hn _) (by decide +kernel)⟩
theorem kv_J8_newLength_cabcc_201 : x_LS MJ8_newLength_cabcc 201 MJ8_hugeLength_7cf53 2 := ⟨⟨kc_J8_hugeLength_7cf53.1, ⟨Nat.le_of_ble_eq_true rfl, Nat.le_of_ble_eq_true rfl⟩, kc_J8_hugeLength_7cf53.2.1, kc_J8_hugeLength_7cf53.2.2.1, kc_J8_hugeLength_7cf53.2.2.2, rfl⟩, km_J8_201, kt_J8_hugeLength_7cf53⟩
theorem kv_J5_newCapacity_0f7a4_114 : x_LS MJ5_newCapacity_0f7a4 114 MJ8_newLength_cabcc 3 := ⟨⟨kc_J8_newLength_cabcc.1, ⟨Nat.le_of_ble_eq_true rfl, Nat.le_of_ble_eq_true rfl⟩, kc_J8_newLength_cabcc.2.1, kc_J8_newLength_cabcc.2.2.1, kc_J8_newLength_cabcc.2.2.2, rfl⟩, km_J5_114, kt_J8_newLength_cabcc⟩
theorem kv_J7_copyOf_9075b_304 (n : Nat) (hn : n ≤ 8) : x_MN MJ7_copyOf_9075b 304 n := ⟨km_J7_304, ks_min.1, ks_min.2.1, ks_min.2.2, Nat.le_of_ble_eq_true rfl, Nat.le_trans (Nat.add_le_add_right hn _) (by decide +kernel)⟩
theorem kv_J7_copyOf_9075b_150 (n : Nat) (hn : n ≤ 8) : x_CP MJ7_copyOf_9075b 150 n := ⟨km_J7_150, ks_copy.1, ks_copy.2.1, ks_copy.2.2, Nat.le_of_ble_eq_true rfl, Nat.le_trans (Nat.add_le_add_right hn _) (by decide +kernel)⟩
theorem kv_J5_ensureCapacityInternal_d00df_104 : x_LV MJ5_ensureCapacityInternal_d00df 104 MJ5_newCapacity_0f7a4 1 := ⟨⟨kc_J5_newCapacity_0f7a4.1, ⟨Nat.le_of_ble_eq_true rfl, Nat.le_of_ble_eq_true rfl⟩, kc_J5_newCapacity_0f7a4.2.1, kc_J5_newCapacity_0f7a4.2.2.1, kc_J5_newCapacity_0f7a4.2.2.2, rfl⟩, km_J5_104, kt_J5_newCapacity_0f7a4, ke_J5_newCapacity_0f7a4⟩
theorem kv_J5_ensureCapacityInternal_d00df_108 : x_LS MJ5_ensureCapacityInternal_d00df 108 MJ7_copyOf_9075b 2 := ⟨⟨kc_J7_copyOf_9075b.1, ⟨Nat.le_of_ble_eq_true rfl, Nat.le_of_ble_eq_true rfl⟩, kc_J7_copyOf_9075b.2.1, kc_J7_copyOf_9075b.2.2.1, kc_J7_copyOf_9075b.2.2.2, rfl⟩, km_J5_108, kt_J7_copyOf_9075b⟩
theorem kv_J0_checkBoundsBeginEnd_23922_1062 : x_LS MJ0_checkBoundsBeginEnd_23922 1062 MJ3_checkFromToIndex_8c36e 4 := ⟨⟨kc_J3_checkFromToIndex_8c36e.1, ⟨Nat.le_of_ble_eq_true rfl, Nat.le_of_ble_eq_true rfl⟩, kc_J3_checkFromToIndex_8c36e.2.1, kc_J3_checkFromToIndex_8c36e.2.2.1, kc_J3_checkFromToIndex_8c36e.2.2.2, rfl⟩, km_J0_1062, kt_J3_checkFromToIndex_8c36e⟩
theorem kv_J2_checkBoundsBeginEnd_d044e_48 : x_LS MJ2_checkBoundsBeginEnd_d044e 48 MJ2_length_9d52b 1 := ⟨⟨kc_J2_length_9d52b.1, ⟨Nat.le_of_ble_eq_true rfl, Nat.le_of_ble_eq_true rfl⟩, kc_J2_length_9d52b.2.1, kc_J2_length_9d52b.2.2.1, kc_J2_length_9d52b.2.2.2, rfl⟩, km_J2_48, kt_J2_length_9d52b⟩
theorem kv_J2_checkBoundsBeginEnd_d044e_241 : x_LS MJ2_checkBoundsBeginEnd_d044e 241 MJ0_checkBoundsBeginEnd_23922 3 := ⟨⟨kc_J0_checkBoundsBeginEnd_23922.1, ⟨Nat.le_of_ble_eq_true rfl, Nat.le_of_ble_eq_true rfl⟩, kc_J0_checkBoundsBeginEnd_23922.2.1, kc_J0_checkBoundsBeginEnd_23922.2.2.1, kc_J0_checkBoundsBeginEnd_23922.2.2.2, rfl⟩, km_J2_241, kt_J0_checkBoundsBeginEnd_23922⟩
theorem kv_J2_putChar_b72d1_48 : x_LS MJ2_putChar_b72d1 48 MJ2_length_9d52b 1 := ⟨⟨kc_J2_length_9d52b.1, ⟨Nat.le_of_ble_eq_true rfl, Nat.le_of_ble_eq_true rfl⟩, kc_J2_length_9d52b.2.1, kc_J2_length_9d52b.2.2.1, kc_J2_length_9d52b.2.2.2, rfl⟩, km_J2_48, kt_J2_length_9d52b⟩
theorem kv_J2_putCharsAt_cd4e5_96 : x_LS MJ2_putCharsAt_cd4e5 96 MJ2_checkBoundsBeginEnd_d044e 3 := ⟨⟨kc_J2_checkBoundsBeginEnd_d044e.1, ⟨Nat.le_of_ble_eq_true rfl, Nat.le_of_ble_eq_true rfl⟩, kc_J2_checkBoundsBeginEnd_d044e.2.1, kc_J2_checkBoundsBeginEnd_d044e.2.2.1, kc_J2_checkBoundsBeginEnd_d044e.2.2.2, rfl⟩, km_J2_96, kt_J2_checkBoundsBeginEnd_d044e⟩
theorem kv_J2_putCharsAt_cd4e5_111 : x_LS MJ2_putCharsAt_cd4e5 111 MJ2_putChar_b72d1 3 := ⟨⟨kc_J2_putChar_b72d1.1, ⟨Nat.le_of_ble_eq_true rfl, Nat.le_of_ble_eq_true rfl⟩, kc_J2_putChar_b72d1.2.1, kc_J2_putChar_b72d1.2.2.1, kc_J2_putChar_b72d1.2.2.2, rfl⟩, km_J2_111, kt_J2_putChar_b72d1⟩
theorem kv_J5_appendNull_278bc_100 : x_LV MJ5_appendNull_278bc 100 MJ5_ensureCapacityInternal_d00df 1 := ⟨⟨kc_J5_ensureCapacityInternal_d00df.1, ⟨Nat.le_of_ble_eq_true rfl, Nat.le_of_ble_eq_true rfl⟩, kc_J5_ensureCapacityInternal_d00df.2.1, kc_J5_ensureCapacityInternal_d00df.2.2.1, kc_J5_ensureCapacityInternal_d00df.2.2.2, rfl⟩, km_J5_100, kt_J5_ensureCapacityInternal_d00df, ke_J5_ensureCapacityInternal_d00df⟩
theorem kv_J5_appendNull_278bc_83 : x_LV MJ5_appendNull_278bc 83 MJ5_isLatin1_aae02 0 := ⟨⟨kc_J5_isLatin1_aae02.1, ⟨Nat.le_of_ble_eq_true rfl, Nat.le_of_ble_eq_true rfl⟩, kc_J5_isLatin1_aae02.2.1, kc_J5_isLatin1_aae02.2.2.1, kc_J5_isLatin1_aae02.2.2.2, rfl⟩, km_J5_83, kt_J5_isLatin1_aae02, ke_J5_isLatin1_aae02⟩
theorem kv_J5_appendNull_278bc_226 : x_LS MJ5_appendNull_278bc 226 MJ2_putCharsAt_cd4e5 6 := ⟨⟨kc_J2_putCharsAt_cd4e5.1, ⟨Nat.le_of_ble_eq_true rfl, Nat.le_of_ble_eq_true rfl⟩, kc_J2_putCharsAt_cd4e5.2.1, kc_J2_putCharsAt_cd4e5.2.2.1, kc_J2_putCharsAt_cd4e5.2.2.2, rfl⟩, km_J5_226, kt_J2_putCharsAt_cd4e5⟩
theorem kv_J0_checkBoundsOffCount_cabcc_1065 : x_LS MJ0_checkBoundsOffCount_cabcc 1065 MJ3_checkFromIndexSize_8c36e 4 := ⟨⟨kc_J3_checkFromIndexSize_8c36e.1, ⟨Nat.le_of_ble_eq_true rfl, Nat.le_of_ble_eq_true rfl⟩, kc_J3_checkFromIndexSize_8c36e.2.1, kc_J3_checkFromIndexSize_8c36e.2.2.1, kc_J3_checkFromIndexSize_8c36e.2.2.2, rfl⟩, km_J0_1065, kt_J3_checkFromIndexSize_8c36e⟩
theorem kv_J2_checkBoundsOffCount_d044e_48 : x_LS MJ2_checkBoundsOffCount_d044e 48 MJ2_length_9d52b 1 := ⟨⟨kc_J2_length_9d52b.1, ⟨Nat.le_of_ble_eq_true rfl, Nat.le_of_ble_eq_true rfl⟩, kc_J2_length_9d52b.2.1, kc_J2_length_9d52b.2.2.1, kc_J2_length_9d52b.2.2.2, rfl⟩, km_J2_48, kt_J2_length_9d52b⟩
theorem kv_J2_checkBoundsOffCount_d044e_419 : x_LS MJ2_checkBoundsOffCount_d044e 419 MJ0_checkBoundsOffCount_cabcc 3 := ⟨⟨kc_J0_checkBoundsOffCount_cabcc.1, ⟨Nat.le_of_ble_eq_true rfl, Nat.le_of_ble_eq_true rfl⟩, kc_J0_checkBoundsOffCount_cabcc.2.1, kc_J0_checkBoundsOffCount_cabcc.2.2.1, kc_J0_checkBoundsOffCount_cabcc.2.2.2, rfl⟩, km_J2_419, kt_J0_checkBoundsOffCount_cabcc⟩
theorem kv_J2_inflate_0e8fd_173 : x_LS MJ2_inflate_0e8fd 173 MJ2_checkBoundsOffCount_d044e 3 := ⟨⟨kc_J2_checkBoundsOffCount_d044e.1, ⟨Nat.le_of_ble_eq_true rfl, Nat.le_of_ble_eq_true rfl⟩, kc_J2_checkBoundsOffCount_d044e.2.1, kc_J2_checkBoundsOffCount_d044e.2.2.1, kc_J2_checkBoundsOffCount_d044e.2.2.2, rfl⟩, km_J2_173, kt_J2_checkBoundsOffCount_d044e⟩
theorem kv_J2_inflate_0e8fd_111 : x_LS MJ2_inflate_0e8fd 111 MJ2_putChar_b72d1 3 := ⟨⟨kc_J2_putChar_b72d1.1, ⟨Nat.le_of_ble_eq_true rfl, Nat.le_of_ble_eq_true rfl⟩, kc_J2_putChar_b72d1.2.1, kc_J2_putChar_b72d1.2.2.1, kc_J2_putChar_b72d1.2.2.2, rfl⟩, km_J2_111, kt_J2_putChar_b72d1⟩
theorem kv_J1_inflate_0e8fd_240 : x_LS MJ1_inflate_0e8fd 240 MJ2_inflate_0e8fd 5 := ⟨⟨kc_J2_inflate_0e8fd.1, ⟨Nat.le_of_ble_eq_true rfl, Nat.le_of_ble_eq_true rfl⟩, kc_J2_inflate_0e8fd.2.1, kc_J2_inflate_0e8fd.2.2.1, kc_J2_inflate_0e8fd.2.2.2, rfl⟩, km_J1_240, kt_J2_inflate_0e8fd⟩
theorem kv_J5_inflate_da8c8_83 : x_LV MJ5_inflate_da8c8 83 MJ5_isLatin1_aae02 0 := ⟨⟨kc_J5_isLatin1_aae02.1, ⟨Nat.le_of_ble_eq_true rfl, Nat.le_of_ble_eq_true rfl⟩, kc_J5_isLatin1_aae02.2.1, kc_J5_isLatin1_aae02.2.2.1, kc_J5_isLatin1_aae02.2.2.2, rfl⟩, km_J5_83, kt_J5_isLatin1_aae02, ke_J5_isLatin1_aae02⟩
theorem kv_J5_inflate_da8c8_26 : x_LS MJ5_inflate_da8c8 26 MJ2_newBytesFor_77867 1 := ⟨⟨kc_J2_newBytesFor_77867.1, ⟨Nat.le_of_ble_eq_true rfl, Nat.le_of_ble_eq_true rfl⟩, kc_J2_newBytesFor_77867.2.1, kc_J2_newBytesFor_77867.2.2.1, kc_J2_newBytesFor_77867.2.2.2, rfl⟩, km_J5_26, kt_J2_newBytesFor_77867⟩
theorem kv_J5_inflate_da8c8_125 : x_LS MJ5_inflate_da8c8 125 MJ1_inflate_0e8fd 5 := ⟨⟨kc_J1_inflate_0e8fd.1, ⟨Nat.le_of_ble_eq_true rfl, Nat.le_of_ble_eq_true rfl⟩, kc_J1_inflate_0e8fd.2.1, kc_J1_inflate_0e8fd.2.2.1, kc_J1_inflate_0e8fd.2.2.2, rfl⟩, km_J5_125, kt_J1_inflate_0e8fd⟩
theorem kv_J5_inflateIfNeededFor_a7421_40 : x_LV MJ5_inflateIfNeededFor_a7421 40 MJ0_coder_7d493 0 := ⟨⟨kc_J0_coder_7d493.1, ⟨Nat.le_of_ble_eq_true rfl, Nat.le_of_ble_eq_true rfl⟩, kc_J0_coder_7d493.2.1, kc_J0_coder_7d493.2.2.1, kc_J0_coder_7d493.2.2.2, rfl⟩, km_J5_40, kt_J0_coder_7d493, ke_J0_coder_7d493⟩
theorem kv_J5_inflateIfNeededFor_a7421_195 : x_LV MJ5_inflateIfNeededFor_a7421 195 MJ5_inflate_da8c8 0 := ⟨⟨kc_J5_inflate_da8c8.1, ⟨Nat.le_of_ble_eq_true rfl, Nat.le_of_ble_eq_true rfl⟩, kc_J5_inflate_da8c8.2.1, kc_J5_inflate_da8c8.2.2.1, kc_J5_inflate_da8c8.2.2.2, rfl⟩, km_J5_195, kt_J5_inflate_da8c8, ke_J5_inflate_da8c8⟩
theorem kv_J0_getBytes_840e7_335 : x_LV MJ0_getBytes_840e7 335 MJ0_coder_7d493 0 := ⟨⟨kc_J0_coder_7d493.1, ⟨Nat.le_of_ble_eq_true rfl, Nat.le_of_ble_eq_true rfl⟩, kc_J0_coder_7d493.2.1, kc_J0_coder_7d493.2.2.1, kc_J0_coder_7d493.2.2.2, rfl⟩, km_J0_335, kt_J0_coder_7d493, ke_J0_coder_7d493⟩
theorem kv_J0_getBytes_840e7_212 (n : Nat) (hn : n ≤ 8) : x_CP MJ0_getBytes_840e7 212 n := ⟨km_J0_212, ks_copy.1, ks_copy.2.1, ks_copy.2.2, Nat.le_of_ble_eq_true rfl, Nat.le_trans (Nat.add_le_add_right hn _) (by decide +kernel)⟩
theorem kv_J0_getBytes_840e7_106 : x_LS MJ0_getBytes_840e7 106 MJ1_inflate_0e8fd 5 := ⟨⟨kc_J1_inflate_0e8fd.1, ⟨Nat.le_of_ble_eq_true rfl, Nat.le_of_ble_eq_true rfl⟩, kc_J1_inflate_0e8fd.2.1, kc_J1_inflate_0e8fd.2.2.1, kc_J1_inflate_0e8fd.2.2.2, rfl⟩, km_J0_106, kt_J1_inflate_0e8fd⟩
theorem kv_J5_putStringAt_47b60_397 : x_LV MJ5_putStringAt_47b60 397 MJ5_inflateIfNeededFor_a7421 1 := ⟨⟨kc_J5_inflateIfNeededFor_a7421.1, ⟨Nat.le_of_ble_eq_true rfl, Nat.le_of_ble_eq_true rfl⟩, kc_J5_inflateIfNeededFor_a7421.2.1, kc_J5_inflateIfNeededFor_a7421.2.2.1, kc_J5_inflateIfNeededFor_a7421.2.2.2, rfl⟩, km_J5_397, kt_J5_inflateIfNeededFor_a7421, ke_J5_inflateIfNeededFor_a7421⟩
theorem kv_J5_putStringAt_47b60_399 : x_LV MJ5_putStringAt_47b60 399 MJ0_getBytes_840e7 3 := ⟨⟨kc_J0_getBytes_840e7.1, ⟨Nat.le_of_ble_eq_true rfl, Nat.le_of_ble_eq_true rfl⟩, kc_J0_getBytes_840e7.2.1, kc_J0_getBytes_840e7.2.2.1, kc_J0_getBytes_840e7.2.2.2, rfl⟩, km_J5_399, kt_J0_getBytes_840e7, ke_J0_getBytes_840e7⟩
theorem kv_J5_append_cf1ce_204 : x_LV MJ5_append_cf1ce 204 MJ5_appendNull_278bc 0 := ⟨⟨kc_J5_appendNull_278bc.1, ⟨Nat.le_of_ble_eq_true rfl, Nat.le_of_ble_eq_true rfl⟩, kc_J5_appendNull_278bc.2.1, kc_J5_appendNull_278bc.2.2.1, kc_J5_appendNull_278bc.2.2.2, rfl⟩, km_J5_204, kt_J5_appendNull_278bc, ke_J5_appendNull_278bc⟩
theorem kv_J5_append_cf1ce_32 : x_LV MJ5_append_cf1ce 32 MJ0_length_8abf5 0 := ⟨⟨kc_J0_length_8abf5.1, ⟨Nat.le_of_ble_eq_true rfl, Nat.le_of_ble_eq_true rfl⟩, kc_J0_length_8abf5.2.1, kc_J0_length_8abf5.2.2.1, kc_J0_length_8abf5.2.2.2, rfl⟩, km_J5_32, kt_J0_length_8abf5, ke_J0_length_8abf5⟩
theorem kv_J5_append_cf1ce_100 : x_LV MJ5_append_cf1ce 100 MJ5_ensureCapacityInternal_d00df 1 := ⟨⟨kc_J5_ensureCapacityInternal_d00df.1, ⟨Nat.le_of_ble_eq_true rfl, Nat.le_of_ble_eq_true rfl⟩, kc_J5_ensureCapacityInternal_d00df.2.1, kc_J5_ensureCapacityInternal_d00df.2.2.1, kc_J5_ensureCapacityInternal_d00df.2.2.2, rfl⟩, km_J5_100, kt_J5_ensureCapacityInternal_d00df, ke_J5_ensureCapacityInternal_d00df⟩
theorem kv_J5_append_cf1ce_208 : x_LV MJ5_append_cf1ce 208 MJ5_putStringAt_47b60 2 := ⟨⟨kc_J5_putStringAt_47b60.1, ⟨Nat.le_of_ble_eq_true rfl, Nat.le_of_ble_eq_true rfl⟩, kc_J5_putStringAt_47b60.2.1, kc_J5_putStringAt_47b60.2.2.1, kc_J5_putStringAt_47b60.2.2.2, rfl⟩, km_J5_208, kt_J5_putStringAt_47b60, ke_J5_putStringAt_47b60⟩
-- special J4_append_15ec4 29 J5_append_cf1ce
theorem kv_J4_append_cf1ce_23 : x_LV MJ4_append_cf1ce 23 MJ4_append_15ec4 1 := ⟨⟨kc_J4_append_15ec4.1, ⟨Nat.le_of_ble_eq_true rfl, Nat.le_of_ble_eq_true rfl⟩, kc_J4_append_15ec4.2.1, kc_J4_append_15ec4.2.2.1, kc_J4_append_15ec4.2.2.2, rfl⟩, km_J4_23, kt_J4_append_15ec4, ke_J4_append_15ec4⟩
theorem kv_J5_init_a7421_32 : x_LV MJ5_init_a7421 32 MJ0_length_8abf5 0 := ⟨⟨kc_J0_length_8abf5.1, ⟨Nat.le_of_ble_eq_true rfl, Nat.le_of_ble_eq_true rfl⟩, kc_J0_length_8abf5.2.1, kc_J0_length_8abf5.2.2.1, kc_J0_length_8abf5.2.2.2, rfl⟩, km_J5_32, kt_J0_length_8abf5, ke_J0_length_8abf5⟩
theorem kv_J5_init_a7421_40 : x_LV MJ5_init_a7421 40 MJ0_coder_7d493 0 := ⟨⟨kc_J0_coder_7d493.1, ⟨Nat.le_of_ble_eq_true rfl, Nat.le_of_ble_eq_true rfl⟩, kc_J0_coder_7d493.2.1, kc_J0_coder_7d493.2.2.1, kc_J0_coder_7d493.2.2.2, rfl⟩, km_J5_40, kt_J0_coder_7d493, ke_J0_coder_7d493⟩
theorem kv_J5_init_a7421_26 : x_LS MJ5_init_a7421 26 MJ2_newBytesFor_77867 1 := ⟨⟨kc_J2_newBytesFor_77867.1, ⟨Nat.le_of_ble_eq_true rfl, Nat.le_of_ble_eq_true rfl⟩, kc_J2_newBytesFor_77867.2.1, kc_J2_newBytesFor_77867.2.2.1, kc_J2_newBytesFor_77867.2.2.2, rfl⟩, km_J5_26, kt_J2_newBytesFor_77867⟩
theorem kv_J5_init_a7421_43 : x_LV MJ5_init_a7421 43 MJ5_append_cf1ce 1 := ⟨⟨kc_J5_append_cf1ce.1, ⟨Nat.le_of_ble_eq_true rfl, Nat.le_of_ble_eq_true rfl⟩, kc_J5_append_cf1ce.2.1, kc_J5_append_cf1ce.2.2.1, kc_J5_append_cf1ce.2.2.2, rfl⟩, km_J5_43, kt_J5_append_cf1ce, ke_J5_append_cf1ce⟩
theorem kv_J2_putCharSB_b72d1_67 : x_LS MJ2_putCharSB_b72d1 67 MJ2_checkIndex_2214a 2 := ⟨⟨kc_J2_checkIndex_2214a.1, ⟨Nat.le_of_ble_eq_true rfl, Nat.le_of_ble_eq_true rfl⟩, kc_J2_checkIndex_2214a.2.1, kc_J2_checkIndex_2214a.2.2.1, kc_J2_checkIndex_2214a.2.2.2, rfl⟩, km_J2_67, kt_J2_checkIndex_2214a⟩
theorem kv_J2_putCharSB_b72d1_111 : x_LS MJ2_putCharSB_b72d1 111 MJ2_putChar_b72d1 3 := ⟨⟨kc_J2_putChar_b72d1.1, ⟨Nat.le_of_ble_eq_true rfl, Nat.le_of_ble_eq_true rfl⟩, kc_J2_putChar_b72d1.2.1, kc_J2_putChar_b72d1.2.2.1, kc_J2_putChar_b72d1.2.2.2, rfl⟩, km_J2_111, kt_J2_putChar_b72d1⟩
theorem kv_J5_append_3fe6f_100 : x_LV MJ5_append_3fe6f 100 MJ5_ensureCapacityInternal_d00df 1 := ⟨⟨kc_J5_ensureCapacityInternal_d00df.1, ⟨Nat.le_of_ble_eq_true rfl, Nat.le_of_ble_eq_true rfl⟩, kc_J5_ensureCapacityInternal_d00df.2.1, kc_J5_ensureCapacityInternal_d00df.2.2.1, kc_J5_ensureCapacityInternal_d00df.2.2.2, rfl⟩, km_J5_100, kt_J5_ensureCapacityInternal_d00df, ke_J5_ensureCapacityInternal_d00df⟩
theorem kv_J5_append_3fe6f_83 : x_LV MJ5_append_3fe6f 83 MJ5_isLatin1_aae02 0 := ⟨⟨kc_J5_isLatin1_aae02.1, ⟨Nat.le_of_ble_eq_true rfl, Nat.le_of_ble_eq_true rfl⟩, kc_J5_isLatin1_aae02.2.1, kc_J5_isLatin1_aae02.2.2.1, kc_J5_isLatin1_aae02.2.2.2, rfl⟩, km_J5_83, kt_J5_isLatin1_aae02, ke_J5_isLatin1_aae02⟩
theorem kv_J5_append_3fe6f_191 : x_LS MJ5_append_3fe6f 191 MJ1_canEncode_fc78d 1 := ⟨⟨kc_J1_canEncode_fc78d.1, ⟨Nat.le_of_ble_eq_true rfl, Nat.le_of_ble_eq_true rfl⟩, kc_J1_canEncode_fc78d.2.1, kc_J1_canEncode_fc78d.2.2.1, kc_J1_canEncode_fc78d.2.2.2, rfl⟩, km_J5_191, kt_J1_canEncode_fc78d⟩
theorem kv_J5_append_3fe6f_195 : x_LV MJ5_append_3fe6f 195 MJ5_inflate_da8c8 0 := ⟨⟨kc_J5_inflate_da8c8.1, ⟨Nat.le_of_ble_eq_true rfl, Nat.le_of_ble_eq_true rfl⟩, kc_J5_inflate_da8c8.2.1, kc_J5_inflate_da8c8.2.2.1, kc_J5_inflate_da8c8.2.2.2, rfl⟩, km_J5_195, kt_J5_inflate_da8c8, ke_J5_inflate_da8c8⟩
theorem kv_J5_append_3fe6f_197 : x_LS MJ5_append_3fe6f 197 MJ2_putCharSB_b72d1 3 := ⟨⟨kc_J2_putCharSB_b72d1.1, ⟨Nat.le_of_ble_eq_true rfl, Nat.le_of_ble_eq_true rfl⟩, kc_J2_putCharSB_b72d1.2.1, kc_J2_putCharSB_b72d1.2.2.1, kc_J2_putCharSB_b72d1.2.2.2, rfl⟩, km_J5_197, kt_J2_putCharSB_b72d1⟩
theorem kv_J2_getChars_ba4f3_111 : x_LS MJ2_getChars_ba4f3 111 MJ2_putChar_b72d1 3 := ⟨⟨kc_J2_putChar_b72d1.1, ⟨Nat.le_of_ble_eq_true rfl, Nat.le_of_ble_eq_true rfl⟩, kc_J2_putChar_b72d1.2.1, kc_J2_putChar_b72d1.2.2.1, kc_J2_putChar_b72d1.2.2.2, rfl⟩, km_J2_111, kt_J2_putChar_b72d1⟩
theorem kv_J2_getChars_46870_96 : x_LS MJ2_getChars_46870 96 MJ2_checkBoundsBeginEnd_d044e 3 := ⟨⟨kc_J2_checkBoundsBeginEnd_d044e.1, ⟨Nat.le_of_ble_eq_true rfl, Nat.le_of_ble_eq_true rfl⟩, kc_J2_checkBoundsBeginEnd_d044e.2.1, kc_J2_checkBoundsBeginEnd_d044e.2.2.1, kc_J2_checkBoundsBeginEnd_d044e.2.2.2, rfl⟩, km_J2_96, kt_J2_checkBoundsBeginEnd_d044e⟩
theorem kv_J2_getChars_46870_393 : x_LS MJ2_getChars_46870 393 MJ2_getChars_ba4f3 3 := ⟨⟨kc_J2_getChars_ba4f3.1, ⟨Nat.le_of_ble_eq_true rfl, Nat.le_of_ble_eq_true rfl⟩, kc_J2_getChars_ba4f3.2.1, kc_J2_getChars_ba4f3.2.2.1, kc_J2_getChars_ba4f3.2.2.2, rfl⟩, km_J2_393, kt_J2_getChars_ba4f3⟩
theorem kv_J5_append_c97b9_245 : x_LS MJ5_append_c97b9 245 MJ6_stringSize_0f7a4 1 := ⟨⟨kc_J6_stringSize_0f7a4.1, ⟨Nat.le_of_ble_eq_true rfl, Nat.le_of_ble_eq_true rfl⟩, kc_J6_stringSize_0f7a4.2.1, kc_J6_stringSize_0f7a4.2.2.1, kc_J6_stringSize_0f7a4.2.2.2, rfl⟩, km_J5_245, kt_J6_stringSize_0f7a4⟩
theorem kv_J5_append_c97b9_100 : x_LV MJ5_append_c97b9 100 MJ5_ensureCapacityInternal_d00df 1 := ⟨⟨kc_J5_ensureCapacityInternal_d00df.1, ⟨Nat.le_of_ble_eq_true rfl, Nat.le_of_ble_eq_true rfl⟩, kc_J5_ensureCapacityInternal_d00df.2.1, kc_J5_ensureCapacityInternal_d00df.2.2.1, kc_J5_ensureCapacityInternal_d00df.2.2.2, rfl⟩, km_J5_100, kt_J5_ensureCapacityInternal_d00df, ke_J5_ensureCapacityInternal_d00df⟩
theorem kv_J5_append_c97b9_83 : x_LV MJ5_append_c97b9 83 MJ5_isLatin1_aae02 0 := ⟨⟨kc_J5_isLatin1_aae02.1, ⟨Nat.le_of_ble_eq_true rfl, Nat.le_of_ble_eq_true rfl⟩, kc_J5_isLatin1_aae02.2.1, kc_J5_isLatin1_aae02.2.2.1, kc_J5_isLatin1_aae02.2.2.2, rfl⟩, km_J5_83, kt_J5_isLatin1_aae02, ke_J5_isLatin1_aae02⟩
theorem kv_J5_append_c97b9_248 : x_LS MJ5_append_c97b9 248 MJ6_getChars_ba4f3 3 := ⟨⟨kc_J6_getChars_ba4f3.1, ⟨Nat.le_of_ble_eq_true rfl, Nat.le_of_ble_eq_true rfl⟩, kc_J6_getChars_ba4f3.2.1, kc_J6_getChars_ba4f3.2.2.1, kc_J6_getChars_ba4f3.2.2.2, rfl⟩, km_J5_248, kt_J6_getChars_ba4f3⟩
theorem kv_J5_append_c97b9_251 : x_LS MJ5_append_c97b9 251 MJ2_getChars_46870 4 := ⟨⟨kc_J2_getChars_46870.1, ⟨Nat.le_of_ble_eq_true rfl, Nat.le_of_ble_eq_true rfl⟩, kc_J2_getChars_46870.2.1, kc_J2_getChars_46870.2.2.1, kc_J2_getChars_46870.2.2.2, rfl⟩, km_J5_251, kt_J2_getChars_46870⟩
-- special J4_length_8abf5 343 J5_length_8abf5
theorem kv_J7_copyOfRangeByte_39247_343 : x_LS MJ7_copyOfRangeByte_39247 343 MJ7_checkLength_df160 2 := ⟨⟨kc_J7_checkLength_df160.1, ⟨Nat.le_of_ble_eq_true rfl, Nat.le_of_ble_eq_true rfl⟩, kc_J7_checkLength_df160.2.1, kc_J7_checkLength_df160.2.2.1, kc_J7_checkLength_df160.2.2.2, rfl⟩, km_J7_343, kt_J7_checkLength_df160⟩
theorem kv_J7_copyOfRangeByte_39247_304 (n : Nat) (hn : n ≤ 8) : x_MN MJ7_copyOfRangeByte_39247 304 n := ⟨km_J7_304, ks_min.1, ks_min.2.1, ks_min.2.2, Nat.le_of_ble_eq_true rfl, Nat.le_trans (Nat.add_le_add_right hn _) (by decide +kernel)⟩
theorem kv_J7_copyOfRangeByte_39247_150 (n : Nat) (hn : n ≤ 8) : x_CP MJ7_copyOfRangeByte_39247 150 n := ⟨km_J7_150, ks_copy.1, ks_copy.2.1, ks_copy.2.2, Nat.le_of_ble_eq_true rfl, Nat.le_trans (Nat.add_le_add_right hn _) (by decide +kernel)⟩
theorem kv_J7_copyOfRange_39247_339 : x_LS MJ7_copyOfRange_39247 339 MJ7_copyOfRangeByte_39247 3 := ⟨⟨kc_J7_copyOfRangeByte_39247.1, ⟨Nat.le_of_ble_eq_true rfl, Nat.le_of_ble_eq_true rfl⟩, kc_J7_copyOfRangeByte_39247.2.1, kc_J7_copyOfRangeByte_39247.2.2.1, kc_J7_copyOfRangeByte_39247.2.2.2, rfl⟩, km_J7_339, kt_J7_copyOfRangeByte_39247⟩
theorem kv_J2_compress_5af95_173 : x_LS MJ2_compress_5af95 173 MJ2_checkBoundsOffCount_d044e 3 := ⟨⟨kc_J2_checkBoundsOffCount_d044e.1, ⟨Nat.le_of_ble_eq_true rfl, Nat.le_of_ble_eq_true rfl⟩, kc_J2_checkBoundsOffCount_d044e.2.1, kc_J2_checkBoundsOffCount_d044e.2.2.1, kc_J2_checkBoundsOffCount_d044e.2.2.2, rfl⟩, km_J2_173, kt_J2_checkBoundsOffCount_d044e⟩
theorem kv_J2_compress_5af95_71 : x_LS MJ2_compress_5af95 71 MJ2_getChar_3b067 2 := ⟨⟨kc_J2_getChar_3b067.1, ⟨Nat.le_of_ble_eq_true rfl, Nat.le_of_ble_eq_true rfl⟩, kc_J2_getChar_3b067.2.1, kc_J2_getChar_3b067.2.2.1, kc_J2_getChar_3b067.2.2.2, rfl⟩, km_J2_71, kt_J2_getChar_3b067⟩
theorem kv_J2_compress_39247_123 : x_LS MJ2_compress_39247 123 MJ2_compress_5af95 5 := ⟨⟨kc_J2_compress_5af95.1, ⟨Nat.le_of_ble_eq_true rfl, Nat.le_of_ble_eq_true rfl⟩, kc_J2_compress_5af95.2.1, kc_J2_compress_5af95.2.2.1, kc_J2_compress_5af95.2.2.2, rfl⟩, km_J2_123, kt_J2_compress_5af95⟩
theorem kv_J2_compress_39247_11 : x_LS MJ2_compress_39247 11 MJ2_newBytesLength_0f7a4 1 := ⟨⟨kc_J2_newBytesLength_0f7a4.1, ⟨Nat.le_of_ble_eq_true rfl, Nat.le_of_ble_eq_true rfl⟩, kc_J2_newBytesLength_0f7a4.2.1, kc_J2_newBytesLength_0f7a4.2.2.1, kc_J2_newBytesLength_0f7a4.2.2.2, rfl⟩, km_J2_11, kt_J2_newBytesLength_0f7a4⟩
theorem kv_J2_compress_39247_126 : x_LS MJ2_compress_39247 126 MJ7_copyOfRange_39247 3 := ⟨⟨kc_J7_copyOfRange_39247.1, ⟨Nat.le_of_ble_eq_true rfl, Nat.le_of_ble_eq_true rfl⟩, kc_J7_copyOfRange_39247.2.1, kc_J7_copyOfRange_39247.2.2.1, kc_J7_copyOfRange_39247.2.2.2, rfl⟩, km_J2_126, kt_J7_copyOfRange_39247⟩
theorem kv_J2_compress_39247_71 : x_LS MJ2_compress_39247 71 MJ2_getChar_3b067 2 := ⟨⟨kc_J2_getChar_3b067.1, ⟨Nat.le_of_ble_eq_true rfl, Nat.le_of_ble_eq_true rfl⟩, kc_J2_getChar_3b067.2.1, kc_J2_getChar_3b067.2.2.1, kc_J2_getChar_3b067.2.2.2, rfl⟩, km_J2_71, kt_J2_getChar_3b067⟩
theorem kv_J0_init_db425_552 : x_LV MJ0_init_db425 552 MJ5_getValue_6d5f1 0 := ⟨⟨kc_J5_getValue_6d5f1.1, ⟨Nat.le_of_ble_eq_true rfl, Nat.le_of_ble_eq_true rfl⟩, kc_J5_getValue_6d5f1.2.1, kc_J5_getValue_6d5f1.2.2.1, kc_J5_getValue_6d5f1.2.2.2, rfl⟩, km_J0_552, kt_J5_getValue_6d5f1, ke_J5_getValue_6d5f1⟩
theorem kv_J0_init_db425_549 : x_LV MJ0_init_db425 549 MJ5_length_8abf5 0 := ⟨⟨kc_J5_length_8abf5.1, ⟨Nat.le_of_ble_eq_true rfl, Nat.le_of_ble_eq_true rfl⟩, kc_J5_length_8abf5.2.1, kc_J5_length_8abf5.2.2.1, kc_J5_length_8abf5.2.2.2, rfl⟩, km_J0_549, kt_J5_length_8abf5, ke_J5_length_8abf5⟩
theorem kv_J0_init_db425_1047 : x_LV MJ0_init_db425 1047 MJ5_isLatin1_aae02 0 := ⟨⟨kc_J5_isLatin1_aae02.1, ⟨Nat.le_of_ble_eq_true rfl, Nat.le_of_ble_eq_true rfl⟩, kc_J5_isLatin1_aae02.2.1, kc_J5_isLatin1_aae02.2.2.1, kc_J5_isLatin1_aae02.2.2.2, rfl⟩, km_J0_1047, kt_J5_isLatin1_aae02, ke_J5_isLatin1_aae02⟩
theorem kv_J0_init_db425_54 : x_LS MJ0_init_db425 54 MJ7_copyOfRange_39247 3 := ⟨⟨kc_J7_copyOfRange_39247.1, ⟨Nat.le_of_ble_eq_true rfl, Nat.le_of_ble_eq_true rfl⟩, kc_J7_copyOfRange_39247.2.1, kc_J7_copyOfRange_39247.2.2.1, kc_J7_copyOfRange_39247.2.2.2, rfl⟩, km_J0_54, kt_J7_copyOfRange_39247⟩
theorem kv_J0_init_db425_1051 : x_LS MJ0_init_db425 1051 MJ2_compress_39247 3 := ⟨⟨kc_J2_compress_39247.1, ⟨Nat.le_of_ble_eq_true rfl, Nat.le_of_ble_eq_true rfl⟩, kc_J2_compress_39247.2.1, kc_J2_compress_39247.2.2.1, kc_J2_compress_39247.2.2.2, rfl⟩, km_J0_1051, kt_J2_compress_39247⟩
theorem kv_J0_init_db425_47 : x_LS MJ0_init_db425 47 MJ2_coderFromArrayLen_85cad 2 := ⟨⟨kc_J2_coderFromArrayLen_85cad.1, ⟨Nat.le_of_ble_eq_true rfl, Nat.le_of_ble_eq_true rfl⟩, kc_J2_coderFromArrayLen_85cad.2.1, kc_J2_coderFromArrayLen_85cad.2.2.1, kc_J2_coderFromArrayLen_85cad.2.2.2, rfl⟩, km_J0_47, kt_J2_coderFromArrayLen_85cad⟩
theorem kv_J0_init_81219_489 : x_LI MJ0_init_81219 489 MJ0_init_db425 2 := ⟨⟨kc_J0_init_db425.1, ⟨Nat.le_of_ble_eq_true rfl, Nat.le_of_ble_eq_true rfl⟩, kc_J0_init_db425.2.1, kc_J0_init_db425.2.2.1, kc_J0_init_db425.2.2.2, rfl⟩, km_J0_489, kt_J0_init_db425, rfl, rfl⟩
theorem kv_J4_init_a7421_7 : x_LI MJ4_init_a7421 7 MJ5_init_a7421 1 := ⟨⟨kc_J5_init_a7421.1, ⟨Nat.le_of_ble_eq_true rfl, Nat.le_of_ble_eq_true rfl⟩, kc_J5_init_a7421.2.1, kc_J5_init_a7421.2.2.1, kc_J5_init_a7421.2.2.2, rfl⟩, km_J4_7, kt_J5_init_a7421, rfl, rfl⟩
-- special J4_append_cf468 50 J5_append_3fe6f
-- special J4_append_bf812 53 J5_append_c97b9
theorem kv_J4_toString_0e30d_137 : x_LI MJ4_toString_0e30d 137 MJ0_init_81219 1 := ⟨⟨kc_J0_init_81219.1, ⟨Nat.le_of_ble_eq_true rfl, Nat.le_of_ble_eq_true rfl⟩, kc_J0_init_81219.2.1, kc_J0_init_81219.2.2.1, kc_J0_init_81219.2.2.2, rfl⟩, km_J4_137, kt_J0_init_81219, rfl, rfl⟩
theorem kv_L_add_8 : x_LV ML_add 8 MX11_appendText 5 := ⟨⟨kc_X11_appendText.1, ⟨Nat.le_of_ble_eq_true rfl, Nat.le_of_ble_eq_true rfl⟩, kc_X11_appendText.2.1, kc_X11_appendText.2.2.1, kc_X11_appendText.2.2.2, rfl⟩, km_L_8, kt_X11_appendText, ke_X11_appendText⟩
theorem kv_L_say_14 : x_LV ML_say 14 MJ0_length_8abf5 0 := ⟨⟨kc_J0_length_8abf5.1, ⟨Nat.le_of_ble_eq_true rfl, Nat.le_of_ble_eq_true rfl⟩, kc_J0_length_8abf5.2.1, kc_J0_length_8abf5.2.2.1, kc_J0_length_8abf5.2.2.2, rfl⟩, km_L_14, kt_J0_length_8abf5, ke_J0_length_8abf5⟩
theorem kv_L_say_20 : x_LV ML_say 20 MJ0_charAt_5068e 1 := ⟨⟨kc_J0_charAt_5068e.1, ⟨Nat.le_of_ble_eq_true rfl, Nat.le_of_ble_eq_true rfl⟩, kc_J0_charAt_5068e.2.1, kc_J0_charAt_5068e.2.2.1, kc_J0_charAt_5068e.2.2.2, rfl⟩, km_L_20, kt_J0_charAt_5068e, ke_J0_charAt_5068e⟩
theorem kv_L_say_24 : x_LS ML_say 24 ML_add 3 := ⟨⟨kc_L_add.1, ⟨Nat.le_of_ble_eq_true rfl, Nat.le_of_ble_eq_true rfl⟩, kc_L_add.2.1, kc_L_add.2.2.1, kc_L_add.2.2.2, rfl⟩, km_L_24, kt_L_add⟩
theorem kv_L_end_24 : x_LS ML_end 24 ML_add 3 := ⟨⟨kc_L_add.1, ⟨Nat.le_of_ble_eq_true rfl, Nat.le_of_ble_eq_true rfl⟩, kc_L_add.2.1, kc_L_add.2.2.1, kc_L_add.2.2.2, rfl⟩, km_L_24, kt_L_add⟩
theorem kv_L_all_30 : x_LV ML_all 30 MX11_sheetCount 0 := ⟨⟨kc_X11_sheetCount.1, ⟨Nat.le_of_ble_eq_true rfl, Nat.le_of_ble_eq_true rfl⟩, kc_X11_sheetCount.2.1, kc_X11_sheetCount.2.2.1, kc_X11_sheetCount.2.2.2, rfl⟩, km_L_30, kt_X11_sheetCount, ke_X11_sheetCount⟩
theorem kv_L_all_33 : x_LV ML_all 33 MX11_layerCount 1 := ⟨⟨kc_X11_layerCount.1, ⟨Nat.le_of_ble_eq_true rfl, Nat.le_of_ble_eq_true rfl⟩, kc_X11_layerCount.2.1, kc_X11_layerCount.2.2.1, kc_X11_layerCount.2.2.2, rfl⟩, km_L_33, kt_X11_layerCount, ke_X11_layerCount⟩
theorem kv_L_all_37 : x_LV ML_all 37 MX11_flour 0 := ⟨⟨kc_X11_flour.1, ⟨Nat.le_of_ble_eq_true rfl, Nat.le_of_ble_eq_true rfl⟩, kc_X11_flour.2.1, kc_X11_flour.2.2.1, kc_X11_flour.2.2.2, rfl⟩, km_L_37, kt_X11_flour, ke_X11_flour⟩
theorem kv_L_all_40 : x_LV ML_all 40 MX11_hoursPassed 0 := ⟨⟨kc_X11_hoursPassed.1, ⟨Nat.le_of_ble_eq_true rfl, Nat.le_of_ble_eq_true rfl⟩, kc_X11_hoursPassed.2.1, kc_X11_hoursPassed.2.2.1, kc_X11_hoursPassed.2.2.2, rfl⟩, km_L_40, kt_X11_hoursPassed, ke_X11_hoursPassed⟩
theorem kv_L_all_43 : x_LV ML_all 43 MX11_escapedButter 0 := ⟨⟨kc_X11_escapedButter.1, ⟨Nat.le_of_ble_eq_true rfl, Nat.le_of_ble_eq_true rfl⟩, kc_X11_escapedButter.2.1, kc_X11_escapedButter.2.2.1, kc_X11_escapedButter.2.2.2, rfl⟩, km_L_43, kt_X11_escapedButter, ke_X11_escapedButter⟩
theorem kv_L_all_46 : x_LV ML_all 46 MX11_brokenLayers 0 := ⟨⟨kc_X11_brokenLayers.1, ⟨Nat.le_of_ble_eq_true rfl, Nat.le_of_ble_eq_true rfl⟩, kc_X11_brokenLayers.2.1, kc_X11_brokenLayers.2.2.1, kc_X11_brokenLayers.2.2.2, rfl⟩, km_L_46, kt_X11_brokenLayers, ke_X11_brokenLayers⟩
theorem kv_L_all_49 : x_LV ML_all 49 MX11_expectedLayers 1 := ⟨⟨kc_X11_expectedLayers.1, ⟨Nat.le_of_ble_eq_true rfl, Nat.le_of_ble_eq_true rfl⟩, kc_X11_expectedLayers.2.1, kc_X11_expectedLayers.2.2.1, kc_X11_expectedLayers.2.2.2, rfl⟩, km_L_49, kt_X11_expectedLayers, ke_X11_expectedLayers⟩
theorem kv_L_all_52 : x_LV ML_all 52 MX11_temperature 1 := ⟨⟨kc_X11_temperature.1, ⟨Nat.le_of_ble_eq_true rfl, Nat.le_of_ble_eq_true rfl⟩, kc_X11_temperature.2.1, kc_X11_temperature.2.2.1, kc_X11_temperature.2.2.2, rfl⟩, km_L_52, kt_X11_temperature, ke_X11_temperature⟩
theorem kv_L_all_55 : x_LV ML_all 55 MX11_foldCount 1 := ⟨⟨kc_X11_foldCount.1, ⟨Nat.le_of_ble_eq_true rfl, Nat.le_of_ble_eq_true rfl⟩, kc_X11_foldCount.2.1, kc_X11_foldCount.2.2.1, kc_X11_foldCount.2.2.2, rfl⟩, km_L_55, kt_X11_foldCount, ke_X11_foldCount⟩
theorem kv_L_all_58 : x_LV ML_all 58 MX11_isDusted 1 := ⟨⟨kc_X11_isDusted.1, ⟨Nat.le_of_ble_eq_true rfl, Nat.le_of_ble_eq_true rfl⟩, kc_X11_isDusted.2.1, kc_X11_isDusted.2.2.1, kc_X11_isDusted.2.2.2, rfl⟩, km_L_58, kt_X11_isDusted, ke_X11_isDusted⟩
theorem kv_L_all_62 : x_LV ML_all 62 MX11_isSealed 1 := ⟨⟨kc_X11_isSealed.1, ⟨Nat.le_of_ble_eq_true rfl, Nat.le_of_ble_eq_true rfl⟩, kc_X11_isSealed.2.1, kc_X11_isSealed.2.2.1, kc_X11_isSealed.2.2.2, rfl⟩, km_L_62, kt_X11_isSealed, ke_X11_isSealed⟩
theorem kv_L_all_65 : x_LV ML_all 65 MX11_isCooling 1 := ⟨⟨kc_X11_isCooling.1, ⟨Nat.le_of_ble_eq_true rfl, Nat.le_of_ble_eq_true rfl⟩, kc_X11_isCooling.2.1, kc_X11_isCooling.2.2.1, kc_X11_isCooling.2.2.2, rfl⟩, km_L_65, kt_X11_isCooling, ke_X11_isCooling⟩
theorem kv_L_all_68 : x_LV ML_all 68 MX11_isButter 2 := ⟨⟨kc_X11_isButter.1, ⟨Nat.le_of_ble_eq_true rfl, Nat.le_of_ble_eq_true rfl⟩, kc_X11_isButter.2.1, kc_X11_isButter.2.2.1, kc_X11_isButter.2.2.2, rfl⟩, km_L_68, kt_X11_isButter, ke_X11_isButter⟩
theorem kv_L_all_72 : x_LV ML_all 72 MX11_thickness 2 := ⟨⟨kc_X11_thickness.1, ⟨Nat.le_of_ble_eq_true rfl, Nat.le_of_ble_eq_true rfl⟩, kc_X11_thickness.2.1, kc_X11_thickness.2.2.1, kc_X11_thickness.2.2.2, rfl⟩, km_L_72, kt_X11_thickness, ke_X11_thickness⟩
theorem kv_L_isBench_30 : x_LV ML_isBench 30 MX11_sheetCount 0 := ⟨⟨kc_X11_sheetCount.1, ⟨Nat.le_of_ble_eq_true rfl, Nat.le_of_ble_eq_true rfl⟩, kc_X11_sheetCount.2.1, kc_X11_sheetCount.2.2.1, kc_X11_sheetCount.2.2.2, rfl⟩, km_L_30, kt_X11_sheetCount, ke_X11_sheetCount⟩
theorem kv_L_isBench_33 : x_LV ML_isBench 33 MX11_layerCount 1 := ⟨⟨kc_X11_layerCount.1, ⟨Nat.le_of_ble_eq_true rfl, Nat.le_of_ble_eq_true rfl⟩, kc_X11_layerCount.2.1, kc_X11_layerCount.2.2.1, kc_X11_layerCount.2.2.2, rfl⟩, km_L_33, kt_X11_layerCount, ke_X11_layerCount⟩
theorem kv_L_isBench_76 : x_LV ML_isBench 76 MX11_thinnestLayer 1 := ⟨⟨kc_X11_thinnestLayer.1, ⟨Nat.le_of_ble_eq_true rfl, Nat.le_of_ble_eq_true rfl⟩, kc_X11_thinnestLayer.2.1, kc_X11_thinnestLayer.2.2.1, kc_X11_thinnestLayer.2.2.2, rfl⟩, km_L_76, kt_X11_thinnestLayer, ke_X11_thinnestLayer⟩
theorem kv_L_isBench_72 : x_LV ML_isBench 72 MX11_thickness 2 := ⟨⟨kc_X11_thickness.1, ⟨Nat.le_of_ble_eq_true rfl, Nat.le_of_ble_eq_true rfl⟩, kc_X11_thickness.2.1, kc_X11_thickness.2.2.1, kc_X11_thickness.2.2.2, rfl⟩, km_L_72, kt_X11_thickness, ke_X11_thickness⟩
theorem kv_L_isBench_79 : x_LV ML_isBench 79 MX11_thickestLayer 1 := ⟨⟨kc_X11_thickestLayer.1, ⟨Nat.le_of_ble_eq_true rfl, Nat.le_of_ble_eq_true rfl⟩, kc_X11_thickestLayer.2.1, kc_X11_thickestLayer.2.2.1, kc_X11_thickestLayer.2.2.2, rfl⟩, km_L_79, kt_X11_thickestLayer, ke_X11_thickestLayer⟩
theorem kv_L_isBench_65 : x_LV ML_isBench 65 MX11_isCooling 1 := ⟨⟨kc_X11_isCooling.1, ⟨Nat.le_of_ble_eq_true rfl, Nat.le_of_ble_eq_true rfl⟩, kc_X11_isCooling.2.1, kc_X11_isCooling.2.2.1, kc_X11_isCooling.2.2.2, rfl⟩, km_L_65, kt_X11_isCooling, ke_X11_isCooling⟩
theorem kv_L_isBench_68 : x_LV ML_isBench 68 MX11_isButter 2 := ⟨⟨kc_X11_isButter.1, ⟨Nat.le_of_ble_eq_true rfl, Nat.le_of_ble_eq_true rfl⟩, kc_X11_isButter.2.1, kc_X11_isButter.2.2.1, kc_X11_isButter.2.2.2, rfl⟩, km_L_68, kt_X11_isButter, ke_X11_isButter⟩
theorem kv_L_isBench_62 : x_LV ML_isBench 62 MX11_isSealed 1 := ⟨⟨kc_X11_isSealed.1, ⟨Nat.le_of_ble_eq_true rfl, Nat.le_of_ble_eq_true rfl⟩, kc_X11_isSealed.2.1, kc_X11_isSealed.2.2.1, kc_X11_isSealed.2.2.2, rfl⟩, km_L_62, kt_X11_isSealed, ke_X11_isSealed⟩
theorem kv_L_isBench_52 : x_LV ML_isBench 52 MX11_temperature 1 := ⟨⟨kc_X11_temperature.1, ⟨Nat.le_of_ble_eq_true rfl, Nat.le_of_ble_eq_true rfl⟩, kc_X11_temperature.2.1, kc_X11_temperature.2.2.1, kc_X11_temperature.2.2.2, rfl⟩, km_L_52, kt_X11_temperature, ke_X11_temperature⟩
theorem kv_L_isBench_82 : x_LV ML_isBench 82 MX11_meltingPoint 0 := ⟨⟨kc_X11_meltingPoint.1, ⟨Nat.le_of_ble_eq_true rfl, Nat.le_of_ble_eq_true rfl⟩, kc_X11_meltingPoint.2.1, kc_X11_meltingPoint.2.2.1, kc_X11_meltingPoint.2.2.2, rfl⟩, km_L_82, kt_X11_meltingPoint, ke_X11_meltingPoint⟩
theorem kv_L_isBench_85 : x_LV ML_isBench 85 MX11_butterAtRisk 1 := ⟨⟨kc_X11_butterAtRisk.1, ⟨Nat.le_of_ble_eq_true rfl, Nat.le_of_ble_eq_true rfl⟩, kc_X11_butterAtRisk.2.1, kc_X11_butterAtRisk.2.2.1, kc_X11_butterAtRisk.2.2.2, rfl⟩, km_L_85, kt_X11_butterAtRisk, ke_X11_butterAtRisk⟩
theorem kv_L_isBench_49 : x_LV ML_isBench 49 MX11_expectedLayers 1 := ⟨⟨kc_X11_expectedLayers.1, ⟨Nat.le_of_ble_eq_true rfl, Nat.le_of_ble_eq_true rfl⟩, kc_X11_expectedLayers.2.1, kc_X11_expectedLayers.2.2.1, kc_X11_expectedLayers.2.2.2, rfl⟩, km_L_49, kt_X11_expectedLayers, ke_X11_expectedLayers⟩
theorem kv_L_isBench_88 : x_LV ML_isBench 88 MX11_height 1 := ⟨⟨kc_X11_height.1, ⟨Nat.le_of_ble_eq_true rfl, Nat.le_of_ble_eq_true rfl⟩, kc_X11_height.2.1, kc_X11_height.2.2.1, kc_X11_height.2.2.2, rfl⟩, km_L_88, kt_X11_height, ke_X11_height⟩
theorem kv_L_isBench_91 : x_LV ML_isBench 91 MX11_butterHeight 1 := ⟨⟨kc_X11_butterHeight.1, ⟨Nat.le_of_ble_eq_true rfl, Nat.le_of_ble_eq_true rfl⟩, kc_X11_butterHeight.2.1, kc_X11_butterHeight.2.2.1, kc_X11_butterHeight.2.2.2, rfl⟩, km_L_91, kt_X11_butterHeight, ke_X11_butterHeight⟩
theorem kv_L_isBench_94 : x_LV ML_isBench 94 MX11_butterLayerCount 1 := ⟨⟨kc_X11_butterLayerCount.1, ⟨Nat.le_of_ble_eq_true rfl, Nat.le_of_ble_eq_true rfl⟩, kc_X11_butterLayerCount.2.1, kc_X11_butterLayerCount.2.2.1, kc_X11_butterLayerCount.2.2.2, rfl⟩, km_L_94, kt_X11_butterLayerCount, ke_X11_butterLayerCount⟩
theorem kv_L_isBench_97 : x_LV ML_isBench 97 MX11_hoursToSafety 1 := ⟨⟨kc_X11_hoursToSafety.1, ⟨Nat.le_of_ble_eq_true rfl, Nat.le_of_ble_eq_true rfl⟩, kc_X11_hoursToSafety.2.1, kc_X11_hoursToSafety.2.2.1, kc_X11_hoursToSafety.2.2.2, rfl⟩, km_L_97, kt_X11_hoursToSafety, ke_X11_hoursToSafety⟩
theorem kv_L_isBench_100 : x_LV ML_isBench 100 MX11_temperatureAfter 2 := ⟨⟨kc_X11_temperatureAfter.1, ⟨Nat.le_of_ble_eq_true rfl, Nat.le_of_ble_eq_true rfl⟩, kc_X11_temperatureAfter.2.1, kc_X11_temperatureAfter.2.2.1, kc_X11_temperatureAfter.2.2.2, rfl⟩, km_L_100, kt_X11_temperatureAfter, ke_X11_temperatureAfter⟩
theorem kv_L_isBench_103 : x_LV ML_isBench 103 MX11_seamCount 1 := ⟨⟨kc_X11_seamCount.1, ⟨Nat.le_of_ble_eq_true rfl, Nat.le_of_ble_eq_true rfl⟩, kc_X11_seamCount.2.1, kc_X11_seamCount.2.2.1, kc_X11_seamCount.2.2.2, rfl⟩, km_L_103, kt_X11_seamCount, ke_X11_seamCount⟩
theorem kv_L_isBench_106 : x_LV ML_isBench 106 MX11_warmestSheet 0 := ⟨⟨kc_X11_warmestSheet.1, ⟨Nat.le_of_ble_eq_true rfl, Nat.le_of_ble_eq_true rfl⟩, kc_X11_warmestSheet.2.1, kc_X11_warmestSheet.2.2.1, kc_X11_warmestSheet.2.2.2, rfl⟩, km_L_106, kt_X11_warmestSheet, ke_X11_warmestSheet⟩
theorem kv_L_isBench_109 : x_LV ML_isBench 109 MX11_finestSheet 0 := ⟨⟨kc_X11_finestSheet.1, ⟨Nat.le_of_ble_eq_true rfl, Nat.le_of_ble_eq_true rfl⟩, kc_X11_finestSheet.2.1, kc_X11_finestSheet.2.2.1, kc_X11_finestSheet.2.2.2, rfl⟩, km_L_109, kt_X11_finestSheet, ke_X11_finestSheet⟩
theorem kv_L_isBench_112 : x_LV ML_isBench 112 MX11_butterShare 1 := ⟨⟨kc_X11_butterShare.1, ⟨Nat.le_of_ble_eq_true rfl, Nat.le_of_ble_eq_true rfl⟩, kc_X11_butterShare.2.1, kc_X11_butterShare.2.2.1, kc_X11_butterShare.2.2.2, rfl⟩, km_L_112, kt_X11_butterShare, ke_X11_butterShare⟩
theorem kv_L_isBench_116 : x_LV ML_isBench 116 MX11_foldObstacle 2 := ⟨⟨kc_X11_foldObstacle.1, ⟨Nat.le_of_ble_eq_true rfl, Nat.le_of_ble_eq_true rfl⟩, kc_X11_foldObstacle.2.1, kc_X11_foldObstacle.2.2.1, kc_X11_foldObstacle.2.2.2, rfl⟩, km_L_116, kt_X11_foldObstacle, ke_X11_foldObstacle⟩
theorem kv_L_isBench_119 : x_LV ML_isBench 119 MX11_layersAfterFold 2 := ⟨⟨kc_X11_layersAfterFold.1, ⟨Nat.le_of_ble_eq_true rfl, Nat.le_of_ble_eq_true rfl⟩, kc_X11_layersAfterFold.2.1, kc_X11_layersAfterFold.2.2.1, kc_X11_layersAfterFold.2.2.2, rfl⟩, km_L_119, kt_X11_layersAfterFold, ke_X11_layersAfterFold⟩
theorem kv_L_isBench_58 : x_LV ML_isBench 58 MX11_isDusted 1 := ⟨⟨kc_X11_isDusted.1, ⟨Nat.le_of_ble_eq_true rfl, Nat.le_of_ble_eq_true rfl⟩, kc_X11_isDusted.2.1, kc_X11_isDusted.2.2.1, kc_X11_isDusted.2.2.2, rfl⟩, km_L_58, kt_X11_isDusted, ke_X11_isDusted⟩
theorem kv_L_isBench_122 : x_LV ML_isBench 122 MX11_foldsPossible 2 := ⟨⟨kc_X11_foldsPossible.1, ⟨Nat.le_of_ble_eq_true rfl, Nat.le_of_ble_eq_true rfl⟩, kc_X11_foldsPossible.2.1, kc_X11_foldsPossible.2.2.1, kc_X11_foldsPossible.2.2.2, rfl⟩, km_L_122, kt_X11_foldsPossible, ke_X11_foldsPossible⟩
theorem kv_L_isBench_125 : x_LV ML_isBench 125 MX11_layersAtRisk 2 := ⟨⟨kc_X11_layersAtRisk.1, ⟨Nat.le_of_ble_eq_true rfl, Nat.le_of_ble_eq_true rfl⟩, kc_X11_layersAtRisk.2.1, kc_X11_layersAtRisk.2.2.1, kc_X11_layersAtRisk.2.2.2, rfl⟩, km_L_125, kt_X11_layersAtRisk, ke_X11_layersAtRisk⟩
theorem kv_L_isBench_37 : x_LV ML_isBench 37 MX11_flour 0 := ⟨⟨kc_X11_flour.1, ⟨Nat.le_of_ble_eq_true rfl, Nat.le_of_ble_eq_true rfl⟩, kc_X11_flour.2.1, kc_X11_flour.2.2.1, kc_X11_flour.2.2.2, rfl⟩, km_L_37, kt_X11_flour, ke_X11_flour⟩
theorem kv_L_act_128 : x_LS ML_act 128 ML_most 2 := ⟨⟨kc_L_most.1, ⟨Nat.le_of_ble_eq_true rfl, Nat.le_of_ble_eq_true rfl⟩, kc_L_most.2.1, kc_L_most.2.2.1, kc_L_most.2.2.2, rfl⟩, km_L_128, kt_L_most⟩
theorem kv_L_act_30 : x_LV ML_act 30 MX11_sheetCount 0 := ⟨⟨kc_X11_sheetCount.1, ⟨Nat.le_of_ble_eq_true rfl, Nat.le_of_ble_eq_true rfl⟩, kc_X11_sheetCount.2.1, kc_X11_sheetCount.2.2.1, kc_X11_sheetCount.2.2.2, rfl⟩, km_L_30, kt_X11_sheetCount, ke_X11_sheetCount⟩
theorem kv_L_act_131 : x_LV ML_act 131 MX11_buyFlour 1 := ⟨⟨kc_X11_buyFlour.1, ⟨Nat.le_of_ble_eq_true rfl, Nat.le_of_ble_eq_true rfl⟩, kc_X11_buyFlour.2.1, kc_X11_buyFlour.2.2.1, kc_X11_buyFlour.2.2.2, rfl⟩, km_L_131, kt_X11_buyFlour, ke_X11_buyFlour⟩
theorem kv_L_act_33 : x_LV ML_act 33 MX11_layerCount 1 := ⟨⟨kc_X11_layerCount.1, ⟨Nat.le_of_ble_eq_true rfl, Nat.le_of_ble_eq_true rfl⟩, kc_X11_layerCount.2.1, kc_X11_layerCount.2.2.1, kc_X11_layerCount.2.2.2, rfl⟩, km_L_33, kt_X11_layerCount, ke_X11_layerCount⟩
theorem kv_L_act_65 : x_LV ML_act 65 MX11_isCooling 1 := ⟨⟨kc_X11_isCooling.1, ⟨Nat.le_of_ble_eq_true rfl, Nat.le_of_ble_eq_true rfl⟩, kc_X11_isCooling.2.1, kc_X11_isCooling.2.2.1, kc_X11_isCooling.2.2.2, rfl⟩, km_L_65, kt_X11_isCooling, ke_X11_isCooling⟩
theorem kv_L_act_116 : x_LV ML_act 116 MX11_foldObstacle 2 := ⟨⟨kc_X11_foldObstacle.1, ⟨Nat.le_of_ble_eq_true rfl, Nat.le_of_ble_eq_true rfl⟩, kc_X11_foldObstacle.2.1, kc_X11_foldObstacle.2.2.1, kc_X11_foldObstacle.2.2.2, rfl⟩, km_L_116, kt_X11_foldObstacle, ke_X11_foldObstacle⟩
theorem kv_L_act_122 : x_LV ML_act 122 MX11_foldsPossible 2 := ⟨⟨kc_X11_foldsPossible.1, ⟨Nat.le_of_ble_eq_true rfl, Nat.le_of_ble_eq_true rfl⟩, kc_X11_foldsPossible.2.1, kc_X11_foldsPossible.2.2.1, kc_X11_foldsPossible.2.2.2, rfl⟩, km_L_122, kt_X11_foldsPossible, ke_X11_foldsPossible⟩
theorem kv_L_act_119 : x_LV ML_act 119 MX11_layersAfterFold 2 := ⟨⟨kc_X11_layersAfterFold.1, ⟨Nat.le_of_ble_eq_true rfl, Nat.le_of_ble_eq_true rfl⟩, kc_X11_layersAfterFold.2.1, kc_X11_layersAfterFold.2.2.1, kc_X11_layersAfterFold.2.2.2, rfl⟩, km_L_119, kt_X11_layersAfterFold, ke_X11_layersAfterFold⟩
theorem kv_L_act_88 : x_LV ML_act 88 MX11_height 1 := ⟨⟨kc_X11_height.1, ⟨Nat.le_of_ble_eq_true rfl, Nat.le_of_ble_eq_true rfl⟩, kc_X11_height.2.1, kc_X11_height.2.2.1, kc_X11_height.2.2.2, rfl⟩, km_L_88, kt_X11_height, ke_X11_height⟩
theorem kv_L_act_58 : x_LV ML_act 58 MX11_isDusted 1 := ⟨⟨kc_X11_isDusted.1, ⟨Nat.le_of_ble_eq_true rfl, Nat.le_of_ble_eq_true rfl⟩, kc_X11_isDusted.2.1, kc_X11_isDusted.2.2.1, kc_X11_isDusted.2.2.2, rfl⟩, km_L_58, kt_X11_isDusted, ke_X11_isDusted⟩
theorem kv_L_act_134 : x_LV ML_act 134 MX11_isSymmetric 1 := ⟨⟨kc_X11_isSymmetric.1, ⟨Nat.le_of_ble_eq_true rfl, Nat.le_of_ble_eq_true rfl⟩, kc_X11_isSymmetric.2.1, kc_X11_isSymmetric.2.2.1, kc_X11_isSymmetric.2.2.2, rfl⟩, km_L_134, kt_X11_isSymmetric, ke_X11_isSymmetric⟩
theorem kv_L_act_55 : x_LV ML_act 55 MX11_foldCount 1 := ⟨⟨kc_X11_foldCount.1, ⟨Nat.le_of_ble_eq_true rfl, Nat.le_of_ble_eq_true rfl⟩, kc_X11_foldCount.2.1, kc_X11_foldCount.2.2.1, kc_X11_foldCount.2.2.2, rfl⟩, km_L_55, kt_X11_foldCount, ke_X11_foldCount⟩
theorem kv_L_act_137 : x_LV ML_act 137 MX11_fold 2 := ⟨⟨kc_X11_fold.1, ⟨Nat.le_of_ble_eq_true rfl, Nat.le_of_ble_eq_true rfl⟩, kc_X11_fold.2.1, kc_X11_fold.2.2.1, kc_X11_fold.2.2.2, rfl⟩, km_L_137, kt_X11_fold, ke_X11_fold⟩
theorem kv_L_act_140 : x_LV ML_act 140 MX11_heightAfterRoll 2 := ⟨⟨kc_X11_heightAfterRoll.1, ⟨Nat.le_of_ble_eq_true rfl, Nat.le_of_ble_eq_true rfl⟩, kc_X11_heightAfterRoll.2.1, kc_X11_heightAfterRoll.2.2.1, kc_X11_heightAfterRoll.2.2.2, rfl⟩, km_L_140, kt_X11_heightAfterRoll, ke_X11_heightAfterRoll⟩
theorem kv_L_act_85 : x_LV ML_act 85 MX11_butterAtRisk 1 := ⟨⟨kc_X11_butterAtRisk.1, ⟨Nat.le_of_ble_eq_true rfl, Nat.le_of_ble_eq_true rfl⟩, kc_X11_butterAtRisk.2.1, kc_X11_butterAtRisk.2.2.1, kc_X11_butterAtRisk.2.2.2, rfl⟩, km_L_85, kt_X11_butterAtRisk, ke_X11_butterAtRisk⟩
theorem kv_L_act_125 : x_LV ML_act 125 MX11_layersAtRisk 2 := ⟨⟨kc_X11_layersAtRisk.1, ⟨Nat.le_of_ble_eq_true rfl, Nat.le_of_ble_eq_true rfl⟩, kc_X11_layersAtRisk.2.1, kc_X11_layersAtRisk.2.2.1, kc_X11_layersAtRisk.2.2.2, rfl⟩, km_L_125, kt_X11_layersAtRisk, ke_X11_layersAtRisk⟩
theorem kv_L_act_43 : x_LV ML_act 43 MX11_escapedButter 0 := ⟨⟨kc_X11_escapedButter.1, ⟨Nat.le_of_ble_eq_true rfl, Nat.le_of_ble_eq_true rfl⟩, kc_X11_escapedButter.2.1, kc_X11_escapedButter.2.2.1, kc_X11_escapedButter.2.2.2, rfl⟩, km_L_43, kt_X11_escapedButter, ke_X11_escapedButter⟩
theorem kv_L_act_46 : x_LV ML_act 46 MX11_brokenLayers 0 := ⟨⟨kc_X11_brokenLayers.1, ⟨Nat.le_of_ble_eq_true rfl, Nat.le_of_ble_eq_true rfl⟩, kc_X11_brokenLayers.2.1, kc_X11_brokenLayers.2.2.1, kc_X11_brokenLayers.2.2.2, rfl⟩, km_L_46, kt_X11_brokenLayers, ke_X11_brokenLayers⟩
theorem kv_L_act_94 : x_LV ML_act 94 MX11_butterLayerCount 1 := ⟨⟨kc_X11_butterLayerCount.1, ⟨Nat.le_of_ble_eq_true rfl, Nat.le_of_ble_eq_true rfl⟩, kc_X11_butterLayerCount.2.1, kc_X11_butterLayerCount.2.2.1, kc_X11_butterLayerCount.2.2.2, rfl⟩, km_L_94, kt_X11_butterLayerCount, ke_X11_butterLayerCount⟩
theorem kv_L_act_143 : x_LV ML_act 143 MX11_roll 2 := ⟨⟨kc_X11_roll.1, ⟨Nat.le_of_ble_eq_true rfl, Nat.le_of_ble_eq_true rfl⟩, kc_X11_roll.2.1, kc_X11_roll.2.2.1, kc_X11_roll.2.2.2, rfl⟩, km_L_143, kt_X11_roll, ke_X11_roll⟩
theorem kv_L_act_62 : x_LV ML_act 62 MX11_isSealed 1 := ⟨⟨kc_X11_isSealed.1, ⟨Nat.le_of_ble_eq_true rfl, Nat.le_of_ble_eq_true rfl⟩, kc_X11_isSealed.2.1, kc_X11_isSealed.2.2.1, kc_X11_isSealed.2.2.2, rfl⟩, km_L_62, kt_X11_isSealed, ke_X11_isSealed⟩
theorem kv_L_act_37 : x_LV ML_act 37 MX11_flour 0 := ⟨⟨kc_X11_flour.1, ⟨Nat.le_of_ble_eq_true rfl, Nat.le_of_ble_eq_true rfl⟩, kc_X11_flour.2.1, kc_X11_flour.2.2.1, kc_X11_flour.2.2.2, rfl⟩, km_L_37, kt_X11_flour, ke_X11_flour⟩
theorem kv_L_act_146 : x_LV ML_act 146 MX11_dust 1 := ⟨⟨kc_X11_dust.1, ⟨Nat.le_of_ble_eq_true rfl, Nat.le_of_ble_eq_true rfl⟩, kc_X11_dust.2.1, kc_X11_dust.2.2.1, kc_X11_dust.2.2.2, rfl⟩, km_L_146, kt_X11_dust, ke_X11_dust⟩
theorem kv_L_act_149 : x_LV ML_act 149 MX11_seal 1 := ⟨⟨kc_X11_seal.1, ⟨Nat.le_of_ble_eq_true rfl, Nat.le_of_ble_eq_true rfl⟩, kc_X11_seal.2.1, kc_X11_seal.2.2.1, kc_X11_seal.2.2.2, rfl⟩, km_L_149, kt_X11_seal, ke_X11_seal⟩
theorem kv_L_act_152 : x_LV ML_act 152 MX11_takeOut 1 := ⟨⟨kc_X11_takeOut.1, ⟨Nat.le_of_ble_eq_true rfl, Nat.le_of_ble_eq_true rfl⟩, kc_X11_takeOut.2.1, kc_X11_takeOut.2.2.1, kc_X11_takeOut.2.2.2, rfl⟩, km_L_152, kt_X11_takeOut, ke_X11_takeOut⟩
theorem kv_L_act_52 : x_LV ML_act 52 MX11_temperature 1 := ⟨⟨kc_X11_temperature.1, ⟨Nat.le_of_ble_eq_true rfl, Nat.le_of_ble_eq_true rfl⟩, kc_X11_temperature.2.1, kc_X11_temperature.2.2.1, kc_X11_temperature.2.2.2, rfl⟩, km_L_52, kt_X11_temperature, ke_X11_temperature⟩
theorem kv_L_act_155 : x_LV ML_act 155 MX11_cool 1 := ⟨⟨kc_X11_cool.1, ⟨Nat.le_of_ble_eq_true rfl, Nat.le_of_ble_eq_true rfl⟩, kc_X11_cool.2.1, kc_X11_cool.2.2.1, kc_X11_cool.2.2.2, rfl⟩, km_L_155, kt_X11_cool, ke_X11_cool⟩
theorem kv_L_act_100 : x_LV ML_act 100 MX11_temperatureAfter 2 := ⟨⟨kc_X11_temperatureAfter.1, ⟨Nat.le_of_ble_eq_true rfl, Nat.le_of_ble_eq_true rfl⟩, kc_X11_temperatureAfter.2.1, kc_X11_temperatureAfter.2.2.1, kc_X11_temperatureAfter.2.2.2, rfl⟩, km_L_100, kt_X11_temperatureAfter, ke_X11_temperatureAfter⟩
theorem kv_L_act_97 : x_LV ML_act 97 MX11_hoursToSafety 1 := ⟨⟨kc_X11_hoursToSafety.1, ⟨Nat.le_of_ble_eq_true rfl, Nat.le_of_ble_eq_true rfl⟩, kc_X11_hoursToSafety.2.1, kc_X11_hoursToSafety.2.2.1, kc_X11_hoursToSafety.2.2.2, rfl⟩, km_L_97, kt_X11_hoursToSafety, ke_X11_hoursToSafety⟩
theorem kv_L_act_40 : x_LV ML_act 40 MX11_hoursPassed 0 := ⟨⟨kc_X11_hoursPassed.1, ⟨Nat.le_of_ble_eq_true rfl, Nat.le_of_ble_eq_true rfl⟩, kc_X11_hoursPassed.2.1, kc_X11_hoursPassed.2.2.1, kc_X11_hoursPassed.2.2.2, rfl⟩, km_L_40, kt_X11_hoursPassed, ke_X11_hoursPassed⟩
theorem kv_L_act_158 : x_LV ML_act 158 MX11_passHours 1 := ⟨⟨kc_X11_passHours.1, ⟨Nat.le_of_ble_eq_true rfl, Nat.le_of_ble_eq_true rfl⟩, kc_X11_passHours.2.1, kc_X11_passHours.2.2.1, kc_X11_passHours.2.2.2, rfl⟩, km_L_158, kt_X11_passHours, ke_X11_passHours⟩
theorem kv_L_act_82 : x_LV ML_act 82 MX11_meltingPoint 0 := ⟨⟨kc_X11_meltingPoint.1, ⟨Nat.le_of_ble_eq_true rfl, Nat.le_of_ble_eq_true rfl⟩, kc_X11_meltingPoint.2.1, kc_X11_meltingPoint.2.2.1, kc_X11_meltingPoint.2.2.2, rfl⟩, km_L_82, kt_X11_meltingPoint, ke_X11_meltingPoint⟩
theorem kv_L_act_161 : x_LV ML_act 161 MX11_cut 1 := ⟨⟨kc_X11_cut.1, ⟨Nat.le_of_ble_eq_true rfl, Nat.le_of_ble_eq_true rfl⟩, kc_X11_cut.2.1, kc_X11_cut.2.2.1, kc_X11_cut.2.2.2, rfl⟩, km_L_161, kt_X11_cut, ke_X11_cut⟩
theorem kv_L_act_68 : x_LV ML_act 68 MX11_isButter 2 := ⟨⟨kc_X11_isButter.1, ⟨Nat.le_of_ble_eq_true rfl, Nat.le_of_ble_eq_true rfl⟩, kc_X11_isButter.2.1, kc_X11_isButter.2.2.1, kc_X11_isButter.2.2.2, rfl⟩, km_L_68, kt_X11_isButter, ke_X11_isButter⟩
theorem kv_L_act_164 : x_LV ML_act 164 MX11_stack 2 := ⟨⟨kc_X11_stack.1, ⟨Nat.le_of_ble_eq_true rfl, Nat.le_of_ble_eq_true rfl⟩, kc_X11_stack.2.1, kc_X11_stack.2.2.1, kc_X11_stack.2.2.2, rfl⟩, km_L_164, kt_X11_stack, ke_X11_stack⟩
theorem kv_L_act_167 : x_LV ML_act 167 MX11_addButter 2 := ⟨⟨kc_X11_addButter.1, ⟨Nat.le_of_ble_eq_true rfl, Nat.le_of_ble_eq_true rfl⟩, kc_X11_addButter.2.1, kc_X11_addButter.2.2.1, kc_X11_addButter.2.2.2, rfl⟩, km_L_167, kt_X11_addButter, ke_X11_addButter⟩
theorem kv_L_law_170 : x_LI ML_law 170 MX11_init 0 := ⟨⟨kc_X11_init.1, ⟨Nat.le_of_ble_eq_true rfl, Nat.le_of_ble_eq_true rfl⟩, kc_X11_init.2.1, kc_X11_init.2.2.1, kc_X11_init.2.2.2, rfl⟩, km_L_170, kt_X11_init, rfl, rfl⟩
theorem kv_L_law_171 : x_LS ML_law 171 ML_cell 2 := ⟨⟨kc_L_cell.1, ⟨Nat.le_of_ble_eq_true rfl, Nat.le_of_ble_eq_true rfl⟩, kc_L_cell.2.1, kc_L_cell.2.2.1, kc_L_cell.2.2.2, rfl⟩, km_L_171, kt_L_cell⟩
theorem kv_L_law_179 : x_LI ML_law 179 MJ4_init_a7421 1 := ⟨⟨kc_J4_init_a7421.1, ⟨Nat.le_of_ble_eq_true rfl, Nat.le_of_ble_eq_true rfl⟩, kc_J4_init_a7421.2.1, kc_J4_init_a7421.2.2.1, kc_J4_init_a7421.2.2.2, rfl⟩, km_L_179, kt_J4_init_a7421, rfl, rfl⟩
theorem kv_L_law_128 : x_LS ML_law 128 ML_most 2 := ⟨⟨kc_L_most.1, ⟨Nat.le_of_ble_eq_true rfl, Nat.le_of_ble_eq_true rfl⟩, kc_L_most.2.1, kc_L_most.2.2.1, kc_L_most.2.2.2, rfl⟩, km_L_128, kt_L_most⟩
theorem kv_L_law_182 : x_LV ML_law 182 MJ4_append_bf812 1 := ⟨⟨kc_J4_append_bf812.1, ⟨Nat.le_of_ble_eq_true rfl, Nat.le_of_ble_eq_true rfl⟩, kc_J4_append_bf812.2.1, kc_J4_append_bf812.2.2.1, kc_J4_append_bf812.2.2.2, rfl⟩, km_L_182, kt_J4_append_bf812, ke_J4_append_bf812⟩
theorem kv_L_law_186 : x_LV ML_law 186 MJ4_append_cf468 1 := ⟨⟨kc_J4_append_cf468.1, ⟨Nat.le_of_ble_eq_true rfl, Nat.le_of_ble_eq_true rfl⟩, kc_J4_append_cf468.2.1, kc_J4_append_cf468.2.2.1, kc_J4_append_cf468.2.2.2, rfl⟩, km_L_186, kt_J4_append_cf468, ke_J4_append_cf468⟩
theorem kv_L_law_191 : x_LV ML_law 191 MJ4_append_15ec4 1 := ⟨⟨kc_J4_append_15ec4.1, ⟨Nat.le_of_ble_eq_true rfl, Nat.le_of_ble_eq_true rfl⟩, kc_J4_append_15ec4.2.1, kc_J4_append_15ec4.2.2.1, kc_J4_append_15ec4.2.2.2, rfl⟩, km_L_191, kt_J4_append_15ec4, ke_J4_append_15ec4⟩
theorem kv_L_law_198 : x_LV ML_law 198 MJ4_toString_0e30d 0 := ⟨⟨kc_J4_toString_0e30d.1, ⟨Nat.le_of_ble_eq_true rfl, Nat.le_of_ble_eq_true rfl⟩, kc_J4_toString_0e30d.2.1, kc_J4_toString_0e30d.2.2.1, kc_J4_toString_0e30d.2.2.2, rfl⟩, km_L_198, kt_J4_toString_0e30d, ke_J4_toString_0e30d⟩
theorem kv_L_law_202 : x_LS ML_law 202 ML_say 3 := ⟨⟨kc_L_say.1, ⟨Nat.le_of_ble_eq_true rfl, Nat.le_of_ble_eq_true rfl⟩, kc_L_say.2.1, kc_L_say.2.2.1, kc_L_say.2.2.2, rfl⟩, km_L_202, kt_L_say⟩
theorem kv_L_law_206 : x_LS ML_law 206 ML_end 2 := ⟨⟨kc_L_end.1, ⟨Nat.le_of_ble_eq_true rfl, Nat.le_of_ble_eq_true rfl⟩, kc_L_end.2.1, kc_L_end.2.2.1, kc_L_end.2.2.2, rfl⟩, km_L_206, kt_L_end⟩
theorem kv_L_law_210 : x_LV ML_law 210 MX11_loadBench 1 := ⟨⟨kc_X11_loadBench.1, ⟨Nat.le_of_ble_eq_true rfl, Nat.le_of_ble_eq_true rfl⟩, kc_X11_loadBench.2.1, kc_X11_loadBench.2.2.1, kc_X11_loadBench.2.2.2, rfl⟩, km_L_210, kt_X11_loadBench, ke_X11_loadBench⟩
theorem kv_L_law_213 : x_LV ML_law 213 MX11_undoableCount 0 := ⟨⟨kc_X11_undoableCount.1, ⟨Nat.le_of_ble_eq_true rfl, Nat.le_of_ble_eq_true rfl⟩, kc_X11_undoableCount.2.1, kc_X11_undoableCount.2.2.1, kc_X11_undoableCount.2.2.2, rfl⟩, km_L_213, kt_X11_undoableCount, ke_X11_undoableCount⟩
theorem kv_L_law_216 : x_LS ML_law 216 ML_isBench 1 := ⟨⟨kc_L_isBench.1, ⟨Nat.le_of_ble_eq_true rfl, Nat.le_of_ble_eq_true rfl⟩, kc_L_isBench.2.1, kc_L_isBench.2.2.1, kc_L_isBench.2.2.2, rfl⟩, km_L_216, kt_L_isBench⟩
theorem kv_L_law_220 : x_LS ML_law 220 ML_all 1 := ⟨⟨kc_L_all.1, ⟨Nat.le_of_ble_eq_true rfl, Nat.le_of_ble_eq_true rfl⟩, kc_L_all.2.1, kc_L_all.2.2.1, kc_L_all.2.2.2, rfl⟩, km_L_220, kt_L_all⟩
theorem kv_L_law_224 : x_LS ML_law 224 ML_act 2 := ⟨⟨kc_L_act.1, ⟨Nat.le_of_ble_eq_true rfl, Nat.le_of_ble_eq_true rfl⟩, kc_L_act.2.1, kc_L_act.2.2.1, kc_L_act.2.2.2, rfl⟩, km_L_224, kt_L_act⟩
theorem kv_L_law_228 : x_LV ML_law 228 MX11_undo 0 := ⟨⟨kc_X11_undo.1, ⟨Nat.le_of_ble_eq_true rfl, Nat.le_of_ble_eq_true rfl⟩, kc_X11_undo.2.1, kc_X11_undo.2.2.1, kc_X11_undo.2.2.2, rfl⟩, km_L_228, kt_X11_undo, ke_X11_undo⟩
theorem kv_L_law_231 : x_LS ML_law 231 ML_alike 2 := ⟨⟨kc_L_alike.1, ⟨Nat.le_of_ble_eq_true rfl, Nat.le_of_ble_eq_true rfl⟩, kc_L_alike.2.1, kc_L_alike.2.2.1, kc_L_alike.2.2.2, rfl⟩, km_L_231, kt_L_alike⟩
theorem kv_L_law_235 : x_LV ML_law 235 MX11_saveSnapshot 0 := ⟨⟨kc_X11_saveSnapshot.1, ⟨Nat.le_of_ble_eq_true rfl, Nat.le_of_ble_eq_true rfl⟩, kc_X11_saveSnapshot.2.1, kc_X11_saveSnapshot.2.2.1, kc_X11_saveSnapshot.2.2.2, rfl⟩, km_L_235, kt_X11_saveSnapshot, ke_X11_saveSnapshot⟩
theorem kv_L_law_238 : x_LV ML_law 238 MX11_restoreSnapshot 0 := ⟨⟨kc_X11_restoreSnapshot.1, ⟨Nat.le_of_ble_eq_true rfl, Nat.le_of_ble_eq_true rfl⟩, kc_X11_restoreSnapshot.2.1, kc_X11_restoreSnapshot.2.2.1, kc_X11_restoreSnapshot.2.2.2, rfl⟩, km_L_238, kt_X11_restoreSnapshot, ke_X11_restoreSnapshot⟩
