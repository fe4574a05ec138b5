/-! LINKS: by class and place in its constant pool -/
theorem kX5_9 : CaI RX5 9 mX4_init := ⟨⟨q20, q21⟩, rfl, rfl, ⟨q2, q22, ⟨by decide +kernel, by decide +kernel, by decide +kernel⟩, by decide +kernel, by decide⟩⟩
theorem pX5_10 : Fp RX5 10 5 0 (.object "PaddleRows$Tank") true := ⟨_, rfl, by decide, q173, rfl, by decide +kernel, fun _ => rfl⟩
theorem fX5_10 : Fl RX5 10 5 0 := ⟨_, rfl, by decide, q173⟩
theorem kX5_18 : CaIN RX5 18 mX2_init := ⟨⟨RX5, List.mem_filter.mpr ⟨List.mem_of_getElem? (i := 130) (by decide +kernel), rfl⟩⟩, q131, rfl, rfl, ⟨q5, q132, ⟨by decide +kernel, by decide +kernel, by decide +kernel⟩, by decide +kernel, by decide⟩⟩
theorem pX5_19 : Fp RX5 19 5 1 (.object "PaddleRows$Pad") true := ⟨_, rfl, by decide, q174, rfl, by decide +kernel, fun _ => rfl⟩
theorem fX5_19 : Fl RX5 19 5 1 := ⟨_, rfl, by decide, q174⟩
theorem kX5_25 : CaI RX5 25 mX1_init := ⟨⟨q158, q159⟩, rfl, rfl, ⟨q6, q160, ⟨by decide +kernel, by decide +kernel, by decide +kernel⟩, by decide +kernel, by decide⟩⟩
theorem pX5_26 : Fp RX5 26 5 2 (.object "PaddleRows$History") true := ⟨_, rfl, by decide, q175, rfl, by decide +kernel, fun _ => rfl⟩
theorem fX5_26 : Fl RX5 26 5 2 := ⟨_, rfl, by decide, q175⟩
theorem pX5_30 : Fp RX5 30 5 3 (.array (.object "PaddleRows$Tank")) true := ⟨_, rfl, by decide, q176, rfl, by decide +kernel, fun _ => rfl⟩
theorem fX5_30 : Fl RX5 30 5 3 := ⟨_, rfl, by decide, q176⟩
theorem pX5_34 : Fp RX5 34 5 4 (.array .boolean) true := ⟨_, rfl, by decide, q177, rfl, by decide +kernel, fun _ => rfl⟩
theorem pX5_38 : Fp RX5 38 5 5 (.object "PaddleRows$Tank") true := ⟨_, rfl, by decide, q178, rfl, by decide +kernel, fun _ => rfl⟩
theorem fX5_38 : Fl RX5 38 5 5 := ⟨_, rfl, by decide, q178⟩
theorem pX5_41 : Fp RX5 41 5 6 (.object "PaddleRows$Tank") true := ⟨_, rfl, by decide, q179, rfl, by decide +kernel, fun _ => rfl⟩
theorem fX5_41 : Fl RX5 41 5 6 := ⟨_, rfl, by decide, q179⟩
theorem kX5_44 : CaV RX5 44 mX4_copyFrom 1 4 := ⟨⟨q200, q201, q202⟩, ⟨q2, q203, ⟨by decide +kernel, by decide +kernel, by decide +kernel⟩, by decide +kernel, by decide⟩, _, rfl, rfl⟩
theorem kX5_48 : CaV RX5 48 mX4_changeSetting 2 4 := ⟨⟨q216, q217, q218⟩, ⟨q2, q219, ⟨by decide +kernel, by decide +kernel, by decide +kernel⟩, by decide +kernel, by decide⟩, _, rfl, rfl⟩
theorem kX5_52 : CaV RX5 52 mX5_recorded 1 5 := ⟨⟨q227, q229, (inWS (List.mem_of_getElem? (i := 0) (by decide +kernel)) (by decide +kernel))⟩, ⟨q1, q230, ⟨by decide +kernel, by decide +kernel, by decide +kernel⟩, by decide +kernel, by decide⟩, _, rfl, rfl⟩
theorem kX5_56 : CaV RX5 56 mX4_placePaddle 5 4 := ⟨⟨q244, q245, q246⟩, ⟨q2, q247, ⟨by decide +kernel, by decide +kernel, by decide +kernel⟩, by decide +kernel, by decide⟩, _, rfl, rfl⟩
theorem kX5_60 : CaV RX5 60 mX4_removePaddle 1 4 := ⟨⟨q264, q265, q266⟩, ⟨q2, q267, ⟨by decide +kernel, by decide +kernel, by decide +kernel⟩, by decide +kernel, by decide⟩, _, rfl, rfl⟩
theorem kX5_63 : CaV RX5 63 mX4_startPaddle 1 4 := ⟨⟨q272, q273, q274⟩, ⟨q2, q275, ⟨by decide +kernel, by decide +kernel, by decide +kernel⟩, by decide +kernel, by decide⟩, _, rfl, rfl⟩
theorem kX5_66 : CaV RX5 66 mX4_placeGauge 1 4 := ⟨⟨q283, q284, q285⟩, ⟨q2, q286, ⟨by decide +kernel, by decide +kernel, by decide +kernel⟩, by decide +kernel, by decide⟩, _, rfl, rfl⟩
theorem kX5_69 : CaV RX5 69 mX4_changeLevel 2 4 := ⟨⟨q295, q296, q297⟩, ⟨q2, q298, ⟨by decide +kernel, by decide +kernel, by decide +kernel⟩, by decide +kernel, by decide⟩, _, rfl, rfl⟩
theorem kX5_72 : CaV RX5 72 mX4_passSteps 1 4 := ⟨⟨q303, q304, q305⟩, ⟨q2, q306, ⟨by decide +kernel, by decide +kernel, by decide +kernel⟩, by decide +kernel, by decide⟩, _, rfl, rfl⟩
theorem kX5_75 : CaV RX5 75 mX1_push 1 1 := ⟨⟨q231, q232, q233⟩, ⟨q6, q234, ⟨by decide +kernel, by decide +kernel, by decide +kernel⟩, by decide +kernel, by decide⟩, _, rfl, rfl⟩
theorem kX5_78 : CaS RX5 78 mX5_isOutside 2 := ⟨⟨q374, q221⟩, ⟨q1, q222, ⟨by decide +kernel, by decide +kernel, by decide +kernel⟩, by decide +kernel, by decide⟩⟩
theorem fX5_82 : Fl RX5 82 4 1 := ⟨_, rfl, by decide, q98⟩
theorem fX5_86 : Fl RX5 86 4 2 := ⟨_, rfl, by decide, q100⟩
theorem kX5_89 : CaV RX5 89 mX4_isCrest 1 4 := ⟨⟨q375, q376, q377⟩, ⟨q2, q378, ⟨by decide +kernel, by decide +kernel, by decide +kernel⟩, by decide +kernel, by decide⟩, _, rfl, rfl⟩
theorem kX5_93 : CaS RX5 93 mX5_asNumber 1 := ⟨⟨q379, q277⟩, ⟨q1, q278, ⟨by decide +kernel, by decide +kernel, by decide +kernel⟩, by decide +kernel, by decide⟩⟩
theorem kX5_97 : CaV RX5 97 mX4_isTrough 1 4 := ⟨⟨q380, q381, q382⟩, ⟨q2, q383, ⟨by decide +kernel, by decide +kernel, by decide +kernel⟩, by decide +kernel, by decide⟩, _, rfl, rfl⟩
theorem pX5_100 : Fp RX5 100 4 5 .int false := ⟨_, rfl, by decide, q106, rfl, by decide +kernel, fun h => Bool.noConfusion h⟩
theorem fX5_100 : Fl RX5 100 4 5 := ⟨_, rfl, by decide, q106⟩
theorem fX5_104 : Fl RX5 104 4 3 := ⟨_, rfl, by decide, q102⟩
theorem fX5_108 : Fl RX5 108 3 0 := ⟨_, rfl, by decide, q44⟩
theorem fX5_113 : Fl RX5 113 3 1 := ⟨_, rfl, by decide, q47⟩
theorem fX5_116 : Fl RX5 116 3 2 := ⟨_, rfl, by decide, q50⟩
theorem pX5_119 : Fp RX5 119 3 3 .int false := ⟨_, rfl, by decide, q53, rfl, by decide +kernel, fun h => Bool.noConfusion h⟩
theorem fX5_119 : Fl RX5 119 3 3 := ⟨_, rfl, by decide, q53⟩
theorem fX5_122 : Fl RX5 122 3 4 := ⟨_, rfl, by decide, q56⟩
theorem fX5_125 : Fl RX5 125 3 5 := ⟨_, rfl, by decide, q59⟩
theorem fX5_129 : Fl RX5 129 4 7 := ⟨_, rfl, by decide, q110⟩
theorem kX5_132 : CaV RX5 132 mX3_pushAt 1 3 := ⟨⟨q388, q320, q321⟩, ⟨q3, q322, ⟨by decide +kernel, by decide +kernel, by decide +kernel⟩, by decide +kernel, by decide⟩, _, rfl, rfl⟩
theorem fX5_135 : Fl RX5 135 4 6 := ⟨_, rfl, by decide, q108⟩
theorem fX5_138 : Fl RX5 138 4 4 := ⟨_, rfl, by decide, q104⟩
theorem fX5_142 : Fl RX5 142 0 1 := ⟨_, rfl, by decide, q82⟩
theorem fX5_145 : Fl RX5 145 0 2 := ⟨_, rfl, by decide, q84⟩
theorem kX5_148 : CaV RX5 148 mX0_greatest 0 0 := ⟨⟨q405, q406, q407⟩, ⟨q4, q408, ⟨by decide +kernel, by decide +kernel, by decide +kernel⟩, by decide +kernel, by decide⟩, _, rfl, rfl⟩
theorem kX5_152 : CaV RX5 152 mX0_least 0 0 := ⟨⟨q411, q412, q413⟩, ⟨q4, q414, ⟨by decide +kernel, by decide +kernel, by decide +kernel⟩, by decide +kernel, by decide⟩, _, rfl, rfl⟩
theorem kX5_155 : CaV RX5 155 mX0_rises 0 0 := ⟨⟨q415, q416, q417⟩, ⟨q4, q418, ⟨by decide +kernel, by decide +kernel, by decide +kernel⟩, by decide +kernel, by decide⟩, _, rfl, rfl⟩
theorem kX5_158 : CaV RX5 158 mX0_levelAgo 1 0 := ⟨⟨q394, q395, q396⟩, ⟨q4, q397, ⟨by decide +kernel, by decide +kernel, by decide +kernel⟩, by decide +kernel, by decide⟩, _, rfl, rfl⟩
theorem kX5_163 : CaV RX5 163 mX4_cellsThatAre 1 4 := ⟨⟨q424, q425, q426⟩, ⟨q2, q427, ⟨by decide +kernel, by decide +kernel, by decide +kernel⟩, by decide +kernel, by decide⟩, _, rfl, rfl⟩
theorem kX5_167 : CaS RX5 167 mJ13_bitCount_95d88 1 := ⟨⟨q438, q439⟩, ⟨q9, q440, ⟨by decide +kernel, by decide +kernel, by decide +kernel⟩, by decide +kernel, by decide⟩⟩
theorem kX5_173 : CaV RX5 173 mX4_sumOfLevels 0 4 := ⟨⟨q444, q445, q446⟩, ⟨q2, q447, ⟨by decide +kernel, by decide +kernel, by decide +kernel⟩, by decide +kernel, by decide⟩, _, rfl, rfl⟩
theorem kX5_177 : CaV RX5 177 mX4_motion 0 4 := ⟨⟨q449, q450, q451⟩, ⟨q2, q452, ⟨by decide +kernel, by decide +kernel, by decide +kernel⟩, by decide +kernel, by decide⟩, _, rfl, rfl⟩
theorem kX5_180 : CaV RX5 180 mX4_farthestLevel 0 4 := ⟨⟨q453, q454, q455⟩, ⟨q2, q456, ⟨by decide +kernel, by decide +kernel, by decide +kernel⟩, by decide +kernel, by decide⟩, _, rfl, rfl⟩
theorem kX5_183 : CaV RX5 183 mX4_lastUnevenCell 0 4 := ⟨⟨q458, q459, q460⟩, ⟨q2, q461, ⟨by decide +kernel, by decide +kernel, by decide +kernel⟩, by decide +kernel, by decide⟩, _, rfl, rfl⟩
theorem fX5_186 : Fl RX5 186 4 0 := ⟨_, rfl, by decide, q96⟩
theorem fX5_189 : Fl RX5 189 2 1 := ⟨_, rfl, by decide, q135⟩
theorem fX5_192 : Fl RX5 192 1 1 := ⟨_, rfl, by decide, q167⟩
theorem kX5_195 : CaS RX5 195 mJ9_abs_0f7a4 1 := ⟨⟨q473, q317⟩, ⟨q8, q318, ⟨by decide +kernel, by decide +kernel, by decide +kernel⟩, by decide +kernel, by decide⟩⟩
theorem kX5_200 : CaV RX5 200 mX4_step 0 4 := ⟨⟨q474, q309, q310⟩, ⟨q2, q311, ⟨by decide +kernel, by decide +kernel, by decide +kernel⟩, by decide +kernel, by decide⟩, _, rfl, rfl⟩
theorem kX5_203 : CaV RX5 203 mX5_peakWithPeriod 4 5 := ⟨⟨q487, q489, (inWS (List.mem_of_getElem? (i := 1) (by decide +kernel)) (by decide +kernel))⟩, ⟨q1, q490, ⟨by decide +kernel, by decide +kernel, by decide +kernel⟩, by decide +kernel, by decide⟩, _, rfl, rfl⟩
theorem kX5_207 : CaS RX5 207 mJ9_max_7cf53 2 := ⟨⟨q334, q335⟩, ⟨q8, q336, ⟨by decide +kernel, by decide +kernel, by decide +kernel⟩, by decide +kernel, by decide⟩⟩
theorem kX5_210 : CaV RX5 210 mX4_isCalm 0 4 := ⟨⟨q479, q480, q481⟩, ⟨q2, q482, ⟨by decide +kernel, by decide +kernel, by decide +kernel⟩, by decide +kernel, by decide⟩, _, rfl, rfl⟩
theorem kX5_251 : CaS RX5 251 mJ9_min_7cf53 2 := ⟨⟨q333, q324⟩, ⟨q8, q325, ⟨by decide +kernel, by decide +kernel, by decide +kernel⟩, by decide +kernel, by decide⟩⟩
theorem pX0_9 : Fp RX0 9 0 0 (.array .int) true := ⟨_, rfl, by decide, q79, rfl, by decide +kernel, fun _ => rfl⟩
theorem fX0_9 : Fl RX0 9 0 0 := ⟨_, rfl, by decide, q79⟩
theorem pX0_21 : Fp RX0 21 0 1 .int false := ⟨_, rfl, by decide, q80, rfl, by decide +kernel, fun h => Bool.noConfusion h⟩
theorem fX0_21 : Fl RX0 21 0 1 := ⟨_, rfl, by decide, q80⟩
theorem pX0_25 : Fp RX0 25 0 2 .int false := ⟨_, rfl, by decide, q83, rfl, by decide +kernel, fun h => Bool.noConfusion h⟩
theorem fX0_25 : Fl RX0 25 0 2 := ⟨_, rfl, by decide, q83⟩
theorem pX0_28 : Fp RX0 28 0 3 .int false := ⟨_, rfl, by decide, q85, rfl, by decide +kernel, fun h => Bool.noConfusion h⟩
theorem fX0_28 : Fl RX0 28 0 3 := ⟨_, rfl, by decide, q85⟩
theorem kX0_31 : CaS RX0 31 mJ9_min_7cf53 2 := ⟨⟨q345, q324⟩, ⟨q8, q325, ⟨by decide +kernel, by decide +kernel, by decide +kernel⟩, by decide +kernel, by decide⟩⟩
theorem kX0_37 : CaS RX0 37 mJ9_floorMod_7cf53 2 := ⟨⟨q398, q399⟩, ⟨q8, q400, ⟨by decide +kernel, by decide +kernel, by decide +kernel⟩, by decide +kernel, by decide⟩⟩
theorem kX0_40 : CaV RX0 40 mX0_levelAgo 1 0 := ⟨⟨q409, q395, q396⟩, ⟨q4, q397, ⟨by decide +kernel, by decide +kernel, by decide +kernel⟩, by decide +kernel, by decide⟩, _, rfl, rfl⟩
theorem kX0_44 : CaS RX0 44 mJ9_max_7cf53 2 := ⟨⟨q410, q335⟩, ⟨q8, q336, ⟨by decide +kernel, by decide +kernel, by decide +kernel⟩, by decide +kernel, by decide⟩⟩
theorem pX1_11 : Fp RX1 11 1 0 (.array (.object "PaddleRows$Tank")) true := ⟨_, rfl, by decide, q165, rfl, by decide +kernel, fun _ => rfl⟩
theorem fX1_11 : Fl RX1 11 1 0 := ⟨_, rfl, by decide, q165⟩
theorem kX1_17 : CaI RX1 17 mX4_init := ⟨⟨q164, q21⟩, rfl, rfl, ⟨q2, q22, ⟨by decide +kernel, by decide +kernel, by decide +kernel⟩, by decide +kernel, by decide⟩⟩
theorem pX1_18 : Fp RX1 18 1 1 .int false := ⟨_, rfl, by decide, q166, rfl, by decide +kernel, fun h => Bool.noConfusion h⟩
theorem fX1_18 : Fl RX1 18 1 1 := ⟨_, rfl, by decide, q166⟩
theorem kX1_22 : CaV RX1 22 mX1_dropOldest 0 1 := ⟨⟨q235, q236, q237⟩, ⟨q6, q238, ⟨by decide +kernel, by decide +kernel, by decide +kernel⟩, by decide +kernel, by decide⟩, _, rfl, rfl⟩
theorem kX1_25 : CaV RX1 25 mX4_copyFrom 1 4 := ⟨⟨q239, q201, q202⟩, ⟨q2, q203, ⟨by decide +kernel, by decide +kernel, by decide +kernel⟩, by decide +kernel, by decide⟩, _, rfl, rfl⟩
theorem pX2_9 : Fp RX2 9 2 0 (.array .char) true := ⟨_, rfl, by decide, q134, rfl, by decide +kernel, fun _ => rfl⟩
theorem pX3_9 : Fp RX3 9 3 3 .int false := ⟨_, rfl, by decide, q51, rfl, by decide +kernel, fun h => Bool.noConfusion h⟩
theorem fX3_9 : Fl RX3 9 3 3 := ⟨_, rfl, by decide, q51⟩
theorem pX3_15 : Fp RX3 15 3 0 .int false := ⟨_, rfl, by decide, q42, rfl, by decide +kernel, fun h => Bool.noConfusion h⟩
theorem fX3_15 : Fl RX3 15 3 0 := ⟨_, rfl, by decide, q42⟩
theorem pX3_18 : Fp RX3 18 3 1 .int false := ⟨_, rfl, by decide, q45, rfl, by decide +kernel, fun h => Bool.noConfusion h⟩
theorem fX3_18 : Fl RX3 18 3 1 := ⟨_, rfl, by decide, q45⟩
theorem pX3_21 : Fp RX3 21 3 2 .int false := ⟨_, rfl, by decide, q48, rfl, by decide +kernel, fun h => Bool.noConfusion h⟩
theorem fX3_21 : Fl RX3 21 3 2 := ⟨_, rfl, by decide, q48⟩
theorem pX3_24 : Fp RX3 24 3 4 .int false := ⟨_, rfl, by decide, q54, rfl, by decide +kernel, fun h => Bool.noConfusion h⟩
theorem fX3_24 : Fl RX3 24 3 4 := ⟨_, rfl, by decide, q54⟩
theorem pX3_27 : Fp RX3 27 3 5 .boolean false := ⟨_, rfl, by decide, q57, rfl, by decide +kernel, fun h => Bool.noConfusion h⟩
theorem fX3_27 : Fl RX3 27 3 5 := ⟨_, rfl, by decide, q57⟩
theorem kX3_31 : CaSN RX3 31 mX5_isOutside 2 := ⟨⟨RX5, List.mem_filter.mpr ⟨List.mem_of_getElem? (i := 251) (by decide +kernel), rfl⟩⟩, q221, ⟨q1, q222, ⟨by decide +kernel, by decide +kernel, by decide +kernel⟩, by decide +kernel, by decide⟩⟩
theorem kX3_35 : CaS RX3 35 mJ9_min_7cf53 2 := ⟨⟨q323, q324⟩, ⟨q8, q325, ⟨by decide +kernel, by decide +kernel, by decide +kernel⟩, by decide +kernel, by decide⟩⟩
theorem pX4_18 : Fp RX4 18 4 0 (.array .int) true := ⟨_, rfl, by decide, q95, rfl, by decide +kernel, fun _ => rfl⟩
theorem fX4_18 : Fl RX4 18 4 0 := ⟨_, rfl, by decide, q95⟩
theorem pX4_23 : Fp RX4 23 4 1 (.array .int) true := ⟨_, rfl, by decide, q97, rfl, by decide +kernel, fun _ => rfl⟩
theorem fX4_23 : Fl RX4 23 4 1 := ⟨_, rfl, by decide, q97⟩
theorem pX4_26 : Fp RX4 26 4 2 (.array .int) true := ⟨_, rfl, by decide, q99, rfl, by decide +kernel, fun _ => rfl⟩
theorem fX4_26 : Fl RX4 26 4 2 := ⟨_, rfl, by decide, q99⟩
theorem pX4_31 : Fp RX4 31 4 3 (.array (.object "PaddleRows$Paddle")) true := ⟨_, rfl, by decide, q101, rfl, by decide +kernel, fun _ => rfl⟩
theorem fX4_31 : Fl RX4 31 4 3 := ⟨_, rfl, by decide, q101⟩
theorem pX4_37 : Fp RX4 37 4 4 (.array (.object "PaddleRows$Gauge")) true := ⟨_, rfl, by decide, q103, rfl, by decide +kernel, fun _ => rfl⟩
theorem fX4_37 : Fl RX4 37 4 4 := ⟨_, rfl, by decide, q103⟩
theorem kX4_41 : CaIN RX4 41 mX3_init := ⟨⟨RX5, List.mem_filter.mpr ⟨List.mem_of_getElem? (i := 38) (by decide +kernel), rfl⟩⟩, q39, rfl, rfl, ⟨q3, q40, ⟨by decide +kernel, by decide +kernel, by decide +kernel⟩, by decide +kernel, by decide⟩⟩
theorem kX4_42 : CaIN RX4 42 mX0_init := ⟨⟨RX5, List.mem_filter.mpr ⟨List.mem_of_getElem? (i := 75) (by decide +kernel), rfl⟩⟩, q76, rfl, rfl, ⟨q4, q77, ⟨by decide +kernel, by decide +kernel, by decide +kernel⟩, by decide +kernel, by decide⟩⟩
theorem pX4_49 : Fp RX4 49 4 5 .int false := ⟨_, rfl, by decide, q105, rfl, by decide +kernel, fun h => Bool.noConfusion h⟩
theorem fX4_49 : Fl RX4 49 4 5 := ⟨_, rfl, by decide, q105⟩
theorem kX4_53 : CaV RX4 53 mX3_copyFrom 1 3 := ⟨⟨q207, q208, q209⟩, ⟨q3, q210, ⟨by decide +kernel, by decide +kernel, by decide +kernel⟩, by decide +kernel, by decide⟩, _, rfl, rfl⟩
theorem pX4_57 : Fp RX4 57 4 6 .int false := ⟨_, rfl, by decide, q107, rfl, by decide +kernel, fun h => Bool.noConfusion h⟩
theorem fX4_57 : Fl RX4 57 4 6 := ⟨_, rfl, by decide, q107⟩
theorem kX4_60 : CaV RX4 60 mX0_copyFrom 1 0 := ⟨⟨q211, q212, q213⟩, ⟨q4, q214, ⟨by decide +kernel, by decide +kernel, by decide +kernel⟩, by decide +kernel, by decide⟩, _, rfl, rfl⟩
theorem pX4_63 : Fp RX4 63 4 7 .int false := ⟨_, rfl, by decide, q109, rfl, by decide +kernel, fun h => Bool.noConfusion h⟩
theorem fX4_63 : Fl RX4 63 4 7 := ⟨_, rfl, by decide, q109⟩
theorem kX4_66 : CaSN RX4 66 mX5_isOutside 2 := ⟨⟨RX5, List.mem_filter.mpr ⟨List.mem_of_getElem? (i := 220) (by decide +kernel), rfl⟩⟩, q221, ⟨q1, q222, ⟨by decide +kernel, by decide +kernel, by decide +kernel⟩, by decide +kernel, by decide⟩⟩
theorem kX4_76 : CaS RX4 76 mX3_isRecipe 4 := ⟨⟨q248, q249⟩, ⟨q3, q250, ⟨by decide +kernel, by decide +kernel, by decide +kernel⟩, by decide +kernel, by decide⟩⟩
theorem kX4_80 : CaV RX4 80 mX4_rankIn 1 4 := ⟨⟨q252, q253, q254⟩, ⟨q2, q255, ⟨by decide +kernel, by decide +kernel, by decide +kernel⟩, by decide +kernel, by decide⟩, _, rfl, rfl⟩
theorem kX4_84 : CaV RX4 84 mX4_openRank 1 4 := ⟨⟨q256, q257, q258⟩, ⟨q2, q259, ⟨by decide +kernel, by decide +kernel, by decide +kernel⟩, by decide +kernel, by decide⟩, _, rfl, rfl⟩
theorem pX4_87 : Fp RX4 87 3 0 .int false := ⟨_, rfl, by decide, q43, rfl, by decide +kernel, fun h => Bool.noConfusion h⟩
theorem fX4_87 : Fl RX4 87 3 0 := ⟨_, rfl, by decide, q43⟩
theorem pX4_90 : Fp RX4 90 3 1 .int false := ⟨_, rfl, by decide, q46, rfl, by decide +kernel, fun h => Bool.noConfusion h⟩
theorem pX4_93 : Fp RX4 93 3 2 .int false := ⟨_, rfl, by decide, q49, rfl, by decide +kernel, fun h => Bool.noConfusion h⟩
theorem pX4_96 : Fp RX4 96 3 3 .int false := ⟨_, rfl, by decide, q52, rfl, by decide +kernel, fun h => Bool.noConfusion h⟩
theorem pX4_99 : Fp RX4 99 3 4 .int false := ⟨_, rfl, by decide, q55, rfl, by decide +kernel, fun h => Bool.noConfusion h⟩
theorem pX4_102 : Fp RX4 102 3 5 .boolean false := ⟨_, rfl, by decide, q58, rfl, by decide +kernel, fun h => Bool.noConfusion h⟩
theorem fX4_102 : Fl RX4 102 3 5 := ⟨_, rfl, by decide, q58⟩
theorem kX4_106 : CaSN RX4 106 mX5_asNumber 1 := ⟨⟨RX5, List.mem_filter.mpr ⟨List.mem_of_getElem? (i := 276) (by decide +kernel), rfl⟩⟩, q277, ⟨q1, q278, ⟨by decide +kernel, by decide +kernel, by decide +kernel⟩, by decide +kernel, by decide⟩⟩
theorem kX4_110 : CaV RX4 110 mX0_startIn 1 0 := ⟨⟨q287, q288, q289⟩, ⟨q4, q290, ⟨by decide +kernel, by decide +kernel, by decide +kernel⟩, by decide +kernel, by decide⟩, _, rfl, rfl⟩
theorem kX4_115 : CaV RX4 115 mX4_step 0 4 := ⟨⟨q308, q309, q310⟩, ⟨q2, q311, ⟨by decide +kernel, by decide +kernel, by decide +kernel⟩, by decide +kernel, by decide⟩, _, rfl, rfl⟩
theorem kX4_119 : CaV RX4 119 mX4_movePaddles 0 4 := ⟨⟨q312, q313, q314⟩, ⟨q2, q315, ⟨by decide +kernel, by decide +kernel, by decide +kernel⟩, by decide +kernel, by decide⟩, _, rfl, rfl⟩
theorem kX4_122 : CaV RX4 122 mX4_moveWater 0 4 := ⟨⟨q326, q327, q328⟩, ⟨q2, q329, ⟨by decide +kernel, by decide +kernel, by decide +kernel⟩, by decide +kernel, by decide⟩, _, rfl, rfl⟩
theorem kX4_125 : CaV RX4 125 mX4_calmBeach 0 4 := ⟨⟨q337, q338, q339⟩, ⟨q2, q340, ⟨by decide +kernel, by decide +kernel, by decide +kernel⟩, by decide +kernel, by decide⟩, _, rfl, rfl⟩
theorem fX4_128 : Fl RX4 128 0 1 := ⟨_, rfl, by decide, q81⟩
theorem kX4_129 : CaV RX4 129 mX0_note 1 0 := ⟨⟨q341, q342, q343⟩, ⟨q4, q344, ⟨by decide +kernel, by decide +kernel, by decide +kernel⟩, by decide +kernel, by decide⟩, _, rfl, rfl⟩
theorem kX4_132 : CaS RX4 132 mJ9_abs_0f7a4 1 := ⟨⟨q316, q317⟩, ⟨q8, q318, ⟨by decide +kernel, by decide +kernel, by decide +kernel⟩, by decide +kernel, by decide⟩⟩
theorem kX4_137 : CaV RX4 137 mX3_pushAt 1 3 := ⟨⟨q319, q320, q321⟩, ⟨q3, q322, ⟨by decide +kernel, by decide +kernel, by decide +kernel⟩, by decide +kernel, by decide⟩, _, rfl, rfl⟩
theorem kX4_140 : CaSN RX4 140 mX5_withinBounds 1 := ⟨⟨RX5, List.mem_filter.mpr ⟨List.mem_of_getElem? (i := 330) (by decide +kernel), rfl⟩⟩, q331, ⟨q1, q332, ⟨by decide +kernel, by decide +kernel, by decide +kernel⟩, by decide +kernel, by decide⟩⟩
theorem kX4_143 : CaV RX4 143 mX4_isPlace 2 4 := ⟨⟨q428, q429, q430⟩, ⟨q2, q431, ⟨by decide +kernel, by decide +kernel, by decide +kernel⟩, by decide +kernel, by decide⟩, _, rfl, rfl⟩
theorem kX4_146 : CaV RX4 146 mX4_isCrest 1 4 := ⟨⟨q432, q376, q377⟩, ⟨q2, q378, ⟨by decide +kernel, by decide +kernel, by decide +kernel⟩, by decide +kernel, by decide⟩, _, rfl, rfl⟩
theorem kX4_150 : CaV RX4 150 mX4_isTrough 1 4 := ⟨⟨q433, q381, q382⟩, ⟨q2, q383, ⟨by decide +kernel, by decide +kernel, by decide +kernel⟩, by decide +kernel, by decide⟩, _, rfl, rfl⟩
theorem kX4_153 : CaS RX4 153 mJ9_max_7cf53 2 := ⟨⟨q457, q335⟩, ⟨q8, q336, ⟨by decide +kernel, by decide +kernel, by decide +kernel⟩, by decide +kernel, by decide⟩⟩
theorem kL_10 : CaS RL 10 mL_abs 1 := ⟨⟨q358, q359⟩, ⟨q0, q360, ⟨by decide +kernel, by decide +kernel, by decide +kernel⟩, by decide +kernel, by decide⟩⟩
theorem kL_16 : CaS RL 16 mL_push 3 := ⟨⟨q361, q362⟩, ⟨q0, q363, ⟨by decide +kernel, by decide +kernel, by decide +kernel⟩, by decide +kernel, by decide⟩⟩
theorem kL_20 : CaS RL 20 mL_bound 1 := ⟨⟨q364, q365⟩, ⟨q0, q366, ⟨by decide +kernel, by decide +kernel, by decide +kernel⟩, by decide +kernel, by decide⟩⟩
theorem kL_23 : CaV RL 23 mX5_cell 2 5 := ⟨⟨q370, q371, q372⟩, ⟨q1, q373, ⟨by decide +kernel, by decide +kernel, by decide +kernel⟩, by decide +kernel, by decide⟩, _, rfl, rfl⟩
theorem kL_29 : CaV RL 29 mX5_ofPaddle 2 5 := ⟨⟨q384, q385, q386⟩, ⟨q1, q387, ⟨by decide +kernel, by decide +kernel, by decide +kernel⟩, by decide +kernel, by decide⟩, _, rfl, rfl⟩
theorem kL_33 : CaV RL 33 mX5_noted 2 5 := ⟨⟨q390, q391, q392⟩, ⟨q1, q393, ⟨by decide +kernel, by decide +kernel, by decide +kernel⟩, by decide +kernel, by decide⟩, _, rfl, rfl⟩
theorem kL_36 : CaV RL 36 mX5_ofGauge 2 5 := ⟨⟨q401, q402, q403⟩, ⟨q1, q404, ⟨by decide +kernel, by decide +kernel, by decide +kernel⟩, by decide +kernel, by decide⟩, _, rfl, rfl⟩
theorem kL_39 : CaV RL 39 mX5_places 1 5 := ⟨⟨q419, q420, q421⟩, ⟨q1, q422, ⟨by decide +kernel, by decide +kernel, by decide +kernel⟩, by decide +kernel, by decide⟩, _, rfl, rfl⟩
theorem kL_43 : CaV RL 43 mX5_count 1 5 := ⟨⟨q434, q435, q436⟩, ⟨q1, q437, ⟨by decide +kernel, by decide +kernel, by decide +kernel⟩, by decide +kernel, by decide⟩, _, rfl, rfl⟩
theorem kL_47 : CaS RL 47 mL_low 2 := ⟨⟨q351, q352⟩, ⟨q0, q353, ⟨by decide +kernel, by decide +kernel, by decide +kernel⟩, by decide +kernel, by decide⟩⟩
theorem kL_50 : CaS RL 50 mL_copy 3 := ⟨⟨q466, q467⟩, ⟨q0, q468, ⟨by decide +kernel, by decide +kernel, by decide +kernel⟩, by decide +kernel, by decide⟩⟩
theorem kL_54 : CaS RL 54 mL_step 5 := ⟨⟨q355, q356⟩, ⟨q0, q357, ⟨by decide +kernel, by decide +kernel, by decide +kernel⟩, by decide +kernel, by decide⟩⟩
theorem kL_58 : CaV RL 58 mX5_reaches 2 5 := ⟨⟨q469, q470, q471⟩, ⟨q1, q472, ⟨by decide +kernel, by decide +kernel, by decide +kernel⟩, by decide +kernel, by decide⟩, _, rfl, rfl⟩
theorem kL_61 : CaV RL 61 mX5_calmIn 0 5 := ⟨⟨q475, q476, q477⟩, ⟨q1, q478, ⟨by decide +kernel, by decide +kernel, by decide +kernel⟩, by decide +kernel, by decide⟩, _, rfl, rfl⟩
theorem kL_65 : CaV RL 65 mX5_bestPeriod 4 5 := ⟨⟨q483, q484, q485⟩, ⟨q1, q486, ⟨by decide +kernel, by decide +kernel, by decide +kernel⟩, by decide +kernel, by decide⟩, _, rfl, rfl⟩
theorem kL_69 : CaI RL 69 mX5_init := ⟨⟨q12, q13⟩, rfl, rfl, ⟨q1, q14, ⟨by decide +kernel, by decide +kernel, by decide +kernel⟩, by decide +kernel, by decide⟩⟩
theorem kL_70 : CaS RL 70 mL_cell 2 := ⟨⟨q346, q347⟩, ⟨q0, q348, ⟨by decide +kernel, by decide +kernel, by decide +kernel⟩, by decide +kernel, by decide⟩⟩
theorem kL_73 : CaV RL 73 mX5_paddle 5 5 := ⟨⟨q240, q241, q242⟩, ⟨q1, q243, ⟨by decide +kernel, by decide +kernel, by decide +kernel⟩, by decide +kernel, by decide⟩, _, rfl, rfl⟩
theorem kL_77 : CaV RL 77 mX5_pass 1 5 := ⟨⟨q299, q300, q301⟩, ⟨q1, q302, ⟨by decide +kernel, by decide +kernel, by decide +kernel⟩, by decide +kernel, by decide⟩, _, rfl, rfl⟩
theorem kL_80 : CaV RL 80 mX5_level 2 5 := ⟨⟨q291, q292, q293⟩, ⟨q1, q294, ⟨by decide +kernel, by decide +kernel, by decide +kernel⟩, by decide +kernel, by decide⟩, _, rfl, rfl⟩
theorem kL_83 : CaV RL 83 mX5_gauge 1 5 := ⟨⟨q279, q280, q281⟩, ⟨q1, q282, ⟨by decide +kernel, by decide +kernel, by decide +kernel⟩, by decide +kernel, by decide⟩, _, rfl, rfl⟩
theorem kL_86 : CaV RL 86 mX5_again 1 5 := ⟨⟨q268, q269, q270⟩, ⟨q1, q271, ⟨by decide +kernel, by decide +kernel, by decide +kernel⟩, by decide +kernel, by decide⟩, _, rfl, rfl⟩
theorem kL_89 : CaV RL 89 mX5_lift 1 5 := ⟨⟨q260, q261, q262⟩, ⟨q1, q263, ⟨by decide +kernel, by decide +kernel, by decide +kernel⟩, by decide +kernel, by decide⟩, _, rfl, rfl⟩
theorem kL_92 : CaV RL 92 mX5_set 2 5 := ⟨⟨q196, q197, q198⟩, ⟨q1, q199, ⟨by decide +kernel, by decide +kernel, by decide +kernel⟩, by decide +kernel, by decide⟩, _, rfl, rfl⟩
theorem kL_95 : CaSB RL 95 mL_same 9 := ⟨⟨q367, q368⟩, q0, q369, ⟨by decide +kernel, by decide +kernel, by decide +kernel⟩, by decide +kernel⟩
theorem kL_99 : CaSB RL 99 mL_would 12 := ⟨⟨q463, q464⟩, q0, q465, ⟨by decide +kernel, by decide +kernel, by decide +kernel⟩, by decide +kernel⟩
section ARITY
variable {γ : Gm} {l : Launch} {y z : Mt} {d dz nE nX pc n n' idx : Nat} {L : List (Option Value)} {S : List Value} {M : Mm} {R : Rm} {K : Option Value → Nat → Mm → Rm → Prop} {v1 v2 v3 v4 v5 v6 v7 v8 v9 v10 v11 v12 : Value}
theorem wp_cV0 {b ci : Nat} (hc : CaV y.1.cls idx z 0 ci) (hd : decode y.2.1 pc = .ok (.invokevirtual idx, 3)) (hiL : (iL []).length + 1 ≤ z.2.2.1) (hdz : dz + 1 ≤ d) (ht : tg b = ci) (hb : b < n) (hS : S.length ≤ 4) (hn : n ≤ n') (hnX : n' ≤ nX) (kk : CL γ l z dz n n' [.ref b] M R (kAft γ l y d nE nX pc L S K)) : WP γ l y d nE nX pc L (.ref b :: S) n M R K := wp_callV (As := []) hc hd rfl hiL hdz ht hb hS hn hnX kk
theorem wp_cS0 (hc : CaS y.1.cls idx z 0) (hd : decode y.2.1 pc = .ok (.invokestatic idx, 3)) (hiL : (iL []).length ≤ z.2.2.1) (hdz : dz + 1 ≤ d) (hS : S.length ≤ 4) (hn : n ≤ n') (hnX : n' ≤ nX) (kk : CL γ l z dz n n' [] M R (kAft γ l y d nE nX pc L S K)) : WP γ l y d nE nX pc L (S) n M R K := wp_callS (As := []) hc hd rfl hiL hdz hS hn hnX kk
theorem wp_cT0 (hc : CaSN y.1.cls idx z 0) (hd : decode y.2.1 pc = .ok (.invokestatic idx, 3)) (hiL : (iL []).length ≤ z.2.2.1) (hdz : dz + 1 ≤ d) (hS : S.length ≤ 4) (hn : n ≤ n') (hnX : n' ≤ nX) (kk : CL γ l z dz n n' [] M R (kAft γ l y d nE nX pc L S K)) : WP γ l y d nE nX pc L (S) n M R K := wp_callSN (As := []) hc hd rfl hiL hdz hS hn hnX kk
theorem wp_cV1 {b ci : Nat} (hc : CaV y.1.cls idx z 1 ci) (hd : decode y.2.1 pc = .ok (.invokevirtual idx, 3)) (hiL : (iL [v1]).length + 1 ≤ z.2.2.1) (hdz : dz + 1 ≤ d) (ht : tg b = ci) (hb : b < n) (hS : S.length ≤ 4) (hn : n ≤ n') (hnX : n' ≤ nX) (kk : CL γ l z dz n n' [.ref b, v1] M R (kAft γ l y d nE nX pc L S K)) : WP γ l y d nE nX pc L (v1 :: .ref b :: S) n M R K := wp_callV (As := [v1]) hc hd rfl hiL hdz ht hb hS hn hnX kk
theorem wp_cS1 (hc : CaS y.1.cls idx z 1) (hd : decode y.2.1 pc = .ok (.invokestatic idx, 3)) (hiL : (iL [v1]).length ≤ z.2.2.1) (hdz : dz + 1 ≤ d) (hS : S.length ≤ 4) (hn : n ≤ n') (hnX : n' ≤ nX) (kk : CL γ l z dz n n' [v1] M R (kAft γ l y d nE nX pc L S K)) : WP γ l y d nE nX pc L (v1 :: S) n M R K := wp_callS (As := [v1]) hc hd rfl hiL hdz hS hn hnX kk
theorem wp_cT1 (hc : CaSN y.1.cls idx z 1) (hd : decode y.2.1 pc = .ok (.invokestatic idx, 3)) (hiL : (iL [v1]).length ≤ z.2.2.1) (hdz : dz + 1 ≤ d) (hS : S.length ≤ 4) (hn : n ≤ n') (hnX : n' ≤ nX) (kk : CL γ l z dz n n' [v1] M R (kAft γ l y d nE nX pc L S K)) : WP γ l y d nE nX pc L (v1 :: S) n M R K := wp_callSN (As := [v1]) hc hd rfl hiL hdz hS hn hnX kk
theorem wp_cV2 {b ci : Nat} (hc : CaV y.1.cls idx z 2 ci) (hd : decode y.2.1 pc = .ok (.invokevirtual idx, 3)) (hiL : (iL [v1, v2]).length + 1 ≤ z.2.2.1) (hdz : dz + 1 ≤ d) (ht : tg b = ci) (hb : b < n) (hS : S.length ≤ 4) (hn : n ≤ n') (hnX : n' ≤ nX) (kk : CL γ l z dz n n' [.ref b, v1, v2] M R (kAft γ l y d nE nX pc L S K)) : WP γ l y d nE nX pc L (v2 :: v1 :: .ref b :: S) n M R K := wp_callV (As := [v1, v2]) hc hd rfl hiL hdz ht hb hS hn hnX kk
theorem wp_cS2 (hc : CaS y.1.cls idx z 2) (hd : decode y.2.1 pc = .ok (.invokestatic idx, 3)) (hiL : (iL [v1, v2]).length ≤ z.2.2.1) (hdz : dz + 1 ≤ d) (hS : S.length ≤ 4) (hn : n ≤ n') (hnX : n' ≤ nX) (kk : CL γ l z dz n n' [v1, v2] M R (kAft γ l y d nE nX pc L S K)) : WP γ l y d nE nX pc L (v2 :: v1 :: S) n M R K := wp_callS (As := [v1, v2]) hc hd rfl hiL hdz hS hn hnX kk
theorem wp_cT2 (hc : CaSN y.1.cls idx z 2) (hd : decode y.2.1 pc = .ok (.invokestatic idx, 3)) (hiL : (iL [v1, v2]).length ≤ z.2.2.1) (hdz : dz + 1 ≤ d) (hS : S.length ≤ 4) (hn : n ≤ n') (hnX : n' ≤ nX) (kk : CL γ l z dz n n' [v1, v2] M R (kAft γ l y d nE nX pc L S K)) : WP γ l y d nE nX pc L (v2 :: v1 :: S) n M R K := wp_callSN (As := [v1, v2]) hc hd rfl hiL hdz hS hn hnX kk
theorem wp_cV3 {b ci : Nat} (hc : CaV y.1.cls idx z 3 ci) (hd : decode y.2.1 pc = .ok (.invokevirtual idx, 3)) (hiL : (iL [v1, v2, v3]).length + 1 ≤ z.2.2.1) (hdz : dz + 1 ≤ d) (ht : tg b = ci) (hb : b < n) (hS : S.length ≤ 4) (hn : n ≤ n') (hnX : n' ≤ nX) (kk : CL γ l z dz n n' [.ref b, v1, v2, v3] M R (kAft γ l y d nE nX pc L S K)) : WP γ l y d nE nX pc L (v3 :: v2 :: v1 :: .ref b :: S) n M R K := wp_callV (As := [v1, v2, v3]) hc hd rfl hiL hdz ht hb hS hn hnX kk
theorem wp_cS3 (hc : CaS y.1.cls idx z 3) (hd : decode y.2.1 pc = .ok (.invokestatic idx, 3)) (hiL : (iL [v1, v2, v3]).length ≤ z.2.2.1) (hdz : dz + 1 ≤ d) (hS : S.length ≤ 4) (hn : n ≤ n') (hnX : n' ≤ nX) (kk : CL γ l z dz n n' [v1, v2, v3] M R (kAft γ l y d nE nX pc L S K)) : WP γ l y d nE nX pc L (v3 :: v2 :: v1 :: S) n M R K := wp_callS (As := [v1, v2, v3]) hc hd rfl hiL hdz hS hn hnX kk
theorem wp_cT3 (hc : CaSN y.1.cls idx z 3) (hd : decode y.2.1 pc = .ok (.invokestatic idx, 3)) (hiL : (iL [v1, v2, v3]).length ≤ z.2.2.1) (hdz : dz + 1 ≤ d) (hS : S.length ≤ 4) (hn : n ≤ n') (hnX : n' ≤ nX) (kk : CL γ l z dz n n' [v1, v2, v3] M R (kAft γ l y d nE nX pc L S K)) : WP γ l y d nE nX pc L (v3 :: v2 :: v1 :: S) n M R K := wp_callSN (As := [v1, v2, v3]) hc hd rfl hiL hdz hS hn hnX kk
theorem wp_cV4 {b ci : Nat} (hc : CaV y.1.cls idx z 4 ci) (hd : decode y.2.1 pc = .ok (.invokevirtual idx, 3)) (hiL : (iL [v1, v2, v3, v4]).length + 1 ≤ z.2.2.1) (hdz : dz + 1 ≤ d) (ht : tg b = ci) (hb : b < n) (hS : S.length ≤ 4) (hn : n ≤ n') (hnX : n' ≤ nX) (kk : CL γ l z dz n n' [.ref b, v1, v2, v3, v4] M R (kAft γ l y d nE nX pc L S K)) : WP γ l y d nE nX pc L (v4 :: v3 :: v2 :: v1 :: .ref b :: S) n M R K := wp_callV (As := [v1, v2, v3, v4]) hc hd rfl hiL hdz ht hb hS hn hnX kk
theorem wp_cS4 (hc : CaS y.1.cls idx z 4) (hd : decode y.2.1 pc = .ok (.invokestatic idx, 3)) (hiL : (iL [v1, v2, v3, v4]).length ≤ z.2.2.1) (hdz : dz + 1 ≤ d) (hS : S.length ≤ 4) (hn : n ≤ n') (hnX : n' ≤ nX) (kk : CL γ l z dz n n' [v1, v2, v3, v4] M R (kAft γ l y d nE nX pc L S K)) : WP γ l y d nE nX pc L (v4 :: v3 :: v2 :: v1 :: S) n M R K := wp_callS (As := [v1, v2, v3, v4]) hc hd rfl hiL hdz hS hn hnX kk
theorem wp_cT4 (hc : CaSN y.1.cls idx z 4) (hd : decode y.2.1 pc = .ok (.invokestatic idx, 3)) (hiL : (iL [v1, v2, v3, v4]).length ≤ z.2.2.1) (hdz : dz + 1 ≤ d) (hS : S.length ≤ 4) (hn : n ≤ n') (hnX : n' ≤ nX) (kk : CL γ l z dz n n' [v1, v2, v3, v4] M R (kAft γ l y d nE nX pc L S K)) : WP γ l y d nE nX pc L (v4 :: v3 :: v2 :: v1 :: S) n M R K := wp_callSN (As := [v1, v2, v3, v4]) hc hd rfl hiL hdz hS hn hnX kk
theorem wp_cV5 {b ci : Nat} (hc : CaV y.1.cls idx z 5 ci) (hd : decode y.2.1 pc = .ok (.invokevirtual idx, 3)) (hiL : (iL [v1, v2, v3, v4, v5]).length + 1 ≤ z.2.2.1) (hdz : dz + 1 ≤ d) (ht : tg b = ci) (hb : b < n) (hS : S.length ≤ 4) (hn : n ≤ n') (hnX : n' ≤ nX) (kk : CL γ l z dz n n' [.ref b, v1, v2, v3, v4, v5] M R (kAft γ l y d nE nX pc L S K)) : WP γ l y d nE nX pc L (v5 :: v4 :: v3 :: v2 :: v1 :: .ref b :: S) n M R K := wp_callV (As := [v1, v2, v3, v4, v5]) hc hd rfl hiL hdz ht hb hS hn hnX kk
theorem wp_cS5 (hc : CaS y.1.cls idx z 5) (hd : decode y.2.1 pc = .ok (.invokestatic idx, 3)) (hiL : (iL [v1, v2, v3, v4, v5]).length ≤ z.2.2.1) (hdz : dz + 1 ≤ d) (hS : S.length ≤ 4) (hn : n ≤ n') (hnX : n' ≤ nX) (kk : CL γ l z dz n n' [v1, v2, v3, v4, v5] M R (kAft γ l y d nE nX pc L S K)) : WP γ l y d nE nX pc L (v5 :: v4 :: v3 :: v2 :: v1 :: S) n M R K := wp_callS (As := [v1, v2, v3, v4, v5]) hc hd rfl hiL hdz hS hn hnX kk
theorem wp_cT5 (hc : CaSN y.1.cls idx z 5) (hd : decode y.2.1 pc = .ok (.invokestatic idx, 3)) (hiL : (iL [v1, v2, v3, v4, v5]).length ≤ z.2.2.1) (hdz : dz + 1 ≤ d) (hS : S.length ≤ 4) (hn : n ≤ n') (hnX : n' ≤ nX) (kk : CL γ l z dz n n' [v1, v2, v3, v4, v5] M R (kAft γ l y d nE nX pc L S K)) : WP γ l y d nE nX pc L (v5 :: v4 :: v3 :: v2 :: v1 :: S) n M R K := wp_callSN (As := [v1, v2, v3, v4, v5]) hc hd rfl hiL hdz hS hn hnX kk
theorem wp_cS6 (hc : CaS y.1.cls idx z 6) (hd : decode y.2.1 pc = .ok (.invokestatic idx, 3)) (hiL : (iL [v1, v2, v3, v4, v5, v6]).length ≤ z.2.2.1) (hdz : dz + 1 ≤ d) (hS : S.length ≤ 4) (hn : n ≤ n') (hnX : n' ≤ nX) (kk : CL γ l z dz n n' [v1, v2, v3, v4, v5, v6] M R (kAft γ l y d nE nX pc L S K)) : WP γ l y d nE nX pc L (v6 :: v5 :: v4 :: v3 :: v2 :: v1 :: S) n M R K := wp_callS (As := [v1, v2, v3, v4, v5, v6]) hc hd rfl hiL hdz hS hn hnX kk
theorem wp_cB9 (hc : CaSB y.1.cls idx z 9) (hd : decode y.2.1 pc = .ok (.invokestatic idx, 3)) (hiL : (iL [v1, v2, v3, v4, v5, v6, v7, v8, v9]).length ≤ z.2.2.1) (hdz : dz + 1 ≤ d) (hml : 19 + z.2.2.1 + 34 * dz ≤ 34 * d) (hS : S.length ≤ 4) (hn : n ≤ n') (hnX : n' ≤ nX) (kk : CL γ l z dz n n' [v1, v2, v3, v4, v5, v6, v7, v8, v9] M R (kAft γ l y d nE nX pc L S K)) : WP γ l y d nE nX pc L (v9 :: v8 :: v7 :: v6 :: v5 :: v4 :: v3 :: v2 :: v1 :: S) n M R K := wp_callSB (As := [v1, v2, v3, v4, v5, v6, v7, v8, v9]) hc hd rfl hiL hdz hml hS hn hnX kk
theorem wp_cB12 (hc : CaSB y.1.cls idx z 12) (hd : decode y.2.1 pc = .ok (.invokestatic idx, 3)) (hiL : (iL [v1, v2, v3, v4, v5, v6, v7, v8, v9, v10, v11, v12]).length ≤ z.2.2.1) (hdz : dz + 1 ≤ d) (hml : 19 + z.2.2.1 + 34 * dz ≤ 34 * d) (hS : S.length ≤ 4) (hn : n ≤ n') (hnX : n' ≤ nX) (kk : CL γ l z dz n n' [v1, v2, v3, v4, v5, v6, v7, v8, v9, v10, v11, v12] M R (kAft γ l y d nE nX pc L S K)) : WP γ l y d nE nX pc L (v12 :: v11 :: v10 :: v9 :: v8 :: v7 :: v6 :: v5 :: v4 :: v3 :: v2 :: v1 :: S) n M R K := wp_callSB (As := [v1, v2, v3, v4, v5, v6, v7, v8, v9, v10, v11, v12]) hc hd rfl hiL hdz hml hS hn hnX kk
theorem wp_af {v : Value} (h : WP γ l y d nE nX (pc + 3) L (v :: S) n M R K) : kAft γ l y d nE nX pc L S K (some v) n M R := h
theorem wp_af0 (h : WP γ l y d nE nX (pc + 3) L S n M R K) : kAft γ l y d nE nX pc L S K none n M R := h
theorem wp_getQ {a ci k b : Nat} (hF : Fl y.1.cls idx ci k) (ht : tg a = ci) (hr : isR ci k = true) (e : R a k = b) (h0 : b ≠ 0) (ha : a < n) (hd : decode y.2.1 pc = .ok (.getfield idx, 3)) (kk : WP γ l y d nE nX (pc + 3) L (.ref b :: S) n M R K) : WP γ l y d nE nX pc L (.ref a :: S) n M R K := wp_getR hF ht hr (by rw [e]; exact h0) ha hd (by rw [e]; exact kk)
theorem wp_aalq {a i b : Nat} {x : Int32} (hx : x = nI i) (ht : 13 ≤ tg a ∧ tg a < 16) (hi : i < ln a) (e : R a i = b) (h0 : b ≠ 0) (ha : a < n) (hd : decode y.2.1 pc = .ok (.aaload, 1)) (kk : WP γ l y d nE nX (pc + 1) L (.ref b :: S) n M R K) : WP γ l y d nE nX pc L (.int x :: .ref a :: S) n M R K := wp_aald hx ht hi (by rw [e]; exact h0) ha hd (by rw [e]; exact kk)
end ARITY
