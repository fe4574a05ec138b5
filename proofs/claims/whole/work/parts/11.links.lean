/-! LINKS: by class and place in its constant pool -/
theorem kX5_9 : CaI RX5 9 mX4_init := ⟨⟨q21, q22⟩, rfl, rfl, ⟨q2, q23, ⟨by decide +kernel, by decide +kernel, by decide +kernel⟩, by decide +kernel, by decide⟩⟩
theorem pX5_10 : Fp RX5 10 5 0 (.object "PaddleRows$Tank") true := ⟨_, rfl, by decide, q189, rfl, by decide +kernel, fun _ => rfl⟩
theorem fX5_10 : Fl RX5 10 5 0 := ⟨_, rfl, by decide, q189⟩
theorem kX5_18 : CaIN RX5 18 mX2_init := ⟨⟨RX5, List.mem_filter.mpr ⟨List.mem_of_getElem? (i := 131) (by decide +kernel), rfl⟩⟩, q132, rfl, rfl, ⟨q5, q133, ⟨by decide +kernel, by decide +kernel, by decide +kernel⟩, by decide +kernel, by decide⟩⟩
theorem pX5_19 : Fp RX5 19 5 1 (.object "PaddleRows$Pad") true := ⟨_, rfl, by decide, q190, rfl, by decide +kernel, fun _ => rfl⟩
theorem fX5_19 : Fl RX5 19 5 1 := ⟨_, rfl, by decide, q190⟩
theorem kX5_25 : CaI RX5 25 mX1_init := ⟨⟨q174, q175⟩, rfl, rfl, ⟨q6, q176, ⟨by decide +kernel, by decide +kernel, by decide +kernel⟩, by decide +kernel, by decide⟩⟩
theorem pX5_26 : Fp RX5 26 5 2 (.object "PaddleRows$History") true := ⟨_, rfl, by decide, q191, rfl, by decide +kernel, fun _ => rfl⟩
theorem fX5_26 : Fl RX5 26 5 2 := ⟨_, rfl, by decide, q191⟩
theorem pX5_30 : Fp RX5 30 5 3 (.array (.object "PaddleRows$Tank")) true := ⟨_, rfl, by decide, q192, rfl, by decide +kernel, fun _ => rfl⟩
theorem fX5_30 : Fl RX5 30 5 3 := ⟨_, rfl, by decide, q192⟩
theorem pX5_34 : Fp RX5 34 5 4 (.array .boolean) true := ⟨_, rfl, by decide, q193, rfl, by decide +kernel, fun _ => rfl⟩
theorem fX5_34 : Fl RX5 34 5 4 := ⟨_, rfl, by decide, q193⟩
theorem pX5_38 : Fp RX5 38 5 5 (.object "PaddleRows$Tank") true := ⟨_, rfl, by decide, q194, rfl, by decide +kernel, fun _ => rfl⟩
theorem fX5_38 : Fl RX5 38 5 5 := ⟨_, rfl, by decide, q194⟩
theorem pX5_41 : Fp RX5 41 5 6 (.object "PaddleRows$Tank") true := ⟨_, rfl, by decide, q195, rfl, by decide +kernel, fun _ => rfl⟩
theorem fX5_41 : Fl RX5 41 5 6 := ⟨_, rfl, by decide, q195⟩
theorem kX5_44 : CaV RX5 44 mX4_copyFrom 1 4 := ⟨⟨q216, q217, q218⟩, ⟨q2, q219, ⟨by decide +kernel, by decide +kernel, by decide +kernel⟩, by decide +kernel, by decide⟩, _, rfl, rfl⟩
theorem kX5_48 : CaV RX5 48 mX4_changeSetting 2 4 := ⟨⟨q232, q233, q234⟩, ⟨q2, q235, ⟨by decide +kernel, by decide +kernel, by decide +kernel⟩, by decide +kernel, by decide⟩, _, rfl, rfl⟩
theorem kX5_52 : CaV RX5 52 mX5_recorded 1 5 := ⟨⟨q243, q245, (inWS (List.mem_of_getElem? (i := 0) (by decide +kernel)) (by decide +kernel))⟩, ⟨q1, q246, ⟨by decide +kernel, by decide +kernel, by decide +kernel⟩, by decide +kernel, by decide⟩, _, rfl, rfl⟩
theorem kX5_56 : CaV RX5 56 mX4_placePaddle 5 4 := ⟨⟨q260, q261, q262⟩, ⟨q2, q263, ⟨by decide +kernel, by decide +kernel, by decide +kernel⟩, by decide +kernel, by decide⟩, _, rfl, rfl⟩
theorem kX5_60 : CaV RX5 60 mX4_removePaddle 1 4 := ⟨⟨q280, q281, q282⟩, ⟨q2, q283, ⟨by decide +kernel, by decide +kernel, by decide +kernel⟩, by decide +kernel, by decide⟩, _, rfl, rfl⟩
theorem kX5_63 : CaV RX5 63 mX4_startPaddle 1 4 := ⟨⟨q288, q289, q290⟩, ⟨q2, q291, ⟨by decide +kernel, by decide +kernel, by decide +kernel⟩, by decide +kernel, by decide⟩, _, rfl, rfl⟩
theorem kX5_66 : CaV RX5 66 mX4_placeGauge 1 4 := ⟨⟨q299, q300, q301⟩, ⟨q2, q302, ⟨by decide +kernel, by decide +kernel, by decide +kernel⟩, by decide +kernel, by decide⟩, _, rfl, rfl⟩
theorem kX5_69 : CaV RX5 69 mX4_changeLevel 2 4 := ⟨⟨q311, q312, q313⟩, ⟨q2, q314, ⟨by decide +kernel, by decide +kernel, by decide +kernel⟩, by decide +kernel, by decide⟩, _, rfl, rfl⟩
theorem kX5_72 : CaV RX5 72 mX4_passSteps 1 4 := ⟨⟨q319, q320, q321⟩, ⟨q2, q322, ⟨by decide +kernel, by decide +kernel, by decide +kernel⟩, by decide +kernel, by decide⟩, _, rfl, rfl⟩
theorem kX5_75 : CaV RX5 75 mX1_push 1 1 := ⟨⟨q247, q248, q249⟩, ⟨q6, q250, ⟨by decide +kernel, by decide +kernel, by decide +kernel⟩, by decide +kernel, by decide⟩, _, rfl, rfl⟩
theorem kX5_78 : CaS RX5 78 mX5_isOutside 2 := ⟨⟨q366, q237⟩, ⟨q1, q238, ⟨by decide +kernel, by decide +kernel, by decide +kernel⟩, by decide +kernel, by decide⟩⟩
theorem fX5_82 : Fl RX5 82 4 1 := ⟨_, rfl, by decide, q99⟩
theorem fX5_86 : Fl RX5 86 4 2 := ⟨_, rfl, by decide, q101⟩
theorem kX5_89 : CaV RX5 89 mX4_isCrest 1 4 := ⟨⟨q367, q368, q369⟩, ⟨q2, q370, ⟨by decide +kernel, by decide +kernel, by decide +kernel⟩, by decide +kernel, by decide⟩, _, rfl, rfl⟩
theorem kX5_93 : CaS RX5 93 mX5_asNumber 1 := ⟨⟨q371, q293⟩, ⟨q1, q294, ⟨by decide +kernel, by decide +kernel, by decide +kernel⟩, by decide +kernel, by decide⟩⟩
theorem kX5_97 : CaV RX5 97 mX4_isTrough 1 4 := ⟨⟨q372, q373, q374⟩, ⟨q2, q375, ⟨by decide +kernel, by decide +kernel, by decide +kernel⟩, by decide +kernel, by decide⟩, _, rfl, rfl⟩
theorem fX5_100 : Fl RX5 100 4 5 := ⟨_, rfl, by decide, q107⟩
theorem pX5_100 : Fp RX5 100 4 5 .int false := ⟨_, rfl, by decide, q107, rfl, by decide +kernel, fun h => Bool.noConfusion h⟩
theorem fX5_104 : Fl RX5 104 4 3 := ⟨_, rfl, by decide, q103⟩
theorem fX5_108 : Fl RX5 108 3 0 := ⟨_, rfl, by decide, q45⟩
theorem fX5_113 : Fl RX5 113 3 1 := ⟨_, rfl, by decide, q48⟩
theorem fX5_116 : Fl RX5 116 3 2 := ⟨_, rfl, by decide, q51⟩
theorem fX5_119 : Fl RX5 119 3 3 := ⟨_, rfl, by decide, q54⟩
theorem pX5_119 : Fp RX5 119 3 3 .int false := ⟨_, rfl, by decide, q54, rfl, by decide +kernel, fun h => Bool.noConfusion h⟩
theorem fX5_122 : Fl RX5 122 3 4 := ⟨_, rfl, by decide, q57⟩
theorem fX5_125 : Fl RX5 125 3 5 := ⟨_, rfl, by decide, q60⟩
theorem fX5_129 : Fl RX5 129 4 7 := ⟨_, rfl, by decide, q111⟩
theorem kX5_132 : CaV RX5 132 mX3_pushAt 1 3 := ⟨⟨q380, q336, q337⟩, ⟨q3, q338, ⟨by decide +kernel, by decide +kernel, by decide +kernel⟩, by decide +kernel, by decide⟩, _, rfl, rfl⟩
theorem fX5_135 : Fl RX5 135 4 6 := ⟨_, rfl, by decide, q109⟩
theorem fX5_138 : Fl RX5 138 4 4 := ⟨_, rfl, by decide, q105⟩
theorem fX5_142 : Fl RX5 142 0 1 := ⟨_, rfl, by decide, q83⟩
theorem fX5_145 : Fl RX5 145 0 2 := ⟨_, rfl, by decide, q85⟩
theorem kX5_148 : CaV RX5 148 mX0_greatest 0 0 := ⟨⟨q385, q386, q387⟩, ⟨q4, q388, ⟨by decide +kernel, by decide +kernel, by decide +kernel⟩, by decide +kernel, by decide⟩, _, rfl, rfl⟩
theorem kX5_152 : CaV RX5 152 mX0_least 0 0 := ⟨⟨q397, q398, q399⟩, ⟨q4, q400, ⟨by decide +kernel, by decide +kernel, by decide +kernel⟩, by decide +kernel, by decide⟩, _, rfl, rfl⟩
theorem kX5_155 : CaV RX5 155 mX0_rises 0 0 := ⟨⟨q401, q402, q403⟩, ⟨q4, q404, ⟨by decide +kernel, by decide +kernel, by decide +kernel⟩, by decide +kernel, by decide⟩, _, rfl, rfl⟩
theorem kX5_158 : CaV RX5 158 mX0_levelAgo 1 0 := ⟨⟨q409, q390, q391⟩, ⟨q4, q392, ⟨by decide +kernel, by decide +kernel, by decide +kernel⟩, by decide +kernel, by decide⟩, _, rfl, rfl⟩
theorem kX5_163 : CaV RX5 163 mX4_cellsThatAre 1 4 := ⟨⟨q415, q416, q417⟩, ⟨q2, q418, ⟨by decide +kernel, by decide +kernel, by decide +kernel⟩, by decide +kernel, by decide⟩, _, rfl, rfl⟩
theorem kX5_167 : CaS RX5 167 mJ13_bitCount_95d88 1 := ⟨⟨q429, q430⟩, ⟨q10, q431, ⟨by decide +kernel, by decide +kernel, by decide +kernel⟩, by decide +kernel, by decide⟩⟩
theorem kX5_173 : CaV RX5 173 mX4_sumOfLevels 0 4 := ⟨⟨q435, q436, q437⟩, ⟨q2, q438, ⟨by decide +kernel, by decide +kernel, by decide +kernel⟩, by decide +kernel, by decide⟩, _, rfl, rfl⟩
theorem kX5_177 : CaV RX5 177 mX4_motion 0 4 := ⟨⟨q440, q441, q442⟩, ⟨q2, q443, ⟨by decide +kernel, by decide +kernel, by decide +kernel⟩, by decide +kernel, by decide⟩, _, rfl, rfl⟩
theorem kX5_180 : CaV RX5 180 mX4_farthestLevel 0 4 := ⟨⟨q444, q445, q446⟩, ⟨q2, q447, ⟨by decide +kernel, by decide +kernel, by decide +kernel⟩, by decide +kernel, by decide⟩, _, rfl, rfl⟩
theorem kX5_183 : CaV RX5 183 mX4_lastUnevenCell 0 4 := ⟨⟨q449, q450, q451⟩, ⟨q2, q452, ⟨by decide +kernel, by decide +kernel, by decide +kernel⟩, by decide +kernel, by decide⟩, _, rfl, rfl⟩
theorem fX5_186 : Fl RX5 186 4 0 := ⟨_, rfl, by decide, q97⟩
theorem fX5_189 : Fl RX5 189 2 1 := ⟨_, rfl, by decide, q137⟩
theorem pX5_189 : Fp RX5 189 2 1 .int false := ⟨_, rfl, by decide, q137, rfl, by decide +kernel, fun h => Bool.noConfusion h⟩
theorem fX5_192 : Fl RX5 192 1 1 := ⟨_, rfl, by decide, q183⟩
theorem kX5_195 : CaS RX5 195 mJ9_abs_0f7a4 1 := ⟨⟨q457, q333⟩, ⟨q9, q334, ⟨by decide +kernel, by decide +kernel, by decide +kernel⟩, by decide +kernel, by decide⟩⟩
theorem kX5_200 : CaV RX5 200 mX4_step 0 4 := ⟨⟨q458, q325, q326⟩, ⟨q2, q327, ⟨by decide +kernel, by decide +kernel, by decide +kernel⟩, by decide +kernel, by decide⟩, _, rfl, rfl⟩
theorem kX5_203 : CaV RX5 203 mX5_peakWithPeriod 4 5 := ⟨⟨q463, q465, (inWS (List.mem_of_getElem? (i := 1) (by decide +kernel)) (by decide +kernel))⟩, ⟨q1, q466, ⟨by decide +kernel, by decide +kernel, by decide +kernel⟩, by decide +kernel, by decide⟩, _, rfl, rfl⟩
theorem kX5_207 : CaS RX5 207 mJ9_max_7cf53 2 := ⟨⟨q350, q351⟩, ⟨q9, q352, ⟨by decide +kernel, by decide +kernel, by decide +kernel⟩, by decide +kernel, by decide⟩⟩
theorem kX5_210 : CaV RX5 210 mX4_isCalm 0 4 := ⟨⟨q471, q472, q473⟩, ⟨q2, q474, ⟨by decide +kernel, by decide +kernel, by decide +kernel⟩, by decide +kernel, by decide⟩, _, rfl, rfl⟩
theorem kX5_214 : CaV RX5 214 mX2_append 1 2 := ⟨⟨q479, q480, q481⟩, ⟨q5, q482, ⟨by decide +kernel, by decide +kernel, by decide +kernel⟩, by decide +kernel, by decide⟩, _, rfl, rfl⟩
theorem kX5_217 : CaV RX5 217 mX2_findFault 0 2 := ⟨⟨q495, q496, q497⟩, ⟨q5, q498, ⟨by decide +kernel, by decide +kernel, by decide +kernel⟩, by decide +kernel, by decide⟩, _, rfl, rfl⟩
theorem kX5_220 : CaV RX5 220 mX5_carryOrders 0 5 := ⟨⟨q539, q541, (inWS (List.mem_of_getElem? (i := 2) (by decide +kernel)) (by decide +kernel))⟩, ⟨q1, q542, ⟨by decide +kernel, by decide +kernel, by decide +kernel⟩, by decide +kernel, by decide⟩, _, rfl, rfl⟩
theorem pX5_223 : Fp RX5 223 2 2 .int false := ⟨_, rfl, by decide, q139, rfl, by decide +kernel, fun h => Bool.noConfusion h⟩
theorem kX5_226 : CaV RX5 226 mX2_readOrder 0 2 := ⟨⟨q543, q500, q501⟩, ⟨q5, q502, ⟨by decide +kernel, by decide +kernel, by decide +kernel⟩, by decide +kernel, by decide⟩, _, rfl, rfl⟩
theorem kX5_229 : CaV RX5 229 mX5_carryOneOrder 0 5 := ⟨⟨q544, q546, (inWS (List.mem_of_getElem? (i := 3) (by decide +kernel)) (by decide +kernel))⟩, ⟨q1, q547, ⟨by decide +kernel, by decide +kernel, by decide +kernel⟩, by decide +kernel, by decide⟩, _, rfl, rfl⟩
theorem kX5_232 : CaV RX5 232 mX2_accept 1 2 := ⟨⟨q548, q532, q533⟩, ⟨q5, q534, ⟨by decide +kernel, by decide +kernel, by decide +kernel⟩, by decide +kernel, by decide⟩, _, rfl, rfl⟩
theorem fX5_236 : Fl RX5 236 2 3 := ⟨_, rfl, by decide, q141⟩
theorem fX5_239 : Fl RX5 239 2 4 := ⟨_, rfl, by decide, q143⟩
theorem fX5_242 : Fl RX5 242 2 5 := ⟨_, rfl, by decide, q145⟩
theorem fX5_243 : Fl RX5 243 2 6 := ⟨_, rfl, by decide, q147⟩
theorem fX5_246 : Fl RX5 246 2 7 := ⟨_, rfl, by decide, q149⟩
theorem fX5_247 : Fl RX5 247 2 8 := ⟨_, rfl, by decide, q151⟩
theorem kX5_248 : CaV RX5 248 mX1_popInto 1 1 := ⟨⟨q553, q554, q555⟩, ⟨q6, q556, ⟨by decide +kernel, by decide +kernel, by decide +kernel⟩, by decide +kernel, by decide⟩, _, rfl, rfl⟩
theorem kX5_251 : CaS RX5 251 mJ9_min_7cf53 2 := ⟨⟨q349, q340⟩, ⟨q9, q341, ⟨by decide +kernel, by decide +kernel, by decide +kernel⟩, by decide +kernel, by decide⟩⟩
theorem pX0_9 : Fp RX0 9 0 0 (.array .int) true := ⟨_, rfl, by decide, q80, rfl, by decide +kernel, fun _ => rfl⟩
theorem fX0_9 : Fl RX0 9 0 0 := ⟨_, rfl, by decide, q80⟩
theorem fX0_21 : Fl RX0 21 0 1 := ⟨_, rfl, by decide, q81⟩
theorem pX0_21 : Fp RX0 21 0 1 .int false := ⟨_, rfl, by decide, q81, rfl, by decide +kernel, fun h => Bool.noConfusion h⟩
theorem fX0_25 : Fl RX0 25 0 2 := ⟨_, rfl, by decide, q84⟩
theorem pX0_25 : Fp RX0 25 0 2 .int false := ⟨_, rfl, by decide, q84, rfl, by decide +kernel, fun h => Bool.noConfusion h⟩
theorem fX0_28 : Fl RX0 28 0 3 := ⟨_, rfl, by decide, q86⟩
theorem pX0_28 : Fp RX0 28 0 3 .int false := ⟨_, rfl, by decide, q86, rfl, by decide +kernel, fun h => Bool.noConfusion h⟩
theorem kX0_31 : CaS RX0 31 mJ9_min_7cf53 2 := ⟨⟨q361, q340⟩, ⟨q9, q341, ⟨by decide +kernel, by decide +kernel, by decide +kernel⟩, by decide +kernel, by decide⟩⟩
theorem kX0_37 : CaS RX0 37 mJ9_floorMod_7cf53 2 := ⟨⟨q393, q394⟩, ⟨q9, q395, ⟨by decide +kernel, by decide +kernel, by decide +kernel⟩, by decide +kernel, by decide⟩⟩
theorem kX0_40 : CaV RX0 40 mX0_levelAgo 1 0 := ⟨⟨q389, q390, q391⟩, ⟨q4, q392, ⟨by decide +kernel, by decide +kernel, by decide +kernel⟩, by decide +kernel, by decide⟩, _, rfl, rfl⟩
theorem kX0_44 : CaS RX0 44 mJ9_max_7cf53 2 := ⟨⟨q396, q351⟩, ⟨q9, q352, ⟨by decide +kernel, by decide +kernel, by decide +kernel⟩, by decide +kernel, by decide⟩⟩
theorem pX1_11 : Fp RX1 11 1 0 (.array (.object "PaddleRows$Tank")) true := ⟨_, rfl, by decide, q181, rfl, by decide +kernel, fun _ => rfl⟩
theorem fX1_11 : Fl RX1 11 1 0 := ⟨_, rfl, by decide, q181⟩
theorem kX1_17 : CaI RX1 17 mX4_init := ⟨⟨q180, q22⟩, rfl, rfl, ⟨q2, q23, ⟨by decide +kernel, by decide +kernel, by decide +kernel⟩, by decide +kernel, by decide⟩⟩
theorem fX1_18 : Fl RX1 18 1 1 := ⟨_, rfl, by decide, q182⟩
theorem pX1_18 : Fp RX1 18 1 1 .int false := ⟨_, rfl, by decide, q182, rfl, by decide +kernel, fun h => Bool.noConfusion h⟩
theorem kX1_22 : CaV RX1 22 mX1_dropOldest 0 1 := ⟨⟨q251, q252, q253⟩, ⟨q6, q254, ⟨by decide +kernel, by decide +kernel, by decide +kernel⟩, by decide +kernel, by decide⟩, _, rfl, rfl⟩
theorem kX1_25 : CaV RX1 25 mX4_copyFrom 1 4 := ⟨⟨q255, q217, q218⟩, ⟨q2, q219, ⟨by decide +kernel, by decide +kernel, by decide +kernel⟩, by decide +kernel, by decide⟩, _, rfl, rfl⟩
theorem pX2_9 : Fp RX2 9 2 0 (.array .char) true := ⟨_, rfl, by decide, q135, rfl, by decide +kernel, fun _ => rfl⟩
theorem fX2_9 : Fl RX2 9 2 0 := ⟨_, rfl, by decide, q135⟩
theorem kX2_15 : CaS RX2 15 mX2_countOf 1 := ⟨⟨q483, q484⟩, ⟨q5, q485, ⟨by decide +kernel, by decide +kernel, by decide +kernel⟩, by decide +kernel, by decide⟩⟩
theorem fX2_19 : Fl RX2 19 2 1 := ⟨_, rfl, by decide, q136⟩
theorem pX2_19 : Fp RX2 19 2 1 .int false := ⟨_, rfl, by decide, q136, rfl, by decide +kernel, fun h => Bool.noConfusion h⟩
theorem pX2_25 : Fp RX2 25 2 2 .int false := ⟨_, rfl, by decide, q138, rfl, by decide +kernel, fun h => Bool.noConfusion h⟩
theorem fX2_25 : Fl RX2 25 2 2 := ⟨_, rfl, by decide, q138⟩
theorem kX2_28 : CaV RX2 28 mX2_readOrder 0 2 := ⟨⟨q499, q500, q501⟩, ⟨q5, q502, ⟨by decide +kernel, by decide +kernel, by decide +kernel⟩, by decide +kernel, by decide⟩, _, rfl, rfl⟩
theorem kX2_32 : CaV RX2 32 mX2_accept 1 2 := ⟨⟨q531, q532, q533⟩, ⟨q5, q534, ⟨by decide +kernel, by decide +kernel, by decide +kernel⟩, by decide +kernel, by decide⟩, _, rfl, rfl⟩
theorem kX2_36 : CaV RX2 36 mX2_signHere 0 2 := ⟨⟨q503, q504, q505⟩, ⟨q5, q506, ⟨by decide +kernel, by decide +kernel, by decide +kernel⟩, by decide +kernel, by decide⟩, _, rfl, rfl⟩
theorem pX2_40 : Fp RX2 40 2 3 .int false := ⟨_, rfl, by decide, q140, rfl, by decide +kernel, fun h => Bool.noConfusion h⟩
theorem fX2_40 : Fl RX2 40 2 3 := ⟨_, rfl, by decide, q140⟩
theorem kX2_43 : CaV RX2 43 mX2_readPaddle 0 2 := ⟨⟨q507, q508, q509⟩, ⟨q5, q510, ⟨by decide +kernel, by decide +kernel, by decide +kernel⟩, by decide +kernel, by decide⟩, _, rfl, rfl⟩
theorem kX2_46 : CaV RX2 46 mX2_readTarget 0 2 := ⟨⟨q511, q512, q513⟩, ⟨q5, q514, ⟨by decide +kernel, by decide +kernel, by decide +kernel⟩, by decide +kernel, by decide⟩, _, rfl, rfl⟩
theorem kX2_49 : CaV RX2 49 mX2_readValue 0 2 := ⟨⟨q527, q528, q529⟩, ⟨q5, q530, ⟨by decide +kernel, by decide +kernel, by decide +kernel⟩, by decide +kernel, by decide⟩, _, rfl, rfl⟩
theorem kX2_52 : CaV RX2 52 mX2_readSort 0 2 := ⟨⟨q523, q524, q525⟩, ⟨q5, q526, ⟨by decide +kernel, by decide +kernel, by decide +kernel⟩, by decide +kernel, by decide⟩, _, rfl, rfl⟩
theorem kX2_55 : CaV RX2 55 mX2_readNumber 0 2 := ⟨⟨q515, q516, q517⟩, ⟨q5, q518, ⟨by decide +kernel, by decide +kernel, by decide +kernel⟩, by decide +kernel, by decide⟩, _, rfl, rfl⟩
theorem pX2_58 : Fp RX2 58 2 7 .int false := ⟨_, rfl, by decide, q148, rfl, by decide +kernel, fun h => Bool.noConfusion h⟩
theorem fX2_58 : Fl RX2 58 2 7 := ⟨_, rfl, by decide, q148⟩
theorem pX2_61 : Fp RX2 61 2 8 .int false := ⟨_, rfl, by decide, q150, rfl, by decide +kernel, fun h => Bool.noConfusion h⟩
theorem fX2_61 : Fl RX2 61 2 8 := ⟨_, rfl, by decide, q150⟩
theorem pX2_64 : Fp RX2 64 2 4 .int false := ⟨_, rfl, by decide, q142, rfl, by decide +kernel, fun h => Bool.noConfusion h⟩
theorem fX2_64 : Fl RX2 64 2 4 := ⟨_, rfl, by decide, q142⟩
theorem pX2_67 : Fp RX2 67 2 5 .int false := ⟨_, rfl, by decide, q144, rfl, by decide +kernel, fun h => Bool.noConfusion h⟩
theorem pX2_70 : Fp RX2 70 2 6 .int false := ⟨_, rfl, by decide, q146, rfl, by decide +kernel, fun h => Bool.noConfusion h⟩
theorem kX2_73 : CaV RX2 73 mX2_isDigitHere 0 2 := ⟨⟨q519, q520, q521⟩, ⟨q5, q522, ⟨by decide +kernel, by decide +kernel, by decide +kernel⟩, by decide +kernel, by decide⟩, _, rfl, rfl⟩
theorem pX3_9 : Fp RX3 9 3 3 .int false := ⟨_, rfl, by decide, q52, rfl, by decide +kernel, fun h => Bool.noConfusion h⟩
theorem fX3_9 : Fl RX3 9 3 3 := ⟨_, rfl, by decide, q52⟩
theorem fX3_15 : Fl RX3 15 3 0 := ⟨_, rfl, by decide, q43⟩
theorem pX3_15 : Fp RX3 15 3 0 .int false := ⟨_, rfl, by decide, q43, rfl, by decide +kernel, fun h => Bool.noConfusion h⟩
theorem fX3_18 : Fl RX3 18 3 1 := ⟨_, rfl, by decide, q46⟩
theorem pX3_18 : Fp RX3 18 3 1 .int false := ⟨_, rfl, by decide, q46, rfl, by decide +kernel, fun h => Bool.noConfusion h⟩
theorem fX3_21 : Fl RX3 21 3 2 := ⟨_, rfl, by decide, q49⟩
theorem pX3_21 : Fp RX3 21 3 2 .int false := ⟨_, rfl, by decide, q49, rfl, by decide +kernel, fun h => Bool.noConfusion h⟩
theorem fX3_24 : Fl RX3 24 3 4 := ⟨_, rfl, by decide, q55⟩
theorem pX3_24 : Fp RX3 24 3 4 .int false := ⟨_, rfl, by decide, q55, rfl, by decide +kernel, fun h => Bool.noConfusion h⟩
theorem fX3_27 : Fl RX3 27 3 5 := ⟨_, rfl, by decide, q58⟩
theorem pX3_27 : Fp RX3 27 3 5 .boolean false := ⟨_, rfl, by decide, q58, rfl, by decide +kernel, fun h => Bool.noConfusion h⟩
theorem kX3_31 : CaSN RX3 31 mX5_isOutside 2 := ⟨⟨RX5, List.mem_filter.mpr ⟨List.mem_of_getElem? (i := 267) (by decide +kernel), rfl⟩⟩, q237, ⟨q1, q238, ⟨by decide +kernel, by decide +kernel, by decide +kernel⟩, by decide +kernel, by decide⟩⟩
theorem kX3_35 : CaS RX3 35 mJ9_min_7cf53 2 := ⟨⟨q339, q340⟩, ⟨q9, q341, ⟨by decide +kernel, by decide +kernel, by decide +kernel⟩, by decide +kernel, by decide⟩⟩
theorem pX4_18 : Fp RX4 18 4 0 (.array .int) true := ⟨_, rfl, by decide, q96, rfl, by decide +kernel, fun _ => rfl⟩
theorem fX4_18 : Fl RX4 18 4 0 := ⟨_, rfl, by decide, q96⟩
theorem pX4_23 : Fp RX4 23 4 1 (.array .int) true := ⟨_, rfl, by decide, q98, rfl, by decide +kernel, fun _ => rfl⟩
theorem fX4_23 : Fl RX4 23 4 1 := ⟨_, rfl, by decide, q98⟩
theorem pX4_26 : Fp RX4 26 4 2 (.array .int) true := ⟨_, rfl, by decide, q100, rfl, by decide +kernel, fun _ => rfl⟩
theorem fX4_26 : Fl RX4 26 4 2 := ⟨_, rfl, by decide, q100⟩
theorem pX4_31 : Fp RX4 31 4 3 (.array (.object "PaddleRows$Paddle")) true := ⟨_, rfl, by decide, q102, rfl, by decide +kernel, fun _ => rfl⟩
theorem fX4_31 : Fl RX4 31 4 3 := ⟨_, rfl, by decide, q102⟩
theorem pX4_37 : Fp RX4 37 4 4 (.array (.object "PaddleRows$Gauge")) true := ⟨_, rfl, by decide, q104, rfl, by decide +kernel, fun _ => rfl⟩
theorem fX4_37 : Fl RX4 37 4 4 := ⟨_, rfl, by decide, q104⟩
theorem kX4_41 : CaIN RX4 41 mX3_init := ⟨⟨RX5, List.mem_filter.mpr ⟨List.mem_of_getElem? (i := 39) (by decide +kernel), rfl⟩⟩, q40, rfl, rfl, ⟨q3, q41, ⟨by decide +kernel, by decide +kernel, by decide +kernel⟩, by decide +kernel, by decide⟩⟩
theorem kX4_42 : CaIN RX4 42 mX0_init := ⟨⟨RX5, List.mem_filter.mpr ⟨List.mem_of_getElem? (i := 76) (by decide +kernel), rfl⟩⟩, q77, rfl, rfl, ⟨q4, q78, ⟨by decide +kernel, by decide +kernel, by decide +kernel⟩, by decide +kernel, by decide⟩⟩
theorem fX4_49 : Fl RX4 49 4 5 := ⟨_, rfl, by decide, q106⟩
theorem pX4_49 : Fp RX4 49 4 5 .int false := ⟨_, rfl, by decide, q106, rfl, by decide +kernel, fun h => Bool.noConfusion h⟩
theorem kX4_53 : CaV RX4 53 mX3_copyFrom 1 3 := ⟨⟨q223, q224, q225⟩, ⟨q3, q226, ⟨by decide +kernel, by decide +kernel, by decide +kernel⟩, by decide +kernel, by decide⟩, _, rfl, rfl⟩
theorem fX4_57 : Fl RX4 57 4 6 := ⟨_, rfl, by decide, q108⟩
theorem pX4_57 : Fp RX4 57 4 6 .int false := ⟨_, rfl, by decide, q108, rfl, by decide +kernel, fun h => Bool.noConfusion h⟩
theorem kX4_60 : CaV RX4 60 mX0_copyFrom 1 0 := ⟨⟨q227, q228, q229⟩, ⟨q4, q230, ⟨by decide +kernel, by decide +kernel, by decide +kernel⟩, by decide +kernel, by decide⟩, _, rfl, rfl⟩
theorem fX4_63 : Fl RX4 63 4 7 := ⟨_, rfl, by decide, q110⟩
theorem pX4_63 : Fp RX4 63 4 7 .int false := ⟨_, rfl, by decide, q110, rfl, by decide +kernel, fun h => Bool.noConfusion h⟩
theorem kX4_66 : CaSN RX4 66 mX5_isOutside 2 := ⟨⟨RX5, List.mem_filter.mpr ⟨List.mem_of_getElem? (i := 236) (by decide +kernel), rfl⟩⟩, q237, ⟨q1, q238, ⟨by decide +kernel, by decide +kernel, by decide +kernel⟩, by decide +kernel, by decide⟩⟩
theorem kX4_76 : CaS RX4 76 mX3_isRecipe 4 := ⟨⟨q264, q265⟩, ⟨q3, q266, ⟨by decide +kernel, by decide +kernel, by decide +kernel⟩, by decide +kernel, by decide⟩⟩
theorem kX4_80 : CaV RX4 80 mX4_rankIn 1 4 := ⟨⟨q268, q269, q270⟩, ⟨q2, q271, ⟨by decide +kernel, by decide +kernel, by decide +kernel⟩, by decide +kernel, by decide⟩, _, rfl, rfl⟩
theorem kX4_84 : CaV RX4 84 mX4_openRank 1 4 := ⟨⟨q272, q273, q274⟩, ⟨q2, q275, ⟨by decide +kernel, by decide +kernel, by decide +kernel⟩, by decide +kernel, by decide⟩, _, rfl, rfl⟩
theorem pX4_87 : Fp RX4 87 3 0 .int false := ⟨_, rfl, by decide, q44, rfl, by decide +kernel, fun h => Bool.noConfusion h⟩
theorem fX4_87 : Fl RX4 87 3 0 := ⟨_, rfl, by decide, q44⟩
theorem pX4_90 : Fp RX4 90 3 1 .int false := ⟨_, rfl, by decide, q47, rfl, by decide +kernel, fun h => Bool.noConfusion h⟩
theorem pX4_93 : Fp RX4 93 3 2 .int false := ⟨_, rfl, by decide, q50, rfl, by decide +kernel, fun h => Bool.noConfusion h⟩
theorem pX4_96 : Fp RX4 96 3 3 .int false := ⟨_, rfl, by decide, q53, rfl, by decide +kernel, fun h => Bool.noConfusion h⟩
theorem pX4_99 : Fp RX4 99 3 4 .int false := ⟨_, rfl, by decide, q56, rfl, by decide +kernel, fun h => Bool.noConfusion h⟩
theorem pX4_102 : Fp RX4 102 3 5 .boolean false := ⟨_, rfl, by decide, q59, rfl, by decide +kernel, fun h => Bool.noConfusion h⟩
theorem fX4_102 : Fl RX4 102 3 5 := ⟨_, rfl, by decide, q59⟩
theorem kX4_106 : CaSN RX4 106 mX5_asNumber 1 := ⟨⟨RX5, List.mem_filter.mpr ⟨List.mem_of_getElem? (i := 292) (by decide +kernel), rfl⟩⟩, q293, ⟨q1, q294, ⟨by decide +kernel, by decide +kernel, by decide +kernel⟩, by decide +kernel, by decide⟩⟩
theorem kX4_110 : CaV RX4 110 mX0_startIn 1 0 := ⟨⟨q303, q304, q305⟩, ⟨q4, q306, ⟨by decide +kernel, by decide +kernel, by decide +kernel⟩, by decide +kernel, by decide⟩, _, rfl, rfl⟩
theorem kX4_115 : CaV RX4 115 mX4_step 0 4 := ⟨⟨q324, q325, q326⟩, ⟨q2, q327, ⟨by decide +kernel, by decide +kernel, by decide +kernel⟩, by decide +kernel, by decide⟩, _, rfl, rfl⟩
theorem kX4_119 : CaV RX4 119 mX4_movePaddles 0 4 := ⟨⟨q328, q329, q330⟩, ⟨q2, q331, ⟨by decide +kernel, by decide +kernel, by decide +kernel⟩, by decide +kernel, by decide⟩, _, rfl, rfl⟩
theorem kX4_122 : CaV RX4 122 mX4_moveWater 0 4 := ⟨⟨q342, q343, q344⟩, ⟨q2, q345, ⟨by decide +kernel, by decide +kernel, by decide +kernel⟩, by decide +kernel, by decide⟩, _, rfl, rfl⟩
theorem kX4_125 : CaV RX4 125 mX4_calmBeach 0 4 := ⟨⟨q353, q354, q355⟩, ⟨q2, q356, ⟨by decide +kernel, by decide +kernel, by decide +kernel⟩, by decide +kernel, by decide⟩, _, rfl, rfl⟩
theorem fX4_128 : Fl RX4 128 0 1 := ⟨_, rfl, by decide, q82⟩
theorem kX4_129 : CaV RX4 129 mX0_note 1 0 := ⟨⟨q357, q358, q359⟩, ⟨q4, q360, ⟨by decide +kernel, by decide +kernel, by decide +kernel⟩, by decide +kernel, by decide⟩, _, rfl, rfl⟩
theorem kX4_132 : CaS RX4 132 mJ9_abs_0f7a4 1 := ⟨⟨q332, q333⟩, ⟨q9, q334, ⟨by decide +kernel, by decide +kernel, by decide +kernel⟩, by decide +kernel, by decide⟩⟩
theorem kX4_137 : CaV RX4 137 mX3_pushAt 1 3 := ⟨⟨q335, q336, q337⟩, ⟨q3, q338, ⟨by decide +kernel, by decide +kernel, by decide +kernel⟩, by decide +kernel, by decide⟩, _, rfl, rfl⟩
theorem kX4_140 : CaSN RX4 140 mX5_withinBounds 1 := ⟨⟨RX5, List.mem_filter.mpr ⟨List.mem_of_getElem? (i := 346) (by decide +kernel), rfl⟩⟩, q347, ⟨q1, q348, ⟨by decide +kernel, by decide +kernel, by decide +kernel⟩, by decide +kernel, by decide⟩⟩
theorem kX4_143 : CaV RX4 143 mX4_isPlace 2 4 := ⟨⟨q419, q420, q421⟩, ⟨q2, q422, ⟨by decide +kernel, by decide +kernel, by decide +kernel⟩, by decide +kernel, by decide⟩, _, rfl, rfl⟩
theorem kX4_146 : CaV RX4 146 mX4_isCrest 1 4 := ⟨⟨q423, q368, q369⟩, ⟨q2, q370, ⟨by decide +kernel, by decide +kernel, by decide +kernel⟩, by decide +kernel, by decide⟩, _, rfl, rfl⟩
theorem kX4_150 : CaV RX4 150 mX4_isTrough 1 4 := ⟨⟨q424, q373, q374⟩, ⟨q2, q375, ⟨by decide +kernel, by decide +kernel, by decide +kernel⟩, by decide +kernel, by decide⟩, _, rfl, rfl⟩
theorem kX4_153 : CaS RX4 153 mJ9_max_7cf53 2 := ⟨⟨q448, q351⟩, ⟨q9, q352, ⟨by decide +kernel, by decide +kernel, by decide +kernel⟩, by decide +kernel, by decide⟩⟩
theorem kL_9 : CaI RL 9 mX5_init := ⟨⟨q13, q14⟩, rfl, rfl, ⟨q1, q15, ⟨by decide +kernel, by decide +kernel, by decide +kernel⟩, by decide +kernel, by decide⟩⟩
theorem kL_12 : CaI RL 12 mX6_init := ⟨⟨q567, q568⟩, rfl, rfl, ⟨q7, q569, ⟨by decide +kernel, by decide +kernel, by decide +kernel⟩, by decide +kernel, by decide⟩⟩
theorem kL_13 : CaV RL 13 mX5_set 2 5 := ⟨⟨q212, q213, q214⟩, ⟨q1, q215, ⟨by decide +kernel, by decide +kernel, by decide +kernel⟩, by decide +kernel, by decide⟩, _, rfl, rfl⟩
theorem kL_17 : CaV RL 17 mX6_set 2 6 := ⟨⟨q611, q612, q613⟩, ⟨q7, q614, ⟨by decide +kernel, by decide +kernel, by decide +kernel⟩, by decide +kernel, by decide⟩, _, rfl, rfl⟩
theorem kL_18 : CaV RL 18 mX5_paddle 5 5 := ⟨⟨q256, q257, q258⟩, ⟨q1, q259, ⟨by decide +kernel, by decide +kernel, by decide +kernel⟩, by decide +kernel, by decide⟩, _, rfl, rfl⟩
theorem kL_22 : CaV RL 22 mX6_paddle 5 6 := ⟨⟨q628, q629, q630⟩, ⟨q7, q631, ⟨by decide +kernel, by decide +kernel, by decide +kernel⟩, by decide +kernel, by decide⟩, _, rfl, rfl⟩
theorem kL_23 : CaV RL 23 mX5_lift 1 5 := ⟨⟨q276, q277, q278⟩, ⟨q1, q279, ⟨by decide +kernel, by decide +kernel, by decide +kernel⟩, by decide +kernel, by decide⟩, _, rfl, rfl⟩
theorem kL_27 : CaV RL 27 mX6_lift 1 6 := ⟨⟨q656, q657, q658⟩, ⟨q7, q659, ⟨by decide +kernel, by decide +kernel, by decide +kernel⟩, by decide +kernel, by decide⟩, _, rfl, rfl⟩
theorem kL_28 : CaV RL 28 mX5_again 1 5 := ⟨⟨q284, q285, q286⟩, ⟨q1, q287, ⟨by decide +kernel, by decide +kernel, by decide +kernel⟩, by decide +kernel, by decide⟩, _, rfl, rfl⟩
theorem kL_31 : CaV RL 31 mX6_again 1 6 := ⟨⟨q660, q661, q662⟩, ⟨q7, q663, ⟨by decide +kernel, by decide +kernel, by decide +kernel⟩, by decide +kernel, by decide⟩, _, rfl, rfl⟩
theorem kL_32 : CaV RL 32 mX5_gauge 1 5 := ⟨⟨q295, q296, q297⟩, ⟨q1, q298, ⟨by decide +kernel, by decide +kernel, by decide +kernel⟩, by decide +kernel, by decide⟩, _, rfl, rfl⟩
theorem kL_35 : CaV RL 35 mX6_gauge 1 6 := ⟨⟨q664, q665, q666⟩, ⟨q7, q667, ⟨by decide +kernel, by decide +kernel, by decide +kernel⟩, by decide +kernel, by decide⟩, _, rfl, rfl⟩
theorem kL_36 : CaV RL 36 mX5_level 2 5 := ⟨⟨q307, q308, q309⟩, ⟨q1, q310, ⟨by decide +kernel, by decide +kernel, by decide +kernel⟩, by decide +kernel, by decide⟩, _, rfl, rfl⟩
theorem kL_39 : CaV RL 39 mX6_level 2 6 := ⟨⟨q679, q680, q681⟩, ⟨q7, q682, ⟨by decide +kernel, by decide +kernel, by decide +kernel⟩, by decide +kernel, by decide⟩, _, rfl, rfl⟩
theorem kL_40 : CaV RL 40 mX5_pass 1 5 := ⟨⟨q315, q316, q317⟩, ⟨q1, q318, ⟨by decide +kernel, by decide +kernel, by decide +kernel⟩, by decide +kernel, by decide⟩, _, rfl, rfl⟩
theorem kL_43 : CaV RL 43 mX6_pass 1 6 := ⟨⟨q687, q688, q689⟩, ⟨q7, q690, ⟨by decide +kernel, by decide +kernel, by decide +kernel⟩, by decide +kernel, by decide⟩, _, rfl, rfl⟩
theorem kL_44 : CaV RL 44 mX5_cell 2 5 := ⟨⟨q362, q363, q364⟩, ⟨q1, q365, ⟨by decide +kernel, by decide +kernel, by decide +kernel⟩, by decide +kernel, by decide⟩, _, rfl, rfl⟩
theorem kL_47 : CaV RL 47 mX6_cell 2 6 := ⟨⟨q730, q731, q732⟩, ⟨q7, q733, ⟨by decide +kernel, by decide +kernel, by decide +kernel⟩, by decide +kernel, by decide⟩, _, rfl, rfl⟩
theorem kL_48 : CaV RL 48 mX5_ofPaddle 2 5 := ⟨⟨q376, q377, q378⟩, ⟨q1, q379, ⟨by decide +kernel, by decide +kernel, by decide +kernel⟩, by decide +kernel, by decide⟩, _, rfl, rfl⟩
theorem kL_51 : CaV RL 51 mX6_ofPaddle 2 6 := ⟨⟨q742, q743, q744⟩, ⟨q7, q745, ⟨by decide +kernel, by decide +kernel, by decide +kernel⟩, by decide +kernel, by decide⟩, _, rfl, rfl⟩
theorem kL_52 : CaV RL 52 mX5_ofGauge 2 5 := ⟨⟨q381, q382, q383⟩, ⟨q1, q384, ⟨by decide +kernel, by decide +kernel, by decide +kernel⟩, by decide +kernel, by decide⟩, _, rfl, rfl⟩
theorem kL_55 : CaV RL 55 mX6_ofGauge 2 6 := ⟨⟨q750, q751, q752⟩, ⟨q7, q753, ⟨by decide +kernel, by decide +kernel, by decide +kernel⟩, by decide +kernel, by decide⟩, _, rfl, rfl⟩
theorem kL_56 : CaV RL 56 mX5_noted 2 5 := ⟨⟨q405, q406, q407⟩, ⟨q1, q408, ⟨by decide +kernel, by decide +kernel, by decide +kernel⟩, by decide +kernel, by decide⟩, _, rfl, rfl⟩
theorem kL_59 : CaV RL 59 mX6_noted 2 6 := ⟨⟨q770, q771, q772⟩, ⟨q7, q773, ⟨by decide +kernel, by decide +kernel, by decide +kernel⟩, by decide +kernel, by decide⟩, _, rfl, rfl⟩
theorem kL_60 : CaV RL 60 mX5_places 1 5 := ⟨⟨q410, q411, q412⟩, ⟨q1, q413, ⟨by decide +kernel, by decide +kernel, by decide +kernel⟩, by decide +kernel, by decide⟩, _, rfl, rfl⟩
theorem kL_64 : CaV RL 64 mX6_places 1 6 := ⟨⟨q774, q775, q776⟩, ⟨q7, q777, ⟨by decide +kernel, by decide +kernel, by decide +kernel⟩, by decide +kernel, by decide⟩, _, rfl, rfl⟩
theorem kL_65 : CaV RL 65 mX5_count 1 5 := ⟨⟨q425, q426, q427⟩, ⟨q1, q428, ⟨by decide +kernel, by decide +kernel, by decide +kernel⟩, by decide +kernel, by decide⟩, _, rfl, rfl⟩
theorem kL_68 : CaV RL 68 mX6_count 1 6 := ⟨⟨q783, q784, q785⟩, ⟨q7, q786, ⟨by decide +kernel, by decide +kernel, by decide +kernel⟩, by decide +kernel, by decide⟩, _, rfl, rfl⟩
theorem kL_69 : CaV RL 69 mX5_reaches 2 5 := ⟨⟨q453, q454, q455⟩, ⟨q1, q456, ⟨by decide +kernel, by decide +kernel, by decide +kernel⟩, by decide +kernel, by decide⟩, _, rfl, rfl⟩
theorem kL_72 : CaV RL 72 mX6_reaches 2 6 := ⟨⟨q808, q809, q810⟩, ⟨q7, q811, ⟨by decide +kernel, by decide +kernel, by decide +kernel⟩, by decide +kernel, by decide⟩, _, rfl, rfl⟩
theorem kL_73 : CaV RL 73 mX5_bestPeriod 4 5 := ⟨⟨q459, q460, q461⟩, ⟨q1, q462, ⟨by decide +kernel, by decide +kernel, by decide +kernel⟩, by decide +kernel, by decide⟩, _, rfl, rfl⟩
theorem kL_77 : CaV RL 77 mX6_bestPeriod 4 6 := ⟨⟨q812, q813, q814⟩, ⟨q7, q815, ⟨by decide +kernel, by decide +kernel, by decide +kernel⟩, by decide +kernel, by decide⟩, _, rfl, rfl⟩
theorem kL_78 : CaV RL 78 mX5_calmIn 0 5 := ⟨⟨q467, q468, q469⟩, ⟨q1, q470, ⟨by decide +kernel, by decide +kernel, by decide +kernel⟩, by decide +kernel, by decide⟩, _, rfl, rfl⟩
theorem kL_82 : CaV RL 82 mX6_calmIn 0 6 := ⟨⟨q816, q817, q818⟩, ⟨q7, q819, ⟨by decide +kernel, by decide +kernel, by decide +kernel⟩, by decide +kernel, by decide⟩, _, rfl, rfl⟩
theorem kL_85 : CaV RL 85 mX5_put 1 5 := ⟨⟨q475, q476, q477⟩, ⟨q1, q478, ⟨by decide +kernel, by decide +kernel, by decide +kernel⟩, by decide +kernel, by decide⟩, _, rfl, rfl⟩
theorem kL_89 : CaV RL 89 mX6_put 1 6 := ⟨⟨q820, q821, q822⟩, ⟨q7, q823, ⟨by decide +kernel, by decide +kernel, by decide +kernel⟩, by decide +kernel, by decide⟩, _, rfl, rfl⟩
theorem kL_90 : CaV RL 90 mX5_wipe 0 5 := ⟨⟨q487, q488, q489⟩, ⟨q1, q490, ⟨by decide +kernel, by decide +kernel, by decide +kernel⟩, by decide +kernel, by decide⟩, _, rfl, rfl⟩
theorem kL_93 : CaV RL 93 mX6_wipe 0 6 := ⟨⟨q825, q826, q827⟩, ⟨q7, q828, ⟨by decide +kernel, by decide +kernel, by decide +kernel⟩, by decide +kernel, by decide⟩, _, rfl, rfl⟩
theorem kL_94 : CaV RL 94 mX5_fault 0 5 := ⟨⟨q491, q492, q493⟩, ⟨q1, q494, ⟨by decide +kernel, by decide +kernel, by decide +kernel⟩, by decide +kernel, by decide⟩, _, rfl, rfl⟩
theorem kL_97 : CaV RL 97 mX6_fault 0 6 := ⟨⟨q829, q830, q831⟩, ⟨q7, q832, ⟨by decide +kernel, by decide +kernel, by decide +kernel⟩, by decide +kernel, by decide⟩, _, rfl, rfl⟩
theorem kL_98 : CaV RL 98 mX5_carryOut 0 5 := ⟨⟨q535, q536, q537⟩, ⟨q1, q538, ⟨by decide +kernel, by decide +kernel, by decide +kernel⟩, by decide +kernel, by decide⟩, _, rfl, rfl⟩
theorem kL_101 : CaV RL 101 mX6_carryOut 0 6 := ⟨⟨q869, q870, q871⟩, ⟨q7, q872, ⟨by decide +kernel, by decide +kernel, by decide +kernel⟩, by decide +kernel, by decide⟩, _, rfl, rfl⟩
theorem kL_102 : CaV RL 102 mX5_undo 0 5 := ⟨⟨q549, q550, q551⟩, ⟨q1, q552, ⟨by decide +kernel, by decide +kernel, by decide +kernel⟩, by decide +kernel, by decide⟩, _, rfl, rfl⟩
theorem kL_105 : CaV RL 105 mX6_undo 0 6 := ⟨⟨q881, q882, q883⟩, ⟨q7, q884, ⟨by decide +kernel, by decide +kernel, by decide +kernel⟩, by decide +kernel, by decide⟩, _, rfl, rfl⟩
theorem kL_106 : CaV RL 106 mX5_save 1 5 := ⟨⟨q557, q558, q559⟩, ⟨q1, q560, ⟨by decide +kernel, by decide +kernel, by decide +kernel⟩, by decide +kernel, by decide⟩, _, rfl, rfl⟩
theorem kL_109 : CaV RL 109 mX6_save 1 6 := ⟨⟨q885, q886, q887⟩, ⟨q7, q888, ⟨by decide +kernel, by decide +kernel, by decide +kernel⟩, by decide +kernel, by decide⟩, _, rfl, rfl⟩
theorem kL_110 : CaV RL 110 mX5_restore 1 5 := ⟨⟨q561, q562, q563⟩, ⟨q1, q564, ⟨by decide +kernel, by decide +kernel, by decide +kernel⟩, by decide +kernel, by decide⟩, _, rfl, rfl⟩
theorem kL_113 : CaV RL 113 mX6_restore 1 6 := ⟨⟨q889, q890, q891⟩, ⟨q7, q892, ⟨by decide +kernel, by decide +kernel, by decide +kernel⟩, by decide +kernel, by decide⟩, _, rfl, rfl⟩
theorem pX6_7 : Fp RX6 7 6 0 (.array .int) true := ⟨_, rfl, by decide, q571, rfl, by decide +kernel, fun _ => rfl⟩
theorem fX6_7 : Fl RX6 7 6 0 := ⟨_, rfl, by decide, q571⟩
theorem pX6_13 : Fp RX6 13 6 1 (.array .int) true := ⟨_, rfl, by decide, q572, rfl, by decide +kernel, fun _ => rfl⟩
theorem fX6_13 : Fl RX6 13 6 1 := ⟨_, rfl, by decide, q572⟩
theorem pX6_16 : Fp RX6 16 6 2 (.array .int) true := ⟨_, rfl, by decide, q573, rfl, by decide +kernel, fun _ => rfl⟩
theorem fX6_16 : Fl RX6 16 6 2 := ⟨_, rfl, by decide, q573⟩
theorem pX6_19 : Fp RX6 19 6 4 (.array .int) true := ⟨_, rfl, by decide, q575, rfl, by decide +kernel, fun _ => rfl⟩
theorem fX6_19 : Fl RX6 19 6 4 := ⟨_, rfl, by decide, q575⟩
theorem pX6_22 : Fp RX6 22 6 5 (.array .int) true := ⟨_, rfl, by decide, q576, rfl, by decide +kernel, fun _ => rfl⟩
theorem fX6_22 : Fl RX6 22 6 5 := ⟨_, rfl, by decide, q576⟩
theorem pX6_25 : Fp RX6 25 6 6 (.array .int) true := ⟨_, rfl, by decide, q577, rfl, by decide +kernel, fun _ => rfl⟩
theorem fX6_25 : Fl RX6 25 6 6 := ⟨_, rfl, by decide, q577⟩
theorem pX6_28 : Fp RX6 28 6 11 (.array .int) true := ⟨_, rfl, by decide, q582, rfl, by decide +kernel, fun _ => rfl⟩
theorem fX6_28 : Fl RX6 28 6 11 := ⟨_, rfl, by decide, q582⟩
theorem fX6_31 : Fl RX6 31 6 3 := ⟨_, rfl, by decide, q574⟩
theorem pX6_31 : Fp RX6 31 6 3 .int false := ⟨_, rfl, by decide, q574, rfl, by decide +kernel, fun h => Bool.noConfusion h⟩
theorem kX6_35 : CaS RX6 35 mX6_moves 4 := ⟨⟨q625, q626⟩, ⟨q7, q627, ⟨by decide +kernel, by decide +kernel, by decide +kernel⟩, by decide +kernel, by decide⟩⟩
theorem kX6_39 : CaS RX6 39 mX6_within 3 := ⟨⟨q618, q619⟩, ⟨q7, q620, ⟨by decide +kernel, by decide +kernel, by decide +kernel⟩, by decide +kernel, by decide⟩⟩
theorem kX6_43 : CaV RX6 43 mX6_paddlePart 2 6 := ⟨⟨q640, q642, (inWS (List.mem_of_getElem? (i := 7) (by decide +kernel)) (by decide +kernel))⟩, ⟨q7, q643, ⟨by decide +kernel, by decide +kernel, by decide +kernel⟩, by decide +kernel, by decide⟩, _, rfl, rfl⟩
theorem kX6_47 : CaV RX6 47 mX6_levelOf 1 6 := ⟨⟨q683, q685, (inWS (List.mem_of_getElem? (i := 13) (by decide +kernel)) (by decide +kernel))⟩, ⟨q7, q686, ⟨by decide +kernel, by decide +kernel, by decide +kernel⟩, by decide +kernel, by decide⟩, _, rfl, rfl⟩
theorem kX6_51 : CaS RX6 51 mX6_size 1 := ⟨⟨q708, q709⟩, ⟨q7, q710, ⟨by decide +kernel, by decide +kernel, by decide +kernel⟩, by decide +kernel, by decide⟩⟩
theorem kX6_54 : CaV RX6 54 mX6_setPaddle 3 6 := ⟨⟨q652, q654, (inWS (List.mem_of_getElem? (i := 10) (by decide +kernel)) (by decide +kernel))⟩, ⟨q7, q655, ⟨by decide +kernel, by decide +kernel, by decide +kernel⟩, by decide +kernel, by decide⟩, _, rfl, rfl⟩
theorem kX6_58 : CaV RX6 58 mX6_push 1 6 := ⟨⟨q711, q713, (inWS (List.mem_of_getElem? (i := 18) (by decide +kernel)) (by decide +kernel))⟩, ⟨q7, q714, ⟨by decide +kernel, by decide +kernel, by decide +kernel⟩, by decide +kernel, by decide⟩, _, rfl, rfl⟩
theorem kX6_61 : CaS RX6 61 mX6_bounded 1 := ⟨⟨q719, q720⟩, ⟨q7, q721, ⟨by decide +kernel, by decide +kernel, by decide +kernel⟩, by decide +kernel, by decide⟩⟩
theorem kX6_64 : CaV RX6 64 mX6_pushAll 0 6 := ⟨⟨q704, q706, (inWS (List.mem_of_getElem? (i := 17) (by decide +kernel)) (by decide +kernel))⟩, ⟨q7, q707, ⟨by decide +kernel, by decide +kernel, by decide +kernel⟩, by decide +kernel, by decide⟩, _, rfl, rfl⟩
theorem kX6_68 : CaV RX6 68 mX6_swing 0 6 := ⟨⟨q715, q717, (inWS (List.mem_of_getElem? (i := 19) (by decide +kernel)) (by decide +kernel))⟩, ⟨q7, q718, ⟨by decide +kernel, by decide +kernel, by decide +kernel⟩, by decide +kernel, by decide⟩, _, rfl, rfl⟩
theorem kX6_71 : CaV RX6 71 mX6_beach 0 6 := ⟨⟨q722, q724, (inWS (List.mem_of_getElem? (i := 20) (by decide +kernel)) (by decide +kernel))⟩, ⟨q7, q725, ⟨by decide +kernel, by decide +kernel, by decide +kernel⟩, by decide +kernel, by decide⟩, _, rfl, rfl⟩
theorem kX6_74 : CaV RX6 74 mX6_note 0 6 := ⟨⟨q726, q728, (inWS (List.mem_of_getElem? (i := 21) (by decide +kernel)) (by decide +kernel))⟩, ⟨q7, q729, ⟨by decide +kernel, by decide +kernel, by decide +kernel⟩, by decide +kernel, by decide⟩, _, rfl, rfl⟩
theorem kX6_77 : CaV RX6 77 mX6_step 0 6 := ⟨⟨q700, q702, (inWS (List.mem_of_getElem? (i := 16) (by decide +kernel)) (by decide +kernel))⟩, ⟨q7, q703, ⟨by decide +kernel, by decide +kernel, by decide +kernel⟩, by decide +kernel, by decide⟩, _, rfl, rfl⟩
theorem kX6_80 : CaS RX6 80 mX6_isValue 2 := ⟨⟨q615, q616⟩, ⟨q7, q617, ⟨by decide +kernel, by decide +kernel, by decide +kernel⟩, by decide +kernel, by decide⟩⟩
theorem kX6_84 : CaV RX6 84 mX6_record 0 6 := ⟨⟨q621, q623, (inWS (List.mem_of_getElem? (i := 4) (by decide +kernel)) (by decide +kernel))⟩, ⟨q7, q624, ⟨by decide +kernel, by decide +kernel, by decide +kernel⟩, by decide +kernel, by decide⟩, _, rfl, rfl⟩
theorem kX6_87 : CaV RX6 87 mX6_rankIn 1 6 := ⟨⟨q636, q638, (inWS (List.mem_of_getElem? (i := 6) (by decide +kernel)) (by decide +kernel))⟩, ⟨q7, q639, ⟨by decide +kernel, by decide +kernel, by decide +kernel⟩, by decide +kernel, by decide⟩, _, rfl, rfl⟩
theorem kX6_90 : CaV RX6 90 mX6_lifts 1 6 := ⟨⟨q648, q650, (inWS (List.mem_of_getElem? (i := 9) (by decide +kernel)) (by decide +kernel))⟩, ⟨q7, q651, ⟨by decide +kernel, by decide +kernel, by decide +kernel⟩, by decide +kernel, by decide⟩, _, rfl, rfl⟩
theorem kX6_94 : CaV RX6 94 mX6_whyNoPaddle 5 6 := ⟨⟨q632, q634, (inWS (List.mem_of_getElem? (i := 5) (by decide +kernel)) (by decide +kernel))⟩, ⟨q7, q635, ⟨by decide +kernel, by decide +kernel, by decide +kernel⟩, by decide +kernel, by decide⟩, _, rfl, rfl⟩
theorem kX6_98 : CaV RX6 98 mX6_puts 5 6 := ⟨⟨q644, q646, (inWS (List.mem_of_getElem? (i := 8) (by decide +kernel)) (by decide +kernel))⟩, ⟨q7, q647, ⟨by decide +kernel, by decide +kernel, by decide +kernel⟩, by decide +kernel, by decide⟩, _, rfl, rfl⟩
theorem kX6_102 : CaS RX6 102 mX6_isCell 1 := ⟨⟨q672, q673⟩, ⟨q7, q674, ⟨by decide +kernel, by decide +kernel, by decide +kernel⟩, by decide +kernel, by decide⟩⟩
theorem kX6_106 : CaV RX6 106 mX6_whyNoGauge 1 6 := ⟨⟨q668, q670, (inWS (List.mem_of_getElem? (i := 11) (by decide +kernel)) (by decide +kernel))⟩, ⟨q7, q671, ⟨by decide +kernel, by decide +kernel, by decide +kernel⟩, by decide +kernel, by decide⟩, _, rfl, rfl⟩
theorem kX6_109 : CaV RX6 109 mX6_comesGauge 1 6 := ⟨⟨q675, q677, (inWS (List.mem_of_getElem? (i := 12) (by decide +kernel)) (by decide +kernel))⟩, ⟨q7, q678, ⟨by decide +kernel, by decide +kernel, by decide +kernel⟩, by decide +kernel, by decide⟩, _, rfl, rfl⟩
theorem kX6_113 : CaV RX6 113 mX6_whyNotPassed 1 6 := ⟨⟨q691, q693, (inWS (List.mem_of_getElem? (i := 14) (by decide +kernel)) (by decide +kernel))⟩, ⟨q7, q694, ⟨by decide +kernel, by decide +kernel, by decide +kernel⟩, by decide +kernel, by decide⟩, _, rfl, rfl⟩
theorem kX6_116 : CaV RX6 116 mX6_passes 1 6 := ⟨⟨q696, q698, (inWS (List.mem_of_getElem? (i := 15) (by decide +kernel)) (by decide +kernel))⟩, ⟨q7, q699, ⟨by decide +kernel, by decide +kernel, by decide +kernel⟩, by decide +kernel, by decide⟩, _, rfl, rfl⟩
theorem kX6_119 : CaV RX6 119 mX6_isCrest 1 6 := ⟨⟨q734, q736, (inWS (List.mem_of_getElem? (i := 22) (by decide +kernel)) (by decide +kernel))⟩, ⟨q7, q737, ⟨by decide +kernel, by decide +kernel, by decide +kernel⟩, by decide +kernel, by decide⟩, _, rfl, rfl⟩
theorem kX6_122 : CaV RX6 122 mX6_isTrough 1 6 := ⟨⟨q738, q740, (inWS (List.mem_of_getElem? (i := 23) (by decide +kernel)) (by decide +kernel))⟩, ⟨q7, q741, ⟨by decide +kernel, by decide +kernel, by decide +kernel⟩, by decide +kernel, by decide⟩, _, rfl, rfl⟩
theorem kX6_125 : CaV RX6 125 mX6_isRank 1 6 := ⟨⟨q746, q748, (inWS (List.mem_of_getElem? (i := 24) (by decide +kernel)) (by decide +kernel))⟩, ⟨q7, q749, ⟨by decide +kernel, by decide +kernel, by decide +kernel⟩, by decide +kernel, by decide⟩, _, rfl, rfl⟩
theorem kX6_128 : CaV RX6 128 mX6_gaugePart 2 6 := ⟨⟨q758, q760, (inWS (List.mem_of_getElem? (i := 26) (by decide +kernel)) (by decide +kernel))⟩, ⟨q7, q761, ⟨by decide +kernel, by decide +kernel, by decide +kernel⟩, by decide +kernel, by decide⟩, _, rfl, rfl⟩
theorem kX6_131 : CaV RX6 131 mX6_isGauge 1 6 := ⟨⟨q754, q756, (inWS (List.mem_of_getElem? (i := 25) (by decide +kernel)) (by decide +kernel))⟩, ⟨q7, q757, ⟨by decide +kernel, by decide +kernel, by decide +kernel⟩, by decide +kernel, by decide⟩, _, rfl, rfl⟩
theorem kX6_134 : CaV RX6 134 mX6_extreme 2 6 := ⟨⟨q762, q764, (inWS (List.mem_of_getElem? (i := 27) (by decide +kernel)) (by decide +kernel))⟩, ⟨q7, q765, ⟨by decide +kernel, by decide +kernel, by decide +kernel⟩, by decide +kernel, by decide⟩, _, rfl, rfl⟩
theorem kX6_138 : CaV RX6 138 mX6_risings 1 6 := ⟨⟨q766, q768, (inWS (List.mem_of_getElem? (i := 28) (by decide +kernel)) (by decide +kernel))⟩, ⟨q7, q769, ⟨by decide +kernel, by decide +kernel, by decide +kernel⟩, by decide +kernel, by decide⟩, _, rfl, rfl⟩
theorem kX6_143 : CaV RX6 143 mX6_isPlace 2 6 := ⟨⟨q779, q781, (inWS (List.mem_of_getElem? (i := 29) (by decide +kernel)) (by decide +kernel))⟩, ⟨q7, q782, ⟨by decide +kernel, by decide +kernel, by decide +kernel⟩, by decide +kernel, by decide⟩, _, rfl, rfl⟩
theorem kX6_146 : CaV RX6 146 mX6_stopped 0 6 := ⟨⟨q787, q789, (inWS (List.mem_of_getElem? (i := 30) (by decide +kernel)) (by decide +kernel))⟩, ⟨q7, q790, ⟨by decide +kernel, by decide +kernel, by decide +kernel⟩, by decide +kernel, by decide⟩, _, rfl, rfl⟩
theorem kX6_149 : CaV RX6 149 mX6_sumOfLevels 0 6 := ⟨⟨q791, q793, (inWS (List.mem_of_getElem? (i := 31) (by decide +kernel)) (by decide +kernel))⟩, ⟨q7, q794, ⟨by decide +kernel, by decide +kernel, by decide +kernel⟩, by decide +kernel, by decide⟩, _, rfl, rfl⟩
theorem kX6_153 : CaV RX6 153 mX6_swings 0 6 := ⟨⟨q796, q798, (inWS (List.mem_of_getElem? (i := 32) (by decide +kernel)) (by decide +kernel))⟩, ⟨q7, q799, ⟨by decide +kernel, by decide +kernel, by decide +kernel⟩, by decide +kernel, by decide⟩, _, rfl, rfl⟩
theorem kX6_156 : CaV RX6 156 mX6_greatest 0 6 := ⟨⟨q800, q802, (inWS (List.mem_of_getElem? (i := 33) (by decide +kernel)) (by decide +kernel))⟩, ⟨q7, q803, ⟨by decide +kernel, by decide +kernel, by decide +kernel⟩, by decide +kernel, by decide⟩, _, rfl, rfl⟩
theorem kX6_159 : CaV RX6 159 mX6_lastSwung 0 6 := ⟨⟨q804, q806, (inWS (List.mem_of_getElem? (i := 34) (by decide +kernel)) (by decide +kernel))⟩, ⟨q7, q807, ⟨by decide +kernel, by decide +kernel, by decide +kernel⟩, by decide +kernel, by decide⟩, _, rfl, rfl⟩
theorem fX6_162 : Fl RX6 162 6 7 := ⟨_, rfl, by decide, q578⟩
theorem pX6_162 : Fp RX6 162 6 7 .int false := ⟨_, rfl, by decide, q578, rfl, by decide +kernel, fun h => Bool.noConfusion h⟩
theorem fX6_167 : Fl RX6 167 6 8 := ⟨_, rfl, by decide, q579⟩
theorem pX6_167 : Fp RX6 167 6 8 .int false := ⟨_, rfl, by decide, q579, rfl, by decide +kernel, fun h => Bool.noConfusion h⟩
theorem kX6_170 : CaV RX6 170 mX6_character 1 6 := ⟨⟨q841, q843, (inWS (List.mem_of_getElem? (i := 37) (by decide +kernel)) (by decide +kernel))⟩, ⟨q7, q844, ⟨by decide +kernel, by decide +kernel, by decide +kernel⟩, by decide +kernel, by decide⟩, _, rfl, rfl⟩
theorem kX6_173 : CaV RX6 173 mX6_isDigit 0 6 := ⟨⟨q853, q855, (inWS (List.mem_of_getElem? (i := 40) (by decide +kernel)) (by decide +kernel))⟩, ⟨q7, q856, ⟨by decide +kernel, by decide +kernel, by decide +kernel⟩, by decide +kernel, by decide⟩, _, rfl, rfl⟩
theorem fX6_177 : Fl RX6 177 6 12 := ⟨_, rfl, by decide, q583⟩
theorem pX6_177 : Fp RX6 177 6 12 .int false := ⟨_, rfl, by decide, q583, rfl, by decide +kernel, fun h => Bool.noConfusion h⟩
theorem kX6_180 : CaV RX6 180 mX6_isNext 1 6 := ⟨⟨q865, q867, (inWS (List.mem_of_getElem? (i := 43) (by decide +kernel)) (by decide +kernel))⟩, ⟨q7, q868, ⟨by decide +kernel, by decide +kernel, by decide +kernel⟩, by decide +kernel, by decide⟩, _, rfl, rfl⟩
theorem kX6_183 : CaV RX6 183 mX6_takesNumber 1 6 := ⟨⟨q849, q851, (inWS (List.mem_of_getElem? (i := 39) (by decide +kernel)) (by decide +kernel))⟩, ⟨q7, q852, ⟨by decide +kernel, by decide +kernel, by decide +kernel⟩, by decide +kernel, by decide⟩, _, rfl, rfl⟩
theorem pX6_186 : Fp RX6 186 6 10 .int false := ⟨_, rfl, by decide, q581, rfl, by decide +kernel, fun h => Bool.noConfusion h⟩
theorem fX6_186 : Fl RX6 186 6 10 := ⟨_, rfl, by decide, q581⟩
theorem kX6_189 : CaV RX6 189 mX6_takesSort 0 6 := ⟨⟨q857, q859, (inWS (List.mem_of_getElem? (i := 41) (by decide +kernel)) (by decide +kernel))⟩, ⟨q7, q860, ⟨by decide +kernel, by decide +kernel, by decide +kernel⟩, by decide +kernel, by decide⟩, _, rfl, rfl⟩
theorem kX6_192 : CaV RX6 192 mX6_takesValue 0 6 := ⟨⟨q861, q863, (inWS (List.mem_of_getElem? (i := 42) (by decide +kernel)) (by decide +kernel))⟩, ⟨q7, q864, ⟨by decide +kernel, by decide +kernel, by decide +kernel⟩, by decide +kernel, by decide⟩, _, rfl, rfl⟩
theorem pX6_195 : Fp RX6 195 6 9 .int false := ⟨_, rfl, by decide, q580, rfl, by decide +kernel, fun h => Bool.noConfusion h⟩
theorem fX6_195 : Fl RX6 195 6 9 := ⟨_, rfl, by decide, q580⟩
theorem kX6_198 : CaV RX6 198 mX6_takesRecipe 0 6 := ⟨⟨q845, q847, (inWS (List.mem_of_getElem? (i := 38) (by decide +kernel)) (by decide +kernel))⟩, ⟨q7, q848, ⟨by decide +kernel, by decide +kernel, by decide +kernel⟩, by decide +kernel, by decide⟩, _, rfl, rfl⟩
theorem kX6_201 : CaV RX6 201 mX6_readsOrder 0 6 := ⟨⟨q837, q839, (inWS (List.mem_of_getElem? (i := 36) (by decide +kernel)) (by decide +kernel))⟩, ⟨q7, q840, ⟨by decide +kernel, by decide +kernel, by decide +kernel⟩, by decide +kernel, by decide⟩, _, rfl, rfl⟩
theorem kX6_204 : CaV RX6 204 mX6_findFault 0 6 := ⟨⟨q833, q835, (inWS (List.mem_of_getElem? (i := 35) (by decide +kernel)) (by decide +kernel))⟩, ⟨q7, q836, ⟨by decide +kernel, by decide +kernel, by decide +kernel⟩, by decide +kernel, by decide⟩, _, rfl, rfl⟩
theorem kX6_207 : CaV RX6 207 mX6_canDo 0 6 := ⟨⟨q873, q875, (inWS (List.mem_of_getElem? (i := 44) (by decide +kernel)) (by decide +kernel))⟩, ⟨q7, q876, ⟨by decide +kernel, by decide +kernel, by decide +kernel⟩, by decide +kernel, by decide⟩, _, rfl, rfl⟩
theorem kX6_210 : CaV RX6 210 mX6_does 0 6 := ⟨⟨q877, q879, (inWS (List.mem_of_getElem? (i := 45) (by decide +kernel)) (by decide +kernel))⟩, ⟨q7, q880, ⟨by decide +kernel, by decide +kernel, by decide +kernel⟩, by decide +kernel, by decide⟩, _, rfl, rfl⟩
section ARITY
variable {γ : Gm} {l : Launch} {y z : Mt} {d dz nE nX pc n n' idx : Nat} {L : List (Option Value)} {S : List Value} {M : Mm} {R : Rm} {K : Option Value → Nat → Mm → Rm → Prop} {a1 a2 a3 a4 a5 : Value}
theorem wp_cV0 {b ci : Nat} (hc : CaV y.1.cls idx z 0 ci) (hd : decode y.2.1 pc = .ok (.invokevirtual idx, 3)) (hiL : (iL []).length + 1 ≤ z.2.2.1) (hdz : dz + 1 ≤ d) (ht : tg b = ci) (hb : b < n) (hS : S.length ≤ 4) (hn : n ≤ n') (hnX : n' ≤ nX) (kk : CL γ l z dz n n' [.ref b] M R (kAft γ l y d nE nX pc L S K)) : WP γ l y d nE nX pc L (.ref b :: S) n M R K := wp_callV (As := []) hc hd rfl hiL hdz ht hb hS hn hnX kk
theorem wp_cS0 (hc : CaS y.1.cls idx z 0) (hd : decode y.2.1 pc = .ok (.invokestatic idx, 3)) (hiL : (iL []).length ≤ z.2.2.1) (hdz : dz + 1 ≤ d) (hS : S.length ≤ 4) (hn : n ≤ n') (hnX : n' ≤ nX) (kk : CL γ l z dz n n' [] M R (kAft γ l y d nE nX pc L S K)) : WP γ l y d nE nX pc L (S) n M R K := wp_callS (As := []) hc hd rfl hiL hdz hS hn hnX kk
theorem wp_cT0 (hc : CaSN y.1.cls idx z 0) (hd : decode y.2.1 pc = .ok (.invokestatic idx, 3)) (hiL : (iL []).length ≤ z.2.2.1) (hdz : dz + 1 ≤ d) (hS : S.length ≤ 4) (hn : n ≤ n') (hnX : n' ≤ nX) (kk : CL γ l z dz n n' [] M R (kAft γ l y d nE nX pc L S K)) : WP γ l y d nE nX pc L (S) n M R K := wp_callSN (As := []) hc hd rfl hiL hdz hS hn hnX kk
theorem wp_cV1 {b ci : Nat} (hc : CaV y.1.cls idx z 1 ci) (hd : decode y.2.1 pc = .ok (.invokevirtual idx, 3)) (hiL : (iL [a1]).length + 1 ≤ z.2.2.1) (hdz : dz + 1 ≤ d) (ht : tg b = ci) (hb : b < n) (hS : S.length ≤ 4) (hn : n ≤ n') (hnX : n' ≤ nX) (kk : CL γ l z dz n n' [.ref b, a1] M R (kAft γ l y d nE nX pc L S K)) : WP γ l y d nE nX pc L (a1 :: .ref b :: S) n M R K := wp_callV (As := [a1]) hc hd rfl hiL hdz ht hb hS hn hnX kk
theorem wp_cS1 (hc : CaS y.1.cls idx z 1) (hd : decode y.2.1 pc = .ok (.invokestatic idx, 3)) (hiL : (iL [a1]).length ≤ z.2.2.1) (hdz : dz + 1 ≤ d) (hS : S.length ≤ 4) (hn : n ≤ n') (hnX : n' ≤ nX) (kk : CL γ l z dz n n' [a1] M R (kAft γ l y d nE nX pc L S K)) : WP γ l y d nE nX pc L (a1 :: S) n M R K := wp_callS (As := [a1]) hc hd rfl hiL hdz hS hn hnX kk
theorem wp_cT1 (hc : CaSN y.1.cls idx z 1) (hd : decode y.2.1 pc = .ok (.invokestatic idx, 3)) (hiL : (iL [a1]).length ≤ z.2.2.1) (hdz : dz + 1 ≤ d) (hS : S.length ≤ 4) (hn : n ≤ n') (hnX : n' ≤ nX) (kk : CL γ l z dz n n' [a1] M R (kAft γ l y d nE nX pc L S K)) : WP γ l y d nE nX pc L (a1 :: S) n M R K := wp_callSN (As := [a1]) hc hd rfl hiL hdz hS hn hnX kk
theorem wp_cV2 {b ci : Nat} (hc : CaV y.1.cls idx z 2 ci) (hd : decode y.2.1 pc = .ok (.invokevirtual idx, 3)) (hiL : (iL [a1, a2]).length + 1 ≤ z.2.2.1) (hdz : dz + 1 ≤ d) (ht : tg b = ci) (hb : b < n) (hS : S.length ≤ 4) (hn : n ≤ n') (hnX : n' ≤ nX) (kk : CL γ l z dz n n' [.ref b, a1, a2] M R (kAft γ l y d nE nX pc L S K)) : WP γ l y d nE nX pc L (a2 :: a1 :: .ref b :: S) n M R K := wp_callV (As := [a1, a2]) hc hd rfl hiL hdz ht hb hS hn hnX kk
theorem wp_cS2 (hc : CaS y.1.cls idx z 2) (hd : decode y.2.1 pc = .ok (.invokestatic idx, 3)) (hiL : (iL [a1, a2]).length ≤ z.2.2.1) (hdz : dz + 1 ≤ d) (hS : S.length ≤ 4) (hn : n ≤ n') (hnX : n' ≤ nX) (kk : CL γ l z dz n n' [a1, a2] M R (kAft γ l y d nE nX pc L S K)) : WP γ l y d nE nX pc L (a2 :: a1 :: S) n M R K := wp_callS (As := [a1, a2]) hc hd rfl hiL hdz hS hn hnX kk
theorem wp_cT2 (hc : CaSN y.1.cls idx z 2) (hd : decode y.2.1 pc = .ok (.invokestatic idx, 3)) (hiL : (iL [a1, a2]).length ≤ z.2.2.1) (hdz : dz + 1 ≤ d) (hS : S.length ≤ 4) (hn : n ≤ n') (hnX : n' ≤ nX) (kk : CL γ l z dz n n' [a1, a2] M R (kAft γ l y d nE nX pc L S K)) : WP γ l y d nE nX pc L (a2 :: a1 :: S) n M R K := wp_callSN (As := [a1, a2]) hc hd rfl hiL hdz hS hn hnX kk
theorem wp_cV3 {b ci : Nat} (hc : CaV y.1.cls idx z 3 ci) (hd : decode y.2.1 pc = .ok (.invokevirtual idx, 3)) (hiL : (iL [a1, a2, a3]).length + 1 ≤ z.2.2.1) (hdz : dz + 1 ≤ d) (ht : tg b = ci) (hb : b < n) (hS : S.length ≤ 4) (hn : n ≤ n') (hnX : n' ≤ nX) (kk : CL γ l z dz n n' [.ref b, a1, a2, a3] M R (kAft γ l y d nE nX pc L S K)) : WP γ l y d nE nX pc L (a3 :: a2 :: a1 :: .ref b :: S) n M R K := wp_callV (As := [a1, a2, a3]) hc hd rfl hiL hdz ht hb hS hn hnX kk
theorem wp_cS3 (hc : CaS y.1.cls idx z 3) (hd : decode y.2.1 pc = .ok (.invokestatic idx, 3)) (hiL : (iL [a1, a2, a3]).length ≤ z.2.2.1) (hdz : dz + 1 ≤ d) (hS : S.length ≤ 4) (hn : n ≤ n') (hnX : n' ≤ nX) (kk : CL γ l z dz n n' [a1, a2, a3] M R (kAft γ l y d nE nX pc L S K)) : WP γ l y d nE nX pc L (a3 :: a2 :: a1 :: S) n M R K := wp_callS (As := [a1, a2, a3]) hc hd rfl hiL hdz hS hn hnX kk
theorem wp_cT3 (hc : CaSN y.1.cls idx z 3) (hd : decode y.2.1 pc = .ok (.invokestatic idx, 3)) (hiL : (iL [a1, a2, a3]).length ≤ z.2.2.1) (hdz : dz + 1 ≤ d) (hS : S.length ≤ 4) (hn : n ≤ n') (hnX : n' ≤ nX) (kk : CL γ l z dz n n' [a1, a2, a3] M R (kAft γ l y d nE nX pc L S K)) : WP γ l y d nE nX pc L (a3 :: a2 :: a1 :: S) n M R K := wp_callSN (As := [a1, a2, a3]) hc hd rfl hiL hdz hS hn hnX kk
theorem wp_cV4 {b ci : Nat} (hc : CaV y.1.cls idx z 4 ci) (hd : decode y.2.1 pc = .ok (.invokevirtual idx, 3)) (hiL : (iL [a1, a2, a3, a4]).length + 1 ≤ z.2.2.1) (hdz : dz + 1 ≤ d) (ht : tg b = ci) (hb : b < n) (hS : S.length ≤ 4) (hn : n ≤ n') (hnX : n' ≤ nX) (kk : CL γ l z dz n n' [.ref b, a1, a2, a3, a4] M R (kAft γ l y d nE nX pc L S K)) : WP γ l y d nE nX pc L (a4 :: a3 :: a2 :: a1 :: .ref b :: S) n M R K := wp_callV (As := [a1, a2, a3, a4]) hc hd rfl hiL hdz ht hb hS hn hnX kk
theorem wp_cS4 (hc : CaS y.1.cls idx z 4) (hd : decode y.2.1 pc = .ok (.invokestatic idx, 3)) (hiL : (iL [a1, a2, a3, a4]).length ≤ z.2.2.1) (hdz : dz + 1 ≤ d) (hS : S.length ≤ 4) (hn : n ≤ n') (hnX : n' ≤ nX) (kk : CL γ l z dz n n' [a1, a2, a3, a4] M R (kAft γ l y d nE nX pc L S K)) : WP γ l y d nE nX pc L (a4 :: a3 :: a2 :: a1 :: S) n M R K := wp_callS (As := [a1, a2, a3, a4]) hc hd rfl hiL hdz hS hn hnX kk
theorem wp_cT4 (hc : CaSN y.1.cls idx z 4) (hd : decode y.2.1 pc = .ok (.invokestatic idx, 3)) (hiL : (iL [a1, a2, a3, a4]).length ≤ z.2.2.1) (hdz : dz + 1 ≤ d) (hS : S.length ≤ 4) (hn : n ≤ n') (hnX : n' ≤ nX) (kk : CL γ l z dz n n' [a1, a2, a3, a4] M R (kAft γ l y d nE nX pc L S K)) : WP γ l y d nE nX pc L (a4 :: a3 :: a2 :: a1 :: S) n M R K := wp_callSN (As := [a1, a2, a3, a4]) hc hd rfl hiL hdz hS hn hnX kk
theorem wp_cV5 {b ci : Nat} (hc : CaV y.1.cls idx z 5 ci) (hd : decode y.2.1 pc = .ok (.invokevirtual idx, 3)) (hiL : (iL [a1, a2, a3, a4, a5]).length + 1 ≤ z.2.2.1) (hdz : dz + 1 ≤ d) (ht : tg b = ci) (hb : b < n) (hS : S.length ≤ 4) (hn : n ≤ n') (hnX : n' ≤ nX) (kk : CL γ l z dz n n' [.ref b, a1, a2, a3, a4, a5] M R (kAft γ l y d nE nX pc L S K)) : WP γ l y d nE nX pc L (a5 :: a4 :: a3 :: a2 :: a1 :: .ref b :: S) n M R K := wp_callV (As := [a1, a2, a3, a4, a5]) hc hd rfl hiL hdz ht hb hS hn hnX kk
theorem wp_cS5 (hc : CaS y.1.cls idx z 5) (hd : decode y.2.1 pc = .ok (.invokestatic idx, 3)) (hiL : (iL [a1, a2, a3, a4, a5]).length ≤ z.2.2.1) (hdz : dz + 1 ≤ d) (hS : S.length ≤ 4) (hn : n ≤ n') (hnX : n' ≤ nX) (kk : CL γ l z dz n n' [a1, a2, a3, a4, a5] M R (kAft γ l y d nE nX pc L S K)) : WP γ l y d nE nX pc L (a5 :: a4 :: a3 :: a2 :: a1 :: S) n M R K := wp_callS (As := [a1, a2, a3, a4, a5]) hc hd rfl hiL hdz hS hn hnX kk
theorem wp_cT5 (hc : CaSN y.1.cls idx z 5) (hd : decode y.2.1 pc = .ok (.invokestatic idx, 3)) (hiL : (iL [a1, a2, a3, a4, a5]).length ≤ z.2.2.1) (hdz : dz + 1 ≤ d) (hS : S.length ≤ 4) (hn : n ≤ n') (hnX : n' ≤ nX) (kk : CL γ l z dz n n' [a1, a2, a3, a4, a5] M R (kAft γ l y d nE nX pc L S K)) : WP γ l y d nE nX pc L (a5 :: a4 :: a3 :: a2 :: a1 :: S) n M R K := wp_callSN (As := [a1, a2, a3, a4, a5]) hc hd rfl hiL hdz hS hn hnX kk
theorem wp_af {v : Value} (h : WP γ l y d nE nX (pc + 3) L (v :: S) n M R K) : kAft γ l y d nE nX pc L S K (some v) n M R := h
theorem wp_af0 (h : WP γ l y d nE nX (pc + 3) L S n M R K) : kAft γ l y d nE nX pc L S K none n M R := h
theorem wp_getQ {a ci k b : Nat} (hF : Fl y.1.cls idx ci k) (ht : tg a = ci) (hr : isR ci k = true) (e : R a k = b) (h0 : b ≠ 0) (ha : a < n) (hd : decode y.2.1 pc = .ok (.getfield idx, 3)) (kk : WP γ l y d nE nX (pc + 3) L (.ref b :: S) n M R K) : WP γ l y d nE nX pc L (.ref a :: S) n M R K := wp_getR hF ht hr (by rw [e]; exact h0) ha hd (by rw [e]; exact kk)
theorem wp_aalq {a i b : Nat} {x : Int32} (hx : x = nI i) (ht : 13 ≤ tg a ∧ tg a < 16) (hi : i < ln a) (e : R a i = b) (h0 : b ≠ 0) (ha : a < n) (hd : decode y.2.1 pc = .ok (.aaload, 1)) (kk : WP γ l y d nE nX (pc + 1) L (.ref b :: S) n M R K) : WP γ l y d nE nX pc L (.int x :: .ref a :: S) n M R K := wp_aald hx ht hi (by rw [e]; exact h0) ha hd (by rw [e]; exact kk)
end ARITY
