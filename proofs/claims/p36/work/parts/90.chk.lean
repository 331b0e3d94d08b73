section
theorem xm_k101 : xm_c101.all (xm_chk "ShodBackwards" ("<init>" == "<init>") prog_1_method_1_code xm_c101 2 0 xm_mt) = true := by decide +kernel
theorem xm_k102 : xm_c102.all (xm_chk "ShodBackwards" ("ground" == "<init>") prog_1_method_2_code xm_c102 4 1 xm_mt) = true := by decide +kernel
theorem xm_k103 : xm_c103.all (xm_chk "ShodBackwards" ("frost" == "<init>") prog_1_method_3_code xm_c103 3 1 xm_mt) = true := by decide +kernel
theorem xm_k104 : xm_c104.all (xm_chk "ShodBackwards" ("rider" == "<init>") prog_1_method_4_code xm_c104 3 1 xm_mt) = true := by decide +kernel
theorem xm_k105 : xm_c105.all (xm_chk "ShodBackwards" ("riderIs" == "<init>") prog_1_method_5_code xm_c105 3 1 xm_mt) = true := by decide +kernel
theorem xm_k106 : xm_c106.all (xm_chk "ShodBackwards" ("as" == "<init>") prog_1_method_6_code xm_c106 3 1 xm_mt) = true := by decide +kernel
theorem xm_k107 : xm_c107.all (xm_chk "ShodBackwards" ("set" == "<init>") prog_1_method_7_code xm_c107 5 1 xm_mt) = true := by decide +kernel
theorem xm_k108 : xm_c108.all (xm_chk "ShodBackwards" ("way" == "<init>") prog_1_method_8_code xm_c108 3 1 xm_mt) = true := by decide +kernel
theorem xm_k109 : xm_c109.all (xm_chk "ShodBackwards" ("halt" == "<init>") prog_1_method_9_code xm_c109 4 1 xm_mt) = true := by decide +kernel
theorem xm_k110 : xm_c110.all (xm_chk "ShodBackwards" ("feed" == "<init>") prog_1_method_10_code xm_c110 5 1 xm_mt) = true := by decide +kernel
theorem xm_k111 : xm_c111.all (xm_chk "ShodBackwards" ("text" == "<init>") prog_1_method_11_code xm_c111 3 1 xm_mt) = true := by decide +kernel
theorem xm_k112 : xm_c112.all (xm_chk "ShodBackwards" ("untell" == "<init>") prog_1_method_12_code xm_c112 3 1 xm_mt) = true := by decide +kernel
theorem xm_k113 : xm_c113.all (xm_chk "ShodBackwards" ("hours" == "<init>") prog_1_method_13_code xm_c113 2 1 xm_mt) = true := by decide +kernel
theorem xm_k114 : xm_c114.all (xm_chk "ShodBackwards" ("draws" == "<init>") prog_1_method_14_code xm_c114 3 1 xm_mt) = true := by decide +kernel
theorem xm_k115 : xm_c115.all (xm_chk "ShodBackwards" ("seed" == "<init>") prog_1_method_15_code xm_c115 3 1 xm_mt) = true := by decide +kernel
theorem xm_k116 : xm_c116.all (xm_chk "ShodBackwards" ("print" == "<init>") prog_1_method_16_code xm_c116 3 1 xm_mt) = true := by decide +kernel
theorem xm_k117 : xm_c117.all (xm_chk "ShodBackwards" ("cellIs" == "<init>") prog_1_method_17_code xm_c117 3 1 xm_mt) = true := by decide +kernel
theorem xm_k118 : xm_c118.all (xm_chk "ShodBackwards" ("follow" == "<init>") prog_1_method_18_code xm_c118 5 1 xm_mt) = true := by decide +kernel
theorem xm_k119 : xm_c119.all (xm_chk "ShodBackwards" ("then" == "<init>") prog_1_method_19_code xm_c119 4 1 xm_mt) = true := by decide +kernel
theorem xm_k120 : xm_c120.all (xm_chk "ShodBackwards" ("thenCell" == "<init>") prog_1_method_20_code xm_c120 4 1 xm_mt) = true := by decide +kernel
theorem xm_k121 : xm_c121.all (xm_chk "ShodBackwards" ("loads" == "<init>") prog_1_method_21_code xm_c121 7 1 xm_mt) = true := by decide +kernel
theorem xm_k122 : xm_c122.all (xm_chk "ShodBackwards" ("kinds" == "<init>") prog_1_method_22_code xm_c122 6 1 xm_mt) = true := by decide +kernel
theorem xm_k123 : xm_c123.all (xm_chk "ShodBackwards" ("leastFound" == "<init>") prog_1_method_23_code xm_c123 8 1 xm_mt) = true := by decide +kernel
theorem xm_k124 : xm_c124.all (xm_chk "ShodBackwards" ("decoy" == "<init>") prog_1_method_24_code xm_c124 6 1 xm_mt) = true := by decide +kernel
theorem xm_k125 : xm_c125.all (xm_chk "ShodBackwards" ("rest" == "<init>") prog_1_method_25_code xm_c125 5 1 xm_mt) = true := by decide +kernel
theorem xm_k126 : xm_c126.all (xm_chk "ShodBackwards" ("voice" == "<init>") prog_1_method_26_code xm_c126 4 1 xm_mt) = true := by decide +kernel
theorem xm_k127 : xm_c127.all (xm_chk "ShodBackwards" ("body" == "<init>") prog_1_method_27_code xm_c127 2 1 xm_mt) = true := by decide +kernel
theorem xm_k128 : xm_c128.all (xm_chk "ShodBackwards" ("sheet" == "<init>") prog_1_method_28_code xm_c128 4 1 xm_mt) = true := by decide +kernel
theorem xm_k129 : xm_c129.all (xm_chk "ShodBackwards" ("put" == "<init>") prog_1_method_29_code xm_c129 4 1 xm_mt) = true := by decide +kernel
theorem xm_k130 : xm_c130.all (xm_chk "ShodBackwards" ("move" == "<init>") prog_1_method_30_code xm_c130 8 1 xm_mt) = true := by decide +kernel
theorem xm_k131 : xm_c131.all (xm_chk "ShodBackwards" ("ways" == "<init>") prog_1_method_31_code xm_c131 6 1 xm_mt) = true := by decide +kernel
theorem xm_k132 : xm_c132.all (xm_chk "ShodBackwards" ("judge" == "<init>") prog_1_method_32_code xm_c132 5 1 xm_mt) = true := by decide +kernel
theorem xm_k133 : xm_c133.all (xm_chk "ShodBackwards" ("image" == "<init>") prog_1_method_33_code xm_c133 1 1 xm_mt) = true := by decide +kernel
theorem xm_k134 : xm_c134.all (xm_chk "ShodBackwards" ("restore" == "<init>") prog_1_method_34_code xm_c134 1 1 xm_mt) = true := by decide +kernel
theorem xm_k135 : xm_c135.all (xm_chk "ShodBackwards" ("tell" == "<init>") prog_1_method_35_code xm_c135 2 1 xm_mt) = true := by decide +kernel
theorem xm_k136 : xm_c136.all (xm_chk "ShodBackwards" ("check" == "<init>") prog_1_method_36_code xm_c136 3 1 xm_mt) = true := by decide +kernel
theorem xm_k137 : xm_c137.all (xm_chk "ShodBackwards" ("count" == "<init>") prog_1_method_37_code xm_c137 2 1 xm_mt) = true := by decide +kernel
theorem xm_k138 : xm_c138.all (xm_chk "ShodBackwards" ("told" == "<init>") prog_1_method_38_code xm_c138 2 1 xm_mt) = true := by decide +kernel
theorem xm_k139 : xm_c139.all (xm_chk "ShodBackwards" ("refuse" == "<init>") prog_1_method_39_code xm_c139 2 1 xm_mt) = true := by decide +kernel
theorem xm_k140 : xm_c140.all (xm_chk "ShodBackwards" ("lookAhead" == "<init>") prog_1_method_40_code xm_c140 2 0 xm_mt) = true := by decide +kernel
theorem xm_k141 : xm_c141.all (xm_chk "ShodBackwards" ("isRider" == "<init>") prog_1_method_41_code xm_c141 2 2 xm_mt) = true := by decide +kernel
theorem xm_k142 : xm_c142.all (xm_chk "ShodBackwards" ("within" == "<init>") prog_1_method_42_code xm_c142 3 2 xm_mt) = true := by decide +kernel
theorem xm_k143 : xm_c143.all (xm_chk "ShodBackwards" ("isCell" == "<init>") prog_1_method_43_code xm_c143 1 2 xm_mt) = true := by decide +kernel
theorem xm_k144 : xm_c144.all (xm_chk "ShodBackwards" ("isRiderFact" == "<init>") prog_1_method_44_code xm_c144 1 2 xm_mt) = true := by decide +kernel
theorem xm_k145 : xm_c145.all (xm_chk "ShodBackwards" ("isCellFact" == "<init>") prog_1_method_45_code xm_c145 1 2 xm_mt) = true := by decide +kernel
theorem xm_k146 : xm_c146.all (xm_chk "ShodBackwards" ("isUse" == "<init>") prog_1_method_46_code xm_c146 1 2 xm_mt) = true := by decide +kernel
theorem xm_k147 : xm_c147.all (xm_chk "ShodBackwards" ("isSheet" == "<init>") prog_1_method_47_code xm_c147 1 2 xm_mt) = true := by decide +kernel
theorem xm_k148 : xm_c148.all (xm_chk "ShodBackwards" ("isOrUnder" == "<init>") prog_1_method_48_code xm_c148 4 2 xm_mt) = true := by decide +kernel
theorem xm_k149 : xm_c149.all (xm_chk "ShodBackwards" ("far" == "<init>") prog_1_method_49_code xm_c149 2 1 xm_mt) = true := by decide +kernel
theorem xm_k150 : xm_c150.all (xm_chk "ShodBackwards" ("nextCell" == "<init>") prog_1_method_50_code xm_c150 2 1 xm_mt) = true := by decide +kernel
theorem xm_k151 : xm_c151.all (xm_chk "ShodBackwards" ("back" == "<init>") prog_1_method_51_code xm_c151 1 1 xm_mt) = true := by decide +kernel
theorem xm_k152 : xm_c152.all (xm_chk "ShodBackwards" ("shownBy" == "<init>") prog_1_method_52_code xm_c152 5 1 xm_mt) = true := by decide +kernel
theorem xm_k153 : xm_c153.all (xm_chk "ShodBackwards" ("depthOf" == "<init>") prog_1_method_53_code xm_c153 4 1 xm_mt) = true := by decide +kernel
theorem xm_k201 : xm_c201.all (xm_chk "ShodBackwards$Bargain" ("<init>" == "<init>") prog_2_method_1_code xm_c201 1 0 xm_mt) = true := by decide +kernel
theorem xm_k202 : xm_c202.all (xm_chk "ShodBackwards$Bargain" ("strike" == "<init>") prog_2_method_2_code xm_c202 12 0 xm_mt) = true := by decide +kernel
theorem xm_k203 : xm_c203.all (xm_chk "ShodBackwards$Bargain" ("tells" == "<init>") prog_2_method_3_code xm_c203 2 1 xm_mt) = true := by decide +kernel
theorem xm_k204 : xm_c204.all (xm_chk "ShodBackwards$Bargain" ("greatestDivisor" == "<init>") prog_2_method_4_code xm_c204 6 1 xm_mt) = true := by decide +kernel
theorem xm_k301 : xm_c301.all (xm_chk "ShodBackwards$Desk" ("<init>" == "<init>") prog_3_method_1_code xm_c301 1 0 xm_mt) = true := by decide +kernel
theorem xm_k302 : xm_c302.all (xm_chk "ShodBackwards$Desk" ("copyFrom" == "<init>") prog_3_method_2_code xm_c302 2 0 xm_mt) = true := by decide +kernel
theorem xm_k303 : xm_c303.all (xm_chk "ShodBackwards$Desk" ("drawn" == "<init>") prog_3_method_3_code xm_c303 1 1 xm_mt) = true := by decide +kernel
end
section
theorem xm_k401 : xm_c401.all (xm_chk "ShodBackwards$Moor" ("<init>" == "<init>") prog_4_method_1_code xm_c401 2 0 xm_mt) = true := by decide +kernel
theorem xm_k402 : xm_c402.all (xm_chk "ShodBackwards$Moor" ("copyFrom" == "<init>") prog_4_method_2_code xm_c402 3 0 xm_mt) = true := by decide +kernel
theorem xm_k403 : xm_c403.all (xm_chk "ShodBackwards$Moor" ("keeps" == "<init>") prog_4_method_3_code xm_c403 2 1 xm_mt) = true := by decide +kernel
theorem xm_k404 : xm_c404.all (xm_chk "ShodBackwards$Moor" ("passHours" == "<init>") prog_4_method_4_code xm_c404 3 0 xm_mt) = true := by decide +kernel
theorem xm_k405 : xm_c405.all (xm_chk "ShodBackwards$Moor" ("passHour" == "<init>") prog_4_method_5_code xm_c405 2 0 xm_mt) = true := by decide +kernel
theorem xm_k406 : xm_c406.all (xm_chk "ShodBackwards$Moor" ("takeStep" == "<init>") prog_4_method_6_code xm_c406 6 0 xm_mt) = true := by decide +kernel
theorem xm_k407 : xm_c407.all (xm_chk "ShodBackwards$Moor" ("shownByShoes" == "<init>") prog_4_method_7_code xm_c407 5 1 xm_mt) = true := by decide +kernel
theorem xm_k408 : xm_c408.all (xm_chk "ShodBackwards$Moor" ("leave" == "<init>") prog_4_method_8_code xm_c408 5 0 xm_mt) = true := by decide +kernel
theorem xm_k409 : xm_c409.all (xm_chk "ShodBackwards$Moor" ("fade" == "<init>") prog_4_method_9_code xm_c409 4 0 xm_mt) = true := by decide +kernel
theorem xm_k410 : xm_c410.all (xm_chk "ShodBackwards$Moor" ("tread" == "<init>") prog_4_method_10_code xm_c410 4 0 xm_mt) = true := by decide +kernel
theorem xm_k411 : xm_c411.all (xm_chk "ShodBackwards$Moor" ("keepPrint" == "<init>") prog_4_method_11_code xm_c411 3 0 xm_mt) = true := by decide +kernel
theorem xm_k412 : xm_c412.all (xm_chk "ShodBackwards$Moor" ("riderFact" == "<init>") prog_4_method_12_code xm_c412 3 1 xm_mt) = true := by decide +kernel
theorem xm_k413 : xm_c413.all (xm_chk "ShodBackwards$Moor" ("cellFact" == "<init>") prog_4_method_13_code xm_c413 4 1 xm_mt) = true := by decide +kernel
theorem xm_k414 : xm_c414.all (xm_chk "ShodBackwards$Moor" ("printsWith" == "<init>") prog_4_method_14_code xm_c414 5 1 xm_mt) = true := by decide +kernel
theorem xm_k415 : xm_c415.all (xm_chk "ShodBackwards$Moor" ("latestAt" == "<init>") prog_4_method_15_code xm_c415 4 1 xm_mt) = true := by decide +kernel
theorem xm_k416 : xm_c416.all (xm_chk "ShodBackwards$Moor" ("deepestAt" == "<init>") prog_4_method_16_code xm_c416 4 1 xm_mt) = true := by decide +kernel
theorem xm_k417 : xm_c417.all (xm_chk "ShodBackwards$Moor" ("doubtOf" == "<init>") prog_4_method_17_code xm_c417 5 1 xm_mt) = true := by decide +kernel
theorem xm_k418 : xm_c418.all (xm_chk "ShodBackwards$Moor" ("trail" == "<init>") prog_4_method_18_code xm_c418 10 1 xm_mt) = true := by decide +kernel
theorem xm_k419 : xm_c419.all (xm_chk "ShodBackwards$Moor" ("wouldLeaveAll" == "<init>") prog_4_method_19_code xm_c419 13 2 xm_mt) = true := by decide +kernel
theorem xm_k420 : xm_c420.all (xm_chk "ShodBackwards$Moor" ("printOf" == "<init>") prog_4_method_20_code xm_c420 4 1 xm_mt) = true := by decide +kernel
theorem xm_k421 : xm_c421.all (xm_chk "ShodBackwards$Moor" ("isPrint" == "<init>") prog_4_method_21_code xm_c421 7 2 xm_mt) = true := by decide +kernel
theorem xm_k501 : xm_c501.all (xm_chk "ShodBackwards$Reader" ("<init>" == "<init>") prog_5_method_1_code xm_c501 1 0 xm_mt) = true := by decide +kernel
theorem xm_k502 : xm_c502.all (xm_chk "ShodBackwards$Reader" ("read" == "<init>") prog_5_method_2_code xm_c502 4 2 xm_mt) = true := by decide +kernel
theorem xm_k503 : xm_c503.all (xm_chk "ShodBackwards$Reader" ("made" == "<init>") prog_5_method_3_code xm_c503 2 3 xm_mt) = true := by decide +kernel
theorem xm_k504 : xm_c504.all (xm_chk "ShodBackwards$Reader" ("readLevel" == "<init>") prog_5_method_4_code xm_c504 4 2 xm_mt) = true := by decide +kernel
theorem xm_k505 : xm_c505.all (xm_chk "ShodBackwards$Reader" ("readUnit" == "<init>") prog_5_method_5_code xm_c505 4 2 xm_mt) = true := by decide +kernel
theorem xm_k506 : xm_c506.all (xm_chk "ShodBackwards$Reader" ("readDenied" == "<init>") prog_5_method_6_code xm_c506 2 2 xm_mt) = true := by decide +kernel
theorem xm_k507 : xm_c507.all (xm_chk "ShodBackwards$Reader" ("readEnclosed" == "<init>") prog_5_method_7_code xm_c507 2 2 xm_mt) = true := by decide +kernel
theorem xm_k508 : xm_c508.all (xm_chk "ShodBackwards$Reader" ("readNumber" == "<init>") prog_5_method_8_code xm_c508 3 0 xm_mt) = true := by decide +kernel
theorem xm_k509 : xm_c509.all (xm_chk "ShodBackwards$Reader" ("note" == "<init>") prog_5_method_9_code xm_c509 2 0 xm_mt) = true := by decide +kernel
theorem xm_k510 : xm_c510.all (xm_chk "ShodBackwards$Reader" ("isDigit" == "<init>") prog_5_method_10_code xm_c510 1 2 xm_mt) = true := by decide +kernel
theorem xm_k511 : xm_c511.all (xm_chk "ShodBackwards$Reader" ("levelOf" == "<init>") prog_5_method_11_code xm_c511 1 1 xm_mt) = true := by decide +kernel
theorem xm_k601 : xm_c601.all (xm_chk "ShodBackwards$Rider" ("<init>" == "<init>") prog_6_method_1_code xm_c601 1 0 xm_mt) = true := by decide +kernel
theorem xm_k602 : xm_c602.all (xm_chk "ShodBackwards$Rider" ("begin" == "<init>") prog_6_method_2_code xm_c602 4 0 xm_mt) = true := by decide +kernel
theorem xm_k603 : xm_c603.all (xm_chk "ShodBackwards$Rider" ("copyFrom" == "<init>") prog_6_method_3_code xm_c603 2 0 xm_mt) = true := by decide +kernel
theorem xm_k604 : xm_c604.all (xm_chk "ShodBackwards$Rider" ("addWay" == "<init>") prog_6_method_4_code xm_c604 2 2 xm_mt) = true := by decide +kernel
theorem xm_k605 : xm_c605.all (xm_chk "ShodBackwards$Rider" ("greatest" == "<init>") prog_6_method_5_code xm_c605 2 1 xm_mt) = true := by decide +kernel
theorem xm_k606 : xm_c606.all (xm_chk "ShodBackwards$Rider" ("change" == "<init>") prog_6_method_6_code xm_c606 4 1 xm_mt) = true := by decide +kernel
theorem xm_k607 : xm_c607.all (xm_chk "ShodBackwards$Rider" ("fact" == "<init>") prog_6_method_7_code xm_c607 2 1 xm_mt) = true := by decide +kernel
theorem xm_k701 : xm_c701.all (xm_chk "ShodBackwards$Sheet" ("<init>" == "<init>") prog_7_method_1_code xm_c701 1 0 xm_mt) = true := by decide +kernel
theorem xm_k702 : xm_c702.all (xm_chk "ShodBackwards$Sheet" ("isMissing" == "<init>") prog_7_method_2_code xm_c702 1 2 xm_mt) = true := by decide +kernel
theorem xm_k703 : xm_c703.all (xm_chk "ShodBackwards$Sheet" ("begin" == "<init>") prog_7_method_3_code xm_c703 4 0 xm_mt) = true := by decide +kernel
theorem xm_k704 : xm_c704.all (xm_chk "ShodBackwards$Sheet" ("write" == "<init>") prog_7_method_4_code xm_c704 3 0 xm_mt) = true := by decide +kernel
theorem xm_k705 : xm_c705.all (xm_chk "ShodBackwards$Sheet" ("has" == "<init>") prog_7_method_5_code xm_c705 3 2 xm_mt) = true := by decide +kernel
theorem xm_k801 : xm_c801.all (xm_chk "ShodBackwards$Speaker" ("<init>" == "<init>") prog_8_method_1_code xm_c801 1 0 xm_mt) = true := by decide +kernel
theorem xm_k802 : xm_c802.all (xm_chk "ShodBackwards$Speaker" ("answer" == "<init>") prog_8_method_2_code xm_c802 5 1 xm_mt) = true := by decide +kernel
theorem xm_k803 : xm_c803.all (xm_chk "ShodBackwards$Speaker" ("say" == "<init>") prog_8_method_3_code xm_c803 7 1 xm_mt) = true := by decide +kernel
theorem xm_k804 : xm_c804.all (xm_chk "ShodBackwards$Speaker" ("workOut" == "<init>") prog_8_method_4_code xm_c804 5 1 xm_mt) = true := by decide +kernel
theorem xm_k805 : xm_c805.all (xm_chk "ShodBackwards$Speaker" ("holderOf" == "<init>") prog_8_method_5_code xm_c805 4 1 xm_mt) = true := by decide +kernel
theorem xm_k806 : xm_c806.all (xm_chk "ShodBackwards$Speaker" ("begin" == "<init>") prog_8_method_6_code xm_c806 2 0 xm_mt) = true := by decide +kernel
theorem xm_k901 : xm_c901.all (xm_chk "ShodBackwards$Text" ("<init>" == "<init>") prog_9_method_1_code xm_c901 2 0 xm_mt) = true := by decide +kernel
theorem xm_k902 : xm_c902.all (xm_chk "ShodBackwards$Text" ("worth" == "<init>") prog_9_method_2_code xm_c902 6 1 xm_mt) = true := by decide +kernel
theorem xm_k903 : xm_c903.all (xm_chk "ShodBackwards$Text" ("joined" == "<init>") prog_9_method_3_code xm_c903 3 1 xm_mt) = true := by decide +kernel
theorem xm_k1101 : xm_c1101.all (xm_chk "ShodBackwardsModel" ("<init>" == "<init>") prog_11_method_1_code xm_c1101 1 0 xm_mt) = true := by decide +kernel
theorem xm_k1102 : xm_c1102.all (xm_chk "ShodBackwardsModel" ("error" == "<init>") prog_11_method_2_code xm_c1102 2 1 xm_mt) = true := by decide +kernel
theorem xm_k1103 : xm_c1103.all (xm_chk "ShodBackwardsModel" ("in" == "<init>") prog_11_method_3_code xm_c1103 3 2 xm_mt) = true := by decide +kernel
theorem xm_k1104 : xm_c1104.all (xm_chk "ShodBackwardsModel" ("held" == "<init>") prog_11_method_4_code xm_c1104 3 1 xm_mt) = true := by decide +kernel
theorem xm_k1105 : xm_c1105.all (xm_chk "ShodBackwardsModel" ("carry" == "<init>") prog_11_method_5_code xm_c1105 4 0 xm_mt) = true := by decide +kernel
theorem xm_k1106 : xm_c1106.all (xm_chk "ShodBackwardsModel" ("layDown" == "<init>") prog_11_method_6_code xm_c1106 1 0 xm_mt) = true := by decide +kernel
theorem xm_k1107 : xm_c1107.all (xm_chk "ShodBackwardsModel" ("layBack" == "<init>") prog_11_method_7_code xm_c1107 1 0 xm_mt) = true := by decide +kernel
end
section
theorem xm_k1108 : xm_c1108.all (xm_chk "ShodBackwardsModel" ("isCell" == "<init>") prog_11_method_8_code xm_c1108 1 2 xm_mt) = true := by decide +kernel
theorem xm_k1109 : xm_c1109.all (xm_chk "ShodBackwardsModel" ("isRider" == "<init>") prog_11_method_9_code xm_c1109 2 2 xm_mt) = true := by decide +kernel
theorem xm_k1110 : xm_c1110.all (xm_chk "ShodBackwardsModel" ("its" == "<init>") prog_11_method_10_code xm_c1110 3 1 xm_mt) = true := by decide +kernel
theorem xm_k1111 : xm_c1111.all (xm_chk "ShodBackwardsModel" ("lays1" == "<init>") prog_11_method_11_code xm_c1111 4 0 xm_mt) = true := by decide +kernel
theorem xm_k1112 : xm_c1112.all (xm_chk "ShodBackwardsModel" ("of" == "<init>") prog_11_method_12_code xm_c1112 3 1 xm_mt) = true := by decide +kernel
theorem xm_k1113 : xm_c1113.all (xm_chk "ShodBackwardsModel" ("change1" == "<init>") prog_11_method_13_code xm_c1113 4 1 xm_mt) = true := by decide +kernel
theorem xm_k1114 : xm_c1114.all (xm_chk "ShodBackwardsModel" ("feed" == "<init>") prog_11_method_14_code xm_c1114 5 1 xm_mt) = true := by decide +kernel
theorem xm_k1115 : xm_c1115.all (xm_chk "ShodBackwardsModel" ("look" == "<init>") prog_11_method_15_code xm_c1115 1 1 xm_mt) = true := by decide +kernel
theorem xm_k1116 : xm_c1116.all (xm_chk "ShodBackwardsModel" ("isName" == "<init>") prog_11_method_16_code xm_c1116 2 2 xm_mt) = true := by decide +kernel
theorem xm_k1117 : xm_c1117.all (xm_chk "ShodBackwardsModel" ("step1" == "<init>") prog_11_method_17_code xm_c1117 3 0 xm_mt) = true := by decide +kernel
theorem xm_k1118 : xm_c1118.all (xm_chk "ShodBackwardsModel" ("whole" == "<init>") prog_11_method_18_code xm_c1118 1 2 xm_mt) = true := by decide +kernel
theorem xm_k1119 : xm_c1119.all (xm_chk "ShodBackwardsModel" ("both" == "<init>") prog_11_method_19_code xm_c1119 1 2 xm_mt) = true := by decide +kernel
theorem xm_k1120 : xm_c1120.all (xm_chk "ShodBackwardsModel" ("compared" == "<init>") prog_11_method_20_code xm_c1120 2 2 xm_mt) = true := by decide +kernel
theorem xm_k1121 : xm_c1121.all (xm_chk "ShodBackwardsModel" ("sum" == "<init>") prog_11_method_21_code xm_c1121 2 2 xm_mt) = true := by decide +kernel
theorem xm_k1122 : xm_c1122.all (xm_chk "ShodBackwardsModel" ("product" == "<init>") prog_11_method_22_code xm_c1122 2 2 xm_mt) = true := by decide +kernel
theorem xm_k1123 : xm_c1123.all (xm_chk "ShodBackwardsModel" ("opens" == "<init>") prog_11_method_23_code xm_c1123 1 2 xm_mt) = true := by decide +kernel
theorem xm_k1124 : xm_c1124.all (xm_chk "ShodBackwardsModel" ("one" == "<init>") prog_11_method_24_code xm_c1124 4 2 xm_mt) = true := by decide +kernel
theorem xm_k1125 : xm_c1125.all (xm_chk "ShodBackwardsModel" ("hasText" == "<init>") prog_11_method_25_code xm_c1125 2 2 xm_mt) = true := by decide +kernel
theorem xm_k1126 : xm_c1126.all (xm_chk "ShodBackwardsModel" ("text" == "<init>") prog_11_method_26_code xm_c1126 5 1 xm_mt) = true := by decide +kernel
theorem xm_k1127 : xm_c1127.all (xm_chk "ShodBackwardsModel" ("untell" == "<init>") prog_11_method_27_code xm_c1127 3 1 xm_mt) = true := by decide +kernel
theorem xm_k1128 : xm_c1128.all (xm_chk "ShodBackwardsModel" ("joined" == "<init>") prog_11_method_28_code xm_c1128 3 1 xm_mt) = true := by decide +kernel
theorem xm_k1129 : xm_c1129.all (xm_chk "ShodBackwardsModel" ("worked" == "<init>") prog_11_method_29_code xm_c1129 7 1 xm_mt) = true := by decide +kernel
theorem xm_k1130 : xm_c1130.all (xm_chk "ShodBackwardsModel" ("keeps" == "<init>") prog_11_method_30_code xm_c1130 3 1 xm_mt) = true := by decide +kernel
theorem xm_k1131 : xm_c1131.all (xm_chk "ShodBackwardsModel" ("isSeen" == "<init>") prog_11_method_31_code xm_c1131 3 2 xm_mt) = true := by decide +kernel
theorem xm_k1132 : xm_c1132.all (xm_chk "ShodBackwardsModel" ("clears" == "<init>") prog_11_method_32_code xm_c1132 7 0 xm_mt) = true := by decide +kernel
theorem xm_k1133 : xm_c1133.all (xm_chk "ShodBackwardsModel" ("turned" == "<init>") prog_11_method_33_code xm_c1133 1 1 xm_mt) = true := by decide +kernel
theorem xm_k1134 : xm_c1134.all (xm_chk "ShodBackwardsModel" ("showsTold" == "<init>") prog_11_method_34_code xm_c1134 5 1 xm_mt) = true := by decide +kernel
theorem xm_k1135 : xm_c1135.all (xm_chk "ShodBackwardsModel" ("lamely" == "<init>") prog_11_method_35_code xm_c1135 2 1 xm_mt) = true := by decide +kernel
theorem xm_k1136 : xm_c1136.all (xm_chk "ShodBackwardsModel" ("shows" == "<init>") prog_11_method_36_code xm_c1136 5 1 xm_mt) = true := by decide +kernel
theorem xm_k1137 : xm_c1137.all (xm_chk "ShodBackwardsModel" ("depthBy" == "<init>") prog_11_method_37_code xm_c1137 4 1 xm_mt) = true := by decide +kernel
theorem xm_k1138 : xm_c1138.all (xm_chk "ShodBackwardsModel" ("depth" == "<init>") prog_11_method_38_code xm_c1138 2 1 xm_mt) = true := by decide +kernel
theorem xm_k1139 : xm_c1139.all (xm_chk "ShodBackwardsModel" ("next" == "<init>") prog_11_method_39_code xm_c1139 2 1 xm_mt) = true := by decide +kernel
theorem xm_k1140 : xm_c1140.all (xm_chk "ShodBackwardsModel" ("ground" == "<init>") prog_11_method_40_code xm_c1140 4 1 xm_mt) = true := by decide +kernel
theorem xm_k1141 : xm_c1141.all (xm_chk "ShodBackwardsModel" ("frost" == "<init>") prog_11_method_41_code xm_c1141 3 1 xm_mt) = true := by decide +kernel
theorem xm_k1142 : xm_c1142.all (xm_chk "ShodBackwardsModel" ("rider" == "<init>") prog_11_method_42_code xm_c1142 4 1 xm_mt) = true := by decide +kernel
theorem xm_k1143 : xm_c1143.all (xm_chk "ShodBackwardsModel" ("printsOf" == "<init>") prog_11_method_43_code xm_c1143 4 1 xm_mt) = true := by decide +kernel
theorem xm_k1144 : xm_c1144.all (xm_chk "ShodBackwardsModel" ("toldRider" == "<init>") prog_11_method_44_code xm_c1144 3 1 xm_mt) = true := by decide +kernel
theorem xm_k1145 : xm_c1145.all (xm_chk "ShodBackwardsModel" ("riderIs" == "<init>") prog_11_method_45_code xm_c1145 3 1 xm_mt) = true := by decide +kernel
theorem xm_k1146 : xm_c1146.all (xm_chk "ShodBackwardsModel" ("isUnder" == "<init>") prog_11_method_46_code xm_c1146 2 2 xm_mt) = true := by decide +kernel
theorem xm_k1147 : xm_c1147.all (xm_chk "ShodBackwardsModel" ("as" == "<init>") prog_11_method_47_code xm_c1147 3 1 xm_mt) = true := by decide +kernel
theorem xm_k1148 : xm_c1148.all (xm_chk "ShodBackwardsModel" ("most" == "<init>") prog_11_method_48_code xm_c1148 3 1 xm_mt) = true := by decide +kernel
theorem xm_k1149 : xm_c1149.all (xm_chk "ShodBackwardsModel" ("set" == "<init>") prog_11_method_49_code xm_c1149 4 1 xm_mt) = true := by decide +kernel
theorem xm_k1150 : xm_c1150.all (xm_chk "ShodBackwardsModel" ("whyNotWay" == "<init>") prog_11_method_50_code xm_c1150 3 1 xm_mt) = true := by decide +kernel
theorem xm_k1151 : xm_c1151.all (xm_chk "ShodBackwardsModel" ("addWay" == "<init>") prog_11_method_51_code xm_c1151 3 0 xm_mt) = true := by decide +kernel
theorem xm_k1152 : xm_c1152.all (xm_chk "ShodBackwardsModel" ("way" == "<init>") prog_11_method_52_code xm_c1152 4 1 xm_mt) = true := by decide +kernel
theorem xm_k1153 : xm_c1153.all (xm_chk "ShodBackwardsModel" ("halt" == "<init>") prog_11_method_53_code xm_c1153 3 1 xm_mt) = true := by decide +kernel
theorem xm_k1154 : xm_c1154.all (xm_chk "ShodBackwardsModel" ("leaves" == "<init>") prog_11_method_54_code xm_c1154 7 0 xm_mt) = true := by decide +kernel
theorem xm_k1155 : xm_c1155.all (xm_chk "ShodBackwardsModel" ("rides" == "<init>") prog_11_method_55_code xm_c1155 5 0 xm_mt) = true := by decide +kernel
theorem xm_k1156 : xm_c1156.all (xm_chk "ShodBackwardsModel" ("hour" == "<init>") prog_11_method_56_code xm_c1156 2 0 xm_mt) = true := by decide +kernel
theorem xm_k1157 : xm_c1157.all (xm_chk "ShodBackwardsModel" ("go" == "<init>") prog_11_method_57_code xm_c1157 3 0 xm_mt) = true := by decide +kernel
theorem xm_k1158 : xm_c1158.all (xm_chk "ShodBackwardsModel" ("hours" == "<init>") prog_11_method_58_code xm_c1158 2 1 xm_mt) = true := by decide +kernel
theorem xm_k1159 : xm_c1159.all (xm_chk "ShodBackwardsModel" ("draw" == "<init>") prog_11_method_59_code xm_c1159 1 1 xm_mt) = true := by decide +kernel
theorem xm_k1160 : xm_c1160.all (xm_chk "ShodBackwardsModel" ("draws" == "<init>") prog_11_method_60_code xm_c1160 3 1 xm_mt) = true := by decide +kernel
theorem xm_k1161 : xm_c1161.all (xm_chk "ShodBackwardsModel" ("seed" == "<init>") prog_11_method_61_code xm_c1161 2 1 xm_mt) = true := by decide +kernel
theorem xm_k1162 : xm_c1162.all (xm_chk "ShodBackwardsModel" ("print" == "<init>") prog_11_method_62_code xm_c1162 3 1 xm_mt) = true := by decide +kernel
theorem xm_k1163 : xm_c1163.all (xm_chk "ShodBackwardsModel" ("latest" == "<init>") prog_11_method_63_code xm_c1163 5 1 xm_mt) = true := by decide +kernel
theorem xm_k1164 : xm_c1164.all (xm_chk "ShodBackwardsModel" ("manyIn" == "<init>") prog_11_method_64_code xm_c1164 4 1 xm_mt) = true := by decide +kernel
theorem xm_k1165 : xm_c1165.all (xm_chk "ShodBackwardsModel" ("deepest" == "<init>") prog_11_method_65_code xm_c1165 4 1 xm_mt) = true := by decide +kernel
theorem xm_k1166 : xm_c1166.all (xm_chk "ShodBackwardsModel" ("doubt" == "<init>") prog_11_method_66_code xm_c1166 4 1 xm_mt) = true := by decide +kernel
theorem xm_k1167 : xm_c1167.all (xm_chk "ShodBackwardsModel" ("toldCell" == "<init>") prog_11_method_67_code xm_c1167 4 1 xm_mt) = true := by decide +kernel
end
section
theorem xm_k1168 : xm_c1168.all (xm_chk "ShodBackwardsModel" ("cellIs" == "<init>") prog_11_method_68_code xm_c1168 3 1 xm_mt) = true := by decide +kernel
theorem xm_k1169 : xm_c1169.all (xm_chk "ShodBackwardsModel" ("follows" == "<init>") prog_11_method_69_code xm_c1169 7 1 xm_mt) = true := by decide +kernel
theorem xm_k1170 : xm_c1170.all (xm_chk "ShodBackwardsModel" ("follow" == "<init>") prog_11_method_70_code xm_c1170 6 1 xm_mt) = true := by decide +kernel
theorem xm_k1171 : xm_c1171.all (xm_chk "ShodBackwardsModel" ("isAhead" == "<init>") prog_11_method_71_code xm_c1171 1 2 xm_mt) = true := by decide +kernel
theorem xm_k1172 : xm_c1172.all (xm_chk "ShodBackwardsModel" ("then" == "<init>") prog_11_method_72_code xm_c1172 5 1 xm_mt) = true := by decide +kernel
theorem xm_k1173 : xm_c1173.all (xm_chk "ShodBackwardsModel" ("thenCell" == "<init>") prog_11_method_73_code xm_c1173 5 1 xm_mt) = true := by decide +kernel
theorem xm_k1174 : xm_c1174.all (xm_chk "ShodBackwardsModel" ("loads" == "<init>") prog_11_method_74_code xm_c1174 7 1 xm_mt) = true := by decide +kernel
theorem xm_k1175 : xm_c1175.all (xm_chk "ShodBackwardsModel" ("isFitting" == "<init>") prog_11_method_75_code xm_c1175 14 2 xm_mt) = true := by decide +kernel
theorem xm_k1176 : xm_c1176.all (xm_chk "ShodBackwardsModel" ("kinds" == "<init>") prog_11_method_76_code xm_c1176 6 1 xm_mt) = true := by decide +kernel
theorem xm_k1177 : xm_c1177.all (xm_chk "ShodBackwardsModel" ("far" == "<init>") prog_11_method_77_code xm_c1177 4 1 xm_mt) = true := by decide +kernel
theorem xm_k1178 : xm_c1178.all (xm_chk "ShodBackwardsModel" ("leastFound" == "<init>") prog_11_method_78_code xm_c1178 8 1 xm_mt) = true := by decide +kernel
theorem xm_k1179 : xm_c1179.all (xm_chk "ShodBackwardsModel" ("endBehind" == "<init>") prog_11_method_79_code xm_c1179 4 1 xm_mt) = true := by decide +kernel
theorem xm_k1180 : xm_c1180.all (xm_chk "ShodBackwardsModel" ("decoy" == "<init>") prog_11_method_80_code xm_c1180 6 1 xm_mt) = true := by decide +kernel
theorem xm_k1181 : xm_c1181.all (xm_chk "ShodBackwardsModel" ("divisor" == "<init>") prog_11_method_81_code xm_c1181 5 1 xm_mt) = true := by decide +kernel
theorem xm_k1182 : xm_c1182.all (xm_chk "ShodBackwardsModel" ("least" == "<init>") prog_11_method_82_code xm_c1182 2 1 xm_mt) = true := by decide +kernel
theorem xm_k1183 : xm_c1183.all (xm_chk "ShodBackwardsModel" ("greatest" == "<init>") prog_11_method_83_code xm_c1183 2 1 xm_mt) = true := by decide +kernel
theorem xm_k1184 : xm_c1184.all (xm_chk "ShodBackwardsModel" ("lowest" == "<init>") prog_11_method_84_code xm_c1184 4 1 xm_mt) = true := by decide +kernel
theorem xm_k1185 : xm_c1185.all (xm_chk "ShodBackwardsModel" ("rest" == "<init>") prog_11_method_85_code xm_c1185 11 1 xm_mt) = true := by decide +kernel
theorem xm_k1186 : xm_c1186.all (xm_chk "ShodBackwardsModel" ("begins" == "<init>") prog_11_method_86_code xm_c1186 2 0 xm_mt) = true := by decide +kernel
theorem xm_k1187 : xm_c1187.all (xm_chk "ShodBackwardsModel" ("above" == "<init>") prog_11_method_87_code xm_c1187 1 1 xm_mt) = true := by decide +kernel
theorem xm_k1188 : xm_c1188.all (xm_chk "ShodBackwardsModel" ("kindNow" == "<init>") prog_11_method_88_code xm_c1188 1 1 xm_mt) = true := by decide +kernel
theorem xm_k1189 : xm_c1189.all (xm_chk "ShodBackwardsModel" ("mNow" == "<init>") prog_11_method_89_code xm_c1189 1 1 xm_mt) = true := by decide +kernel
theorem xm_k1190 : xm_c1190.all (xm_chk "ShodBackwardsModel" ("ridesAs" == "<init>") prog_11_method_90_code xm_c1190 3 1 xm_mt) = true := by decide +kernel
theorem xm_k1191 : xm_c1191.all (xm_chk "ShodBackwardsModel" ("showsAs" == "<init>") prog_11_method_91_code xm_c1191 3 1 xm_mt) = true := by decide +kernel
theorem xm_k1192 : xm_c1192.all (xm_chk "ShodBackwardsModel" ("sinksAs" == "<init>") prog_11_method_92_code xm_c1192 3 1 xm_mt) = true := by decide +kernel
theorem xm_k1193 : xm_c1193.all (xm_chk "ShodBackwardsModel" ("partsAs" == "<init>") prog_11_method_93_code xm_c1193 5 1 xm_mt) = true := by decide +kernel
theorem xm_k1194 : xm_c1194.all (xm_chk "ShodBackwardsModel" ("voice" == "<init>") prog_11_method_94_code xm_c1194 6 1 xm_mt) = true := by decide +kernel
theorem xm_k1195 : xm_c1195.all (xm_chk "ShodBackwardsModel" ("body" == "<init>") prog_11_method_95_code xm_c1195 2 1 xm_mt) = true := by decide +kernel
theorem xm_k1196 : xm_c1196.all (xm_chk "ShodBackwardsModel" ("isSheet" == "<init>") prog_11_method_96_code xm_c1196 1 2 xm_mt) = true := by decide +kernel
theorem xm_k1197 : xm_c1197.all (xm_chk "ShodBackwardsModel" ("sheet" == "<init>") prog_11_method_97_code xm_c1197 5 1 xm_mt) = true := by decide +kernel
theorem xm_k1198 : xm_c1198.all (xm_chk "ShodBackwardsModel" ("put" == "<init>") prog_11_method_98_code xm_c1198 5 1 xm_mt) = true := by decide +kernel
theorem xm_k1199 : xm_c1199.all (xm_chk "ShodBackwardsModel" ("move" == "<init>") prog_11_method_99_code xm_c1199 7 1 xm_mt) = true := by decide +kernel
theorem xm_k1200 : xm_c1200.all (xm_chk "ShodBackwardsModel" ("lacks" == "<init>") prog_11_method_100_code xm_c1200 3 1 xm_mt) = true := by decide +kernel
theorem xm_k1201 : xm_c1201.all (xm_chk "ShodBackwardsModel" ("ways" == "<init>") prog_11_method_101_code xm_c1201 5 1 xm_mt) = true := by decide +kernel
theorem xm_k1202 : xm_c1202.all (xm_chk "ShodBackwardsModel" ("judge" == "<init>") prog_11_method_102_code xm_c1202 5 1 xm_mt) = true := by decide +kernel
theorem xm_k1203 : xm_c1203.all (xm_chk "ShodBackwardsModel" ("image" == "<init>") prog_11_method_103_code xm_c1203 1 1 xm_mt) = true := by decide +kernel
theorem xm_k1204 : xm_c1204.all (xm_chk "ShodBackwardsModel" ("restore" == "<init>") prog_11_method_104_code xm_c1204 1 1 xm_mt) = true := by decide +kernel
theorem xm_k1205 : xm_c1205.all (xm_chk "ShodBackwardsModel" ("tell" == "<init>") prog_11_method_105_code xm_c1205 2 1 xm_mt) = true := by decide +kernel
theorem xm_k1206 : xm_c1206.all (xm_chk "ShodBackwardsModel" ("check" == "<init>") prog_11_method_106_code xm_c1206 4 1 xm_mt) = true := by decide +kernel
theorem xm_k1207 : xm_c1207.all (xm_chk "ShodBackwardsModel" ("count" == "<init>") prog_11_method_107_code xm_c1207 2 1 xm_mt) = true := by decide +kernel
theorem xm_k1208 : xm_c1208.all (xm_chk "ShodBackwardsModel" ("told" == "<init>") prog_11_method_108_code xm_c1208 2 1 xm_mt) = true := by decide +kernel
theorem xm_k1454 : xm_c1454.all (xm_chk "java/lang/String" ("length" == "<init>") prog_14_method_54_code xm_c1454 1 1 xm_mt) = true := by decide +kernel
theorem xm_k1479 : xm_c1479.all (xm_chk "java/lang/String" ("indexOf" == "<init>") prog_14_method_79_code xm_c1479 2 1 xm_mt) = true := by decide +kernel
theorem xm_k1480 : xm_c1480.all (xm_chk "java/lang/String" ("indexOf" == "<init>") prog_14_method_80_code xm_c1480 3 1 xm_mt) = true := by decide +kernel
theorem xm_k1504 : xm_c1504.all (xm_chk "java/lang/StringLatin1" ("canEncode" == "<init>") prog_15_method_4_code xm_c1504 1 2 xm_mt) = true := by decide +kernel
theorem xm_k1522 : xm_c1522.all (xm_chk "java/lang/StringLatin1" ("indexOf" == "<init>") prog_15_method_22_code xm_c1522 4 1 xm_mt) = true := by decide +kernel
theorem xm_k1523 : xm_c1523.all (xm_chk "java/lang/StringLatin1" ("indexOfChar" == "<init>") prog_15_method_23_code xm_c1523 6 1 xm_mt) = true := by decide +kernel
theorem xm_k1552 : xm_c1552.all (xm_chk "java/lang/String" ("coder" == "<init>") prog_14_method_152_code xm_c1552 1 4 xm_mt) = true := by decide +kernel
theorem xm_k1554 : xm_c1554.all (xm_chk "java/lang/String" ("isLatin1" == "<init>") prog_14_method_154_code xm_c1554 1 2 xm_mt) = true := by decide +kernel
end
section
theorem xm_kl0_0 : (xm_cl0.take 100).all (xm_chk "ShodBackwardsLaw" false code xm_cl0 4 2 xm_mt) = true := by decide +kernel
theorem xm_kl0_1 : (xm_cl0_100.take 100).all (xm_chk "ShodBackwardsLaw" false code xm_cl0 4 2 xm_mt) = true := by decide +kernel
theorem xm_kl0_2 : (xm_cl0_200.take 100).all (xm_chk "ShodBackwardsLaw" false code xm_cl0 4 2 xm_mt) = true := by decide +kernel
end
section
theorem xm_kl0_3 : (xm_cl0_300.take 100).all (xm_chk "ShodBackwardsLaw" false code xm_cl0 4 2 xm_mt) = true := by decide +kernel
theorem xm_kl0_4 : (xm_cl0_400.take 100).all (xm_chk "ShodBackwardsLaw" false code xm_cl0 4 2 xm_mt) = true := by decide +kernel
theorem xm_kl0_5 : (xm_cl0_500.take 100).all (xm_chk "ShodBackwardsLaw" false code xm_cl0 4 2 xm_mt) = true := by decide +kernel
end
section
theorem xm_kl0_6 : (xm_cl0_600.take 100).all (xm_chk "ShodBackwardsLaw" false code xm_cl0 4 2 xm_mt) = true := by decide +kernel
theorem xm_kl0_7 : (xm_cl0_700.take 100).all (xm_chk "ShodBackwardsLaw" false code xm_cl0 4 2 xm_mt) = true := by decide +kernel
theorem xm_kl0_8 : (xm_cl0_800.take 100).all (xm_chk "ShodBackwardsLaw" false code xm_cl0 4 2 xm_mt) = true := by decide +kernel
end
section
theorem xm_kl0_9 : (xm_cl0_900.take 100).all (xm_chk "ShodBackwardsLaw" false code xm_cl0 4 2 xm_mt) = true := by decide +kernel
theorem xm_kl0_10 : (xm_cl0_1000.take 100).all (xm_chk "ShodBackwardsLaw" false code xm_cl0 4 2 xm_mt) = true := by decide +kernel
end
section
theorem xm_alls {α : Type} {p : α → Bool} {a b : List α} {n : Nat} (e : a.drop n = b) (h : (a.take n).all p = true) (h2 : b.all p = true) : a.all p = true := by
  have := List.take_append_drop n a
  rw [← this, List.all_append, h, e, h2]
  rfl
theorem xm_kl0 : xm_cl0.all (xm_chk "ShodBackwardsLaw" false code xm_cl0 4 2 xm_mt) = true := xm_alls (show xm_cl0.drop 100 = xm_cl0_100 from rfl) xm_kl0_0 (xm_alls (show xm_cl0_100.drop 100 = xm_cl0_200 from rfl) xm_kl0_1 (xm_alls (show xm_cl0_200.drop 100 = xm_cl0_300 from rfl) xm_kl0_2 (xm_alls (show xm_cl0_300.drop 100 = xm_cl0_400 from rfl) xm_kl0_3 (xm_alls (show xm_cl0_400.drop 100 = xm_cl0_500 from rfl) xm_kl0_4 (xm_alls (show xm_cl0_500.drop 100 = xm_cl0_600 from rfl) xm_kl0_5 (xm_alls (show xm_cl0_600.drop 100 = xm_cl0_700 from rfl) xm_kl0_6 (xm_alls (show xm_cl0_700.drop 100 = xm_cl0_800 from rfl) xm_kl0_7 (xm_alls (show xm_cl0_800.drop 100 = xm_cl0_900 from rfl) xm_kl0_8 (xm_alls (show xm_cl0_900.drop 100 = xm_cl0_1000 from rfl) xm_kl0_9 (xm_alls (show xm_cl0_1000.drop 100 = xm_cl0_1019 from rfl) xm_kl0_10 ((rfl : (xm_cl0_1019).all _ = true))))))))))))
theorem xm_pn_ShodBackwards : plainName "ShodBackwards" = true := by decide +kernel
theorem xm_pn_ShodBackwards_Bargain : plainName "ShodBackwards$Bargain" = true := by decide +kernel
theorem xm_pn_ShodBackwards_Desk : plainName "ShodBackwards$Desk" = true := by decide +kernel
theorem xm_pn_ShodBackwards_Moor : plainName "ShodBackwards$Moor" = true := by decide +kernel
theorem xm_pn_ShodBackwards_Reader : plainName "ShodBackwards$Reader" = true := by decide +kernel
theorem xm_pn_ShodBackwards_Rider : plainName "ShodBackwards$Rider" = true := by decide +kernel
theorem xm_pn_ShodBackwards_Sheet : plainName "ShodBackwards$Sheet" = true := by decide +kernel
theorem xm_pn_ShodBackwards_Speaker : plainName "ShodBackwards$Speaker" = true := by decide +kernel
theorem xm_pn_ShodBackwards_Text : plainName "ShodBackwards$Text" = true := by decide +kernel
theorem xm_pn_ShodBackwardsModel : plainName "ShodBackwardsModel" = true := by decide +kernel
theorem xm_pn_java_lang_String : plainName "java/lang/String" = true := by decide +kernel
theorem xm_pn_java_lang_StringLatin1 : plainName "java/lang/StringLatin1" = true := by decide +kernel
theorem xm_o101 : xm_Mok xm_mt xm_m101 := ⟨List.all_eq_true.mp xm_k101, xm_pn_ShodBackwards, rfl, rfl⟩
theorem xm_o102 : xm_Mok xm_mt xm_m102 := ⟨List.all_eq_true.mp xm_k102, xm_pn_ShodBackwards, rfl, rfl⟩
theorem xm_o103 : xm_Mok xm_mt xm_m103 := ⟨List.all_eq_true.mp xm_k103, xm_pn_ShodBackwards, rfl, rfl⟩
theorem xm_o104 : xm_Mok xm_mt xm_m104 := ⟨List.all_eq_true.mp xm_k104, xm_pn_ShodBackwards, rfl, rfl⟩
theorem xm_o105 : xm_Mok xm_mt xm_m105 := ⟨List.all_eq_true.mp xm_k105, xm_pn_ShodBackwards, rfl, rfl⟩
theorem xm_o106 : xm_Mok xm_mt xm_m106 := ⟨List.all_eq_true.mp xm_k106, xm_pn_ShodBackwards, rfl, rfl⟩
theorem xm_o107 : xm_Mok xm_mt xm_m107 := ⟨List.all_eq_true.mp xm_k107, xm_pn_ShodBackwards, rfl, rfl⟩
theorem xm_o108 : xm_Mok xm_mt xm_m108 := ⟨List.all_eq_true.mp xm_k108, xm_pn_ShodBackwards, rfl, rfl⟩
theorem xm_o109 : xm_Mok xm_mt xm_m109 := ⟨List.all_eq_true.mp xm_k109, xm_pn_ShodBackwards, rfl, rfl⟩
theorem xm_o110 : xm_Mok xm_mt xm_m110 := ⟨List.all_eq_true.mp xm_k110, xm_pn_ShodBackwards, rfl, rfl⟩
theorem xm_o111 : xm_Mok xm_mt xm_m111 := ⟨List.all_eq_true.mp xm_k111, xm_pn_ShodBackwards, rfl, rfl⟩
theorem xm_o112 : xm_Mok xm_mt xm_m112 := ⟨List.all_eq_true.mp xm_k112, xm_pn_ShodBackwards, rfl, rfl⟩
theorem xm_o113 : xm_Mok xm_mt xm_m113 := ⟨List.all_eq_true.mp xm_k113, xm_pn_ShodBackwards, rfl, rfl⟩
theorem xm_o114 : xm_Mok xm_mt xm_m114 := ⟨List.all_eq_true.mp xm_k114, xm_pn_ShodBackwards, rfl, rfl⟩
theorem xm_o115 : xm_Mok xm_mt xm_m115 := ⟨List.all_eq_true.mp xm_k115, xm_pn_ShodBackwards, rfl, rfl⟩
theorem xm_o116 : xm_Mok xm_mt xm_m116 := ⟨List.all_eq_true.mp xm_k116, xm_pn_ShodBackwards, rfl, rfl⟩
theorem xm_o117 : xm_Mok xm_mt xm_m117 := ⟨List.all_eq_true.mp xm_k117, xm_pn_ShodBackwards, rfl, rfl⟩
theorem xm_o118 : xm_Mok xm_mt xm_m118 := ⟨List.all_eq_true.mp xm_k118, xm_pn_ShodBackwards, rfl, rfl⟩
theorem xm_o119 : xm_Mok xm_mt xm_m119 := ⟨List.all_eq_true.mp xm_k119, xm_pn_ShodBackwards, rfl, rfl⟩
theorem xm_o120 : xm_Mok xm_mt xm_m120 := ⟨List.all_eq_true.mp xm_k120, xm_pn_ShodBackwards, rfl, rfl⟩
theorem xm_o121 : xm_Mok xm_mt xm_m121 := ⟨List.all_eq_true.mp xm_k121, xm_pn_ShodBackwards, rfl, rfl⟩
theorem xm_o122 : xm_Mok xm_mt xm_m122 := ⟨List.all_eq_true.mp xm_k122, xm_pn_ShodBackwards, rfl, rfl⟩
theorem xm_o123 : xm_Mok xm_mt xm_m123 := ⟨List.all_eq_true.mp xm_k123, xm_pn_ShodBackwards, rfl, rfl⟩
theorem xm_o124 : xm_Mok xm_mt xm_m124 := ⟨List.all_eq_true.mp xm_k124, xm_pn_ShodBackwards, rfl, rfl⟩
theorem xm_o125 : xm_Mok xm_mt xm_m125 := ⟨List.all_eq_true.mp xm_k125, xm_pn_ShodBackwards, rfl, rfl⟩
theorem xm_o126 : xm_Mok xm_mt xm_m126 := ⟨List.all_eq_true.mp xm_k126, xm_pn_ShodBackwards, rfl, rfl⟩
theorem xm_o127 : xm_Mok xm_mt xm_m127 := ⟨List.all_eq_true.mp xm_k127, xm_pn_ShodBackwards, rfl, rfl⟩
theorem xm_o128 : xm_Mok xm_mt xm_m128 := ⟨List.all_eq_true.mp xm_k128, xm_pn_ShodBackwards, rfl, rfl⟩
theorem xm_o129 : xm_Mok xm_mt xm_m129 := ⟨List.all_eq_true.mp xm_k129, xm_pn_ShodBackwards, rfl, rfl⟩
theorem xm_o130 : xm_Mok xm_mt xm_m130 := ⟨List.all_eq_true.mp xm_k130, xm_pn_ShodBackwards, rfl, rfl⟩
theorem xm_o131 : xm_Mok xm_mt xm_m131 := ⟨List.all_eq_true.mp xm_k131, xm_pn_ShodBackwards, rfl, rfl⟩
theorem xm_o132 : xm_Mok xm_mt xm_m132 := ⟨List.all_eq_true.mp xm_k132, xm_pn_ShodBackwards, rfl, rfl⟩
theorem xm_o133 : xm_Mok xm_mt xm_m133 := ⟨List.all_eq_true.mp xm_k133, xm_pn_ShodBackwards, rfl, rfl⟩
theorem xm_o134 : xm_Mok xm_mt xm_m134 := ⟨List.all_eq_true.mp xm_k134, xm_pn_ShodBackwards, rfl, rfl⟩
theorem xm_o135 : xm_Mok xm_mt xm_m135 := ⟨List.all_eq_true.mp xm_k135, xm_pn_ShodBackwards, rfl, rfl⟩
theorem xm_o136 : xm_Mok xm_mt xm_m136 := ⟨List.all_eq_true.mp xm_k136, xm_pn_ShodBackwards, rfl, rfl⟩
theorem xm_o137 : xm_Mok xm_mt xm_m137 := ⟨List.all_eq_true.mp xm_k137, xm_pn_ShodBackwards, rfl, rfl⟩
theorem xm_o138 : xm_Mok xm_mt xm_m138 := ⟨List.all_eq_true.mp xm_k138, xm_pn_ShodBackwards, rfl, rfl⟩
theorem xm_o139 : xm_Mok xm_mt xm_m139 := ⟨List.all_eq_true.mp xm_k139, xm_pn_ShodBackwards, rfl, rfl⟩
theorem xm_o140 : xm_Mok xm_mt xm_m140 := ⟨List.all_eq_true.mp xm_k140, xm_pn_ShodBackwards, rfl, rfl⟩
theorem xm_o141 : xm_Mok xm_mt xm_m141 := ⟨List.all_eq_true.mp xm_k141, xm_pn_ShodBackwards, rfl, rfl⟩
theorem xm_o142 : xm_Mok xm_mt xm_m142 := ⟨List.all_eq_true.mp xm_k142, xm_pn_ShodBackwards, rfl, rfl⟩
theorem xm_o143 : xm_Mok xm_mt xm_m143 := ⟨List.all_eq_true.mp xm_k143, xm_pn_ShodBackwards, rfl, rfl⟩
theorem xm_o144 : xm_Mok xm_mt xm_m144 := ⟨List.all_eq_true.mp xm_k144, xm_pn_ShodBackwards, rfl, rfl⟩
theorem xm_o145 : xm_Mok xm_mt xm_m145 := ⟨List.all_eq_true.mp xm_k145, xm_pn_ShodBackwards, rfl, rfl⟩
theorem xm_o146 : xm_Mok xm_mt xm_m146 := ⟨List.all_eq_true.mp xm_k146, xm_pn_ShodBackwards, rfl, rfl⟩
theorem xm_o147 : xm_Mok xm_mt xm_m147 := ⟨List.all_eq_true.mp xm_k147, xm_pn_ShodBackwards, rfl, rfl⟩
theorem xm_o148 : xm_Mok xm_mt xm_m148 := ⟨List.all_eq_true.mp xm_k148, xm_pn_ShodBackwards, rfl, rfl⟩
theorem xm_o149 : xm_Mok xm_mt xm_m149 := ⟨List.all_eq_true.mp xm_k149, xm_pn_ShodBackwards, rfl, rfl⟩
theorem xm_o150 : xm_Mok xm_mt xm_m150 := ⟨List.all_eq_true.mp xm_k150, xm_pn_ShodBackwards, rfl, rfl⟩
theorem xm_o151 : xm_Mok xm_mt xm_m151 := ⟨List.all_eq_true.mp xm_k151, xm_pn_ShodBackwards, rfl, rfl⟩
theorem xm_o152 : xm_Mok xm_mt xm_m152 := ⟨List.all_eq_true.mp xm_k152, xm_pn_ShodBackwards, rfl, rfl⟩
theorem xm_o153 : xm_Mok xm_mt xm_m153 := ⟨List.all_eq_true.mp xm_k153, xm_pn_ShodBackwards, rfl, rfl⟩
theorem xm_o201 : xm_Mok xm_mt xm_m201 := ⟨List.all_eq_true.mp xm_k201, xm_pn_ShodBackwards_Bargain, rfl, rfl⟩
theorem xm_o202 : xm_Mok xm_mt xm_m202 := ⟨List.all_eq_true.mp xm_k202, xm_pn_ShodBackwards_Bargain, rfl, rfl⟩
theorem xm_o203 : xm_Mok xm_mt xm_m203 := ⟨List.all_eq_true.mp xm_k203, xm_pn_ShodBackwards_Bargain, rfl, rfl⟩
theorem xm_o204 : xm_Mok xm_mt xm_m204 := ⟨List.all_eq_true.mp xm_k204, xm_pn_ShodBackwards_Bargain, rfl, rfl⟩
theorem xm_o301 : xm_Mok xm_mt xm_m301 := ⟨List.all_eq_true.mp xm_k301, xm_pn_ShodBackwards_Desk, rfl, rfl⟩
theorem xm_o302 : xm_Mok xm_mt xm_m302 := ⟨List.all_eq_true.mp xm_k302, xm_pn_ShodBackwards_Desk, rfl, rfl⟩
theorem xm_o303 : xm_Mok xm_mt xm_m303 := ⟨List.all_eq_true.mp xm_k303, xm_pn_ShodBackwards_Desk, rfl, rfl⟩
theorem xm_o401 : xm_Mok xm_mt xm_m401 := ⟨List.all_eq_true.mp xm_k401, xm_pn_ShodBackwards_Moor, rfl, rfl⟩
theorem xm_o402 : xm_Mok xm_mt xm_m402 := ⟨List.all_eq_true.mp xm_k402, xm_pn_ShodBackwards_Moor, rfl, rfl⟩
theorem xm_o403 : xm_Mok xm_mt xm_m403 := ⟨List.all_eq_true.mp xm_k403, xm_pn_ShodBackwards_Moor, rfl, rfl⟩
theorem xm_o404 : xm_Mok xm_mt xm_m404 := ⟨List.all_eq_true.mp xm_k404, xm_pn_ShodBackwards_Moor, rfl, rfl⟩
theorem xm_o405 : xm_Mok xm_mt xm_m405 := ⟨List.all_eq_true.mp xm_k405, xm_pn_ShodBackwards_Moor, rfl, rfl⟩
theorem xm_o406 : xm_Mok xm_mt xm_m406 := ⟨List.all_eq_true.mp xm_k406, xm_pn_ShodBackwards_Moor, rfl, rfl⟩
theorem xm_o407 : xm_Mok xm_mt xm_m407 := ⟨List.all_eq_true.mp xm_k407, xm_pn_ShodBackwards_Moor, rfl, rfl⟩
theorem xm_o408 : xm_Mok xm_mt xm_m408 := ⟨List.all_eq_true.mp xm_k408, xm_pn_ShodBackwards_Moor, rfl, rfl⟩
theorem xm_o409 : xm_Mok xm_mt xm_m409 := ⟨List.all_eq_true.mp xm_k409, xm_pn_ShodBackwards_Moor, rfl, rfl⟩
theorem xm_o410 : xm_Mok xm_mt xm_m410 := ⟨List.all_eq_true.mp xm_k410, xm_pn_ShodBackwards_Moor, rfl, rfl⟩
theorem xm_o411 : xm_Mok xm_mt xm_m411 := ⟨List.all_eq_true.mp xm_k411, xm_pn_ShodBackwards_Moor, rfl, rfl⟩
theorem xm_o412 : xm_Mok xm_mt xm_m412 := ⟨List.all_eq_true.mp xm_k412, xm_pn_ShodBackwards_Moor, rfl, rfl⟩
theorem xm_o413 : xm_Mok xm_mt xm_m413 := ⟨List.all_eq_true.mp xm_k413, xm_pn_ShodBackwards_Moor, rfl, rfl⟩
theorem xm_o414 : xm_Mok xm_mt xm_m414 := ⟨List.all_eq_true.mp xm_k414, xm_pn_ShodBackwards_Moor, rfl, rfl⟩
theorem xm_o415 : xm_Mok xm_mt xm_m415 := ⟨List.all_eq_true.mp xm_k415, xm_pn_ShodBackwards_Moor, rfl, rfl⟩
theorem xm_o416 : xm_Mok xm_mt xm_m416 := ⟨List.all_eq_true.mp xm_k416, xm_pn_ShodBackwards_Moor, rfl, rfl⟩
theorem xm_o417 : xm_Mok xm_mt xm_m417 := ⟨List.all_eq_true.mp xm_k417, xm_pn_ShodBackwards_Moor, rfl, rfl⟩
theorem xm_o418 : xm_Mok xm_mt xm_m418 := ⟨List.all_eq_true.mp xm_k418, xm_pn_ShodBackwards_Moor, rfl, rfl⟩
theorem xm_o419 : xm_Mok xm_mt xm_m419 := ⟨List.all_eq_true.mp xm_k419, xm_pn_ShodBackwards_Moor, rfl, rfl⟩
theorem xm_o420 : xm_Mok xm_mt xm_m420 := ⟨List.all_eq_true.mp xm_k420, xm_pn_ShodBackwards_Moor, rfl, rfl⟩
theorem xm_o421 : xm_Mok xm_mt xm_m421 := ⟨List.all_eq_true.mp xm_k421, xm_pn_ShodBackwards_Moor, rfl, rfl⟩
theorem xm_o501 : xm_Mok xm_mt xm_m501 := ⟨List.all_eq_true.mp xm_k501, xm_pn_ShodBackwards_Reader, rfl, rfl⟩
theorem xm_o502 : xm_Mok xm_mt xm_m502 := ⟨List.all_eq_true.mp xm_k502, xm_pn_ShodBackwards_Reader, rfl, rfl⟩
theorem xm_o503 : xm_Mok xm_mt xm_m503 := ⟨List.all_eq_true.mp xm_k503, xm_pn_ShodBackwards_Reader, rfl, ⟨_, rfl, Or.inl ⟨_, rfl⟩⟩⟩
theorem xm_o504 : xm_Mok xm_mt xm_m504 := ⟨List.all_eq_true.mp xm_k504, xm_pn_ShodBackwards_Reader, rfl, rfl⟩
theorem xm_o505 : xm_Mok xm_mt xm_m505 := ⟨List.all_eq_true.mp xm_k505, xm_pn_ShodBackwards_Reader, rfl, rfl⟩
theorem xm_o506 : xm_Mok xm_mt xm_m506 := ⟨List.all_eq_true.mp xm_k506, xm_pn_ShodBackwards_Reader, rfl, rfl⟩
theorem xm_o507 : xm_Mok xm_mt xm_m507 := ⟨List.all_eq_true.mp xm_k507, xm_pn_ShodBackwards_Reader, rfl, rfl⟩
theorem xm_o508 : xm_Mok xm_mt xm_m508 := ⟨List.all_eq_true.mp xm_k508, xm_pn_ShodBackwards_Reader, rfl, rfl⟩
theorem xm_o509 : xm_Mok xm_mt xm_m509 := ⟨List.all_eq_true.mp xm_k509, xm_pn_ShodBackwards_Reader, rfl, rfl⟩
theorem xm_o510 : xm_Mok xm_mt xm_m510 := ⟨List.all_eq_true.mp xm_k510, xm_pn_ShodBackwards_Reader, rfl, rfl⟩
theorem xm_o511 : xm_Mok xm_mt xm_m511 := ⟨List.all_eq_true.mp xm_k511, xm_pn_ShodBackwards_Reader, rfl, rfl⟩
theorem xm_o601 : xm_Mok xm_mt xm_m601 := ⟨List.all_eq_true.mp xm_k601, xm_pn_ShodBackwards_Rider, rfl, rfl⟩
theorem xm_o602 : xm_Mok xm_mt xm_m602 := ⟨List.all_eq_true.mp xm_k602, xm_pn_ShodBackwards_Rider, rfl, rfl⟩
theorem xm_o603 : xm_Mok xm_mt xm_m603 := ⟨List.all_eq_true.mp xm_k603, xm_pn_ShodBackwards_Rider, rfl, rfl⟩
theorem xm_o604 : xm_Mok xm_mt xm_m604 := ⟨List.all_eq_true.mp xm_k604, xm_pn_ShodBackwards_Rider, rfl, rfl⟩
theorem xm_o605 : xm_Mok xm_mt xm_m605 := ⟨List.all_eq_true.mp xm_k605, xm_pn_ShodBackwards_Rider, rfl, rfl⟩
theorem xm_o606 : xm_Mok xm_mt xm_m606 := ⟨List.all_eq_true.mp xm_k606, xm_pn_ShodBackwards_Rider, rfl, rfl⟩
theorem xm_o607 : xm_Mok xm_mt xm_m607 := ⟨List.all_eq_true.mp xm_k607, xm_pn_ShodBackwards_Rider, rfl, rfl⟩
theorem xm_o701 : xm_Mok xm_mt xm_m701 := ⟨List.all_eq_true.mp xm_k701, xm_pn_ShodBackwards_Sheet, rfl, rfl⟩
theorem xm_o702 : xm_Mok xm_mt xm_m702 := ⟨List.all_eq_true.mp xm_k702, xm_pn_ShodBackwards_Sheet, rfl, rfl⟩
theorem xm_o703 : xm_Mok xm_mt xm_m703 := ⟨List.all_eq_true.mp xm_k703, xm_pn_ShodBackwards_Sheet, rfl, rfl⟩
theorem xm_o704 : xm_Mok xm_mt xm_m704 := ⟨List.all_eq_true.mp xm_k704, xm_pn_ShodBackwards_Sheet, rfl, rfl⟩
theorem xm_o705 : xm_Mok xm_mt xm_m705 := ⟨List.all_eq_true.mp xm_k705, xm_pn_ShodBackwards_Sheet, rfl, rfl⟩
theorem xm_o801 : xm_Mok xm_mt xm_m801 := ⟨List.all_eq_true.mp xm_k801, xm_pn_ShodBackwards_Speaker, rfl, rfl⟩
theorem xm_o802 : xm_Mok xm_mt xm_m802 := ⟨List.all_eq_true.mp xm_k802, xm_pn_ShodBackwards_Speaker, rfl, rfl⟩
theorem xm_o803 : xm_Mok xm_mt xm_m803 := ⟨List.all_eq_true.mp xm_k803, xm_pn_ShodBackwards_Speaker, rfl, rfl⟩
theorem xm_o804 : xm_Mok xm_mt xm_m804 := ⟨List.all_eq_true.mp xm_k804, xm_pn_ShodBackwards_Speaker, rfl, rfl⟩
theorem xm_o805 : xm_Mok xm_mt xm_m805 := ⟨List.all_eq_true.mp xm_k805, xm_pn_ShodBackwards_Speaker, rfl, rfl⟩
theorem xm_o806 : xm_Mok xm_mt xm_m806 := ⟨List.all_eq_true.mp xm_k806, xm_pn_ShodBackwards_Speaker, rfl, rfl⟩
theorem xm_o901 : xm_Mok xm_mt xm_m901 := ⟨List.all_eq_true.mp xm_k901, xm_pn_ShodBackwards_Text, rfl, rfl⟩
theorem xm_o902 : xm_Mok xm_mt xm_m902 := ⟨List.all_eq_true.mp xm_k902, xm_pn_ShodBackwards_Text, rfl, rfl⟩
theorem xm_o903 : xm_Mok xm_mt xm_m903 := ⟨List.all_eq_true.mp xm_k903, xm_pn_ShodBackwards_Text, rfl, rfl⟩
theorem xm_o1101 : xm_Mok xm_mt xm_m1101 := ⟨List.all_eq_true.mp xm_k1101, xm_pn_ShodBackwardsModel, rfl, rfl⟩
theorem xm_o1102 : xm_Mok xm_mt xm_m1102 := ⟨List.all_eq_true.mp xm_k1102, xm_pn_ShodBackwardsModel, rfl, rfl⟩
theorem xm_o1103 : xm_Mok xm_mt xm_m1103 := ⟨List.all_eq_true.mp xm_k1103, xm_pn_ShodBackwardsModel, rfl, rfl⟩
theorem xm_o1104 : xm_Mok xm_mt xm_m1104 := ⟨List.all_eq_true.mp xm_k1104, xm_pn_ShodBackwardsModel, rfl, rfl⟩
theorem xm_o1105 : xm_Mok xm_mt xm_m1105 := ⟨List.all_eq_true.mp xm_k1105, xm_pn_ShodBackwardsModel, rfl, rfl⟩
theorem xm_o1106 : xm_Mok xm_mt xm_m1106 := ⟨List.all_eq_true.mp xm_k1106, xm_pn_ShodBackwardsModel, rfl, rfl⟩
theorem xm_o1107 : xm_Mok xm_mt xm_m1107 := ⟨List.all_eq_true.mp xm_k1107, xm_pn_ShodBackwardsModel, rfl, rfl⟩
theorem xm_o1108 : xm_Mok xm_mt xm_m1108 := ⟨List.all_eq_true.mp xm_k1108, xm_pn_ShodBackwardsModel, rfl, rfl⟩
theorem xm_o1109 : xm_Mok xm_mt xm_m1109 := ⟨List.all_eq_true.mp xm_k1109, xm_pn_ShodBackwardsModel, rfl, rfl⟩
theorem xm_o1110 : xm_Mok xm_mt xm_m1110 := ⟨List.all_eq_true.mp xm_k1110, xm_pn_ShodBackwardsModel, rfl, rfl⟩
theorem xm_o1111 : xm_Mok xm_mt xm_m1111 := ⟨List.all_eq_true.mp xm_k1111, xm_pn_ShodBackwardsModel, rfl, rfl⟩
theorem xm_o1112 : xm_Mok xm_mt xm_m1112 := ⟨List.all_eq_true.mp xm_k1112, xm_pn_ShodBackwardsModel, rfl, rfl⟩
theorem xm_o1113 : xm_Mok xm_mt xm_m1113 := ⟨List.all_eq_true.mp xm_k1113, xm_pn_ShodBackwardsModel, rfl, rfl⟩
theorem xm_o1114 : xm_Mok xm_mt xm_m1114 := ⟨List.all_eq_true.mp xm_k1114, xm_pn_ShodBackwardsModel, rfl, rfl⟩
theorem xm_o1115 : xm_Mok xm_mt xm_m1115 := ⟨List.all_eq_true.mp xm_k1115, xm_pn_ShodBackwardsModel, rfl, rfl⟩
theorem xm_o1116 : xm_Mok xm_mt xm_m1116 := ⟨List.all_eq_true.mp xm_k1116, xm_pn_ShodBackwardsModel, rfl, rfl⟩
theorem xm_o1117 : xm_Mok xm_mt xm_m1117 := ⟨List.all_eq_true.mp xm_k1117, xm_pn_ShodBackwardsModel, rfl, rfl⟩
theorem xm_o1118 : xm_Mok xm_mt xm_m1118 := ⟨List.all_eq_true.mp xm_k1118, xm_pn_ShodBackwardsModel, rfl, rfl⟩
theorem xm_o1119 : xm_Mok xm_mt xm_m1119 := ⟨List.all_eq_true.mp xm_k1119, xm_pn_ShodBackwardsModel, rfl, rfl⟩
theorem xm_o1120 : xm_Mok xm_mt xm_m1120 := ⟨List.all_eq_true.mp xm_k1120, xm_pn_ShodBackwardsModel, rfl, rfl⟩
theorem xm_o1121 : xm_Mok xm_mt xm_m1121 := ⟨List.all_eq_true.mp xm_k1121, xm_pn_ShodBackwardsModel, rfl, rfl⟩
theorem xm_o1122 : xm_Mok xm_mt xm_m1122 := ⟨List.all_eq_true.mp xm_k1122, xm_pn_ShodBackwardsModel, rfl, rfl⟩
theorem xm_o1123 : xm_Mok xm_mt xm_m1123 := ⟨List.all_eq_true.mp xm_k1123, xm_pn_ShodBackwardsModel, rfl, rfl⟩
theorem xm_o1124 : xm_Mok xm_mt xm_m1124 := ⟨List.all_eq_true.mp xm_k1124, xm_pn_ShodBackwardsModel, rfl, rfl⟩
theorem xm_o1125 : xm_Mok xm_mt xm_m1125 := ⟨List.all_eq_true.mp xm_k1125, xm_pn_ShodBackwardsModel, rfl, rfl⟩
theorem xm_o1126 : xm_Mok xm_mt xm_m1126 := ⟨List.all_eq_true.mp xm_k1126, xm_pn_ShodBackwardsModel, rfl, rfl⟩
theorem xm_o1127 : xm_Mok xm_mt xm_m1127 := ⟨List.all_eq_true.mp xm_k1127, xm_pn_ShodBackwardsModel, rfl, rfl⟩
theorem xm_o1128 : xm_Mok xm_mt xm_m1128 := ⟨List.all_eq_true.mp xm_k1128, xm_pn_ShodBackwardsModel, rfl, rfl⟩
theorem xm_o1129 : xm_Mok xm_mt xm_m1129 := ⟨List.all_eq_true.mp xm_k1129, xm_pn_ShodBackwardsModel, rfl, rfl⟩
theorem xm_o1130 : xm_Mok xm_mt xm_m1130 := ⟨List.all_eq_true.mp xm_k1130, xm_pn_ShodBackwardsModel, rfl, rfl⟩
theorem xm_o1131 : xm_Mok xm_mt xm_m1131 := ⟨List.all_eq_true.mp xm_k1131, xm_pn_ShodBackwardsModel, rfl, rfl⟩
theorem xm_o1132 : xm_Mok xm_mt xm_m1132 := ⟨List.all_eq_true.mp xm_k1132, xm_pn_ShodBackwardsModel, rfl, rfl⟩
theorem xm_o1133 : xm_Mok xm_mt xm_m1133 := ⟨List.all_eq_true.mp xm_k1133, xm_pn_ShodBackwardsModel, rfl, rfl⟩
theorem xm_o1134 : xm_Mok xm_mt xm_m1134 := ⟨List.all_eq_true.mp xm_k1134, xm_pn_ShodBackwardsModel, rfl, rfl⟩
theorem xm_o1135 : xm_Mok xm_mt xm_m1135 := ⟨List.all_eq_true.mp xm_k1135, xm_pn_ShodBackwardsModel, rfl, rfl⟩
theorem xm_o1136 : xm_Mok xm_mt xm_m1136 := ⟨List.all_eq_true.mp xm_k1136, xm_pn_ShodBackwardsModel, rfl, rfl⟩
theorem xm_o1137 : xm_Mok xm_mt xm_m1137 := ⟨List.all_eq_true.mp xm_k1137, xm_pn_ShodBackwardsModel, rfl, rfl⟩
theorem xm_o1138 : xm_Mok xm_mt xm_m1138 := ⟨List.all_eq_true.mp xm_k1138, xm_pn_ShodBackwardsModel, rfl, rfl⟩
theorem xm_o1139 : xm_Mok xm_mt xm_m1139 := ⟨List.all_eq_true.mp xm_k1139, xm_pn_ShodBackwardsModel, rfl, rfl⟩
theorem xm_o1140 : xm_Mok xm_mt xm_m1140 := ⟨List.all_eq_true.mp xm_k1140, xm_pn_ShodBackwardsModel, rfl, rfl⟩
theorem xm_o1141 : xm_Mok xm_mt xm_m1141 := ⟨List.all_eq_true.mp xm_k1141, xm_pn_ShodBackwardsModel, rfl, rfl⟩
theorem xm_o1142 : xm_Mok xm_mt xm_m1142 := ⟨List.all_eq_true.mp xm_k1142, xm_pn_ShodBackwardsModel, rfl, rfl⟩
theorem xm_o1143 : xm_Mok xm_mt xm_m1143 := ⟨List.all_eq_true.mp xm_k1143, xm_pn_ShodBackwardsModel, rfl, rfl⟩
theorem xm_o1144 : xm_Mok xm_mt xm_m1144 := ⟨List.all_eq_true.mp xm_k1144, xm_pn_ShodBackwardsModel, rfl, rfl⟩
theorem xm_o1145 : xm_Mok xm_mt xm_m1145 := ⟨List.all_eq_true.mp xm_k1145, xm_pn_ShodBackwardsModel, rfl, rfl⟩
theorem xm_o1146 : xm_Mok xm_mt xm_m1146 := ⟨List.all_eq_true.mp xm_k1146, xm_pn_ShodBackwardsModel, rfl, rfl⟩
theorem xm_o1147 : xm_Mok xm_mt xm_m1147 := ⟨List.all_eq_true.mp xm_k1147, xm_pn_ShodBackwardsModel, rfl, rfl⟩
theorem xm_o1148 : xm_Mok xm_mt xm_m1148 := ⟨List.all_eq_true.mp xm_k1148, xm_pn_ShodBackwardsModel, rfl, rfl⟩
theorem xm_o1149 : xm_Mok xm_mt xm_m1149 := ⟨List.all_eq_true.mp xm_k1149, xm_pn_ShodBackwardsModel, rfl, rfl⟩
theorem xm_o1150 : xm_Mok xm_mt xm_m1150 := ⟨List.all_eq_true.mp xm_k1150, xm_pn_ShodBackwardsModel, rfl, rfl⟩
theorem xm_o1151 : xm_Mok xm_mt xm_m1151 := ⟨List.all_eq_true.mp xm_k1151, xm_pn_ShodBackwardsModel, rfl, rfl⟩
theorem xm_o1152 : xm_Mok xm_mt xm_m1152 := ⟨List.all_eq_true.mp xm_k1152, xm_pn_ShodBackwardsModel, rfl, rfl⟩
theorem xm_o1153 : xm_Mok xm_mt xm_m1153 := ⟨List.all_eq_true.mp xm_k1153, xm_pn_ShodBackwardsModel, rfl, rfl⟩
theorem xm_o1154 : xm_Mok xm_mt xm_m1154 := ⟨List.all_eq_true.mp xm_k1154, xm_pn_ShodBackwardsModel, rfl, rfl⟩
theorem xm_o1155 : xm_Mok xm_mt xm_m1155 := ⟨List.all_eq_true.mp xm_k1155, xm_pn_ShodBackwardsModel, rfl, rfl⟩
theorem xm_o1156 : xm_Mok xm_mt xm_m1156 := ⟨List.all_eq_true.mp xm_k1156, xm_pn_ShodBackwardsModel, rfl, rfl⟩
theorem xm_o1157 : xm_Mok xm_mt xm_m1157 := ⟨List.all_eq_true.mp xm_k1157, xm_pn_ShodBackwardsModel, rfl, rfl⟩
theorem xm_o1158 : xm_Mok xm_mt xm_m1158 := ⟨List.all_eq_true.mp xm_k1158, xm_pn_ShodBackwardsModel, rfl, rfl⟩
theorem xm_o1159 : xm_Mok xm_mt xm_m1159 := ⟨List.all_eq_true.mp xm_k1159, xm_pn_ShodBackwardsModel, rfl, rfl⟩
theorem xm_o1160 : xm_Mok xm_mt xm_m1160 := ⟨List.all_eq_true.mp xm_k1160, xm_pn_ShodBackwardsModel, rfl, rfl⟩
theorem xm_o1161 : xm_Mok xm_mt xm_m1161 := ⟨List.all_eq_true.mp xm_k1161, xm_pn_ShodBackwardsModel, rfl, rfl⟩
theorem xm_o1162 : xm_Mok xm_mt xm_m1162 := ⟨List.all_eq_true.mp xm_k1162, xm_pn_ShodBackwardsModel, rfl, rfl⟩
theorem xm_o1163 : xm_Mok xm_mt xm_m1163 := ⟨List.all_eq_true.mp xm_k1163, xm_pn_ShodBackwardsModel, rfl, rfl⟩
theorem xm_o1164 : xm_Mok xm_mt xm_m1164 := ⟨List.all_eq_true.mp xm_k1164, xm_pn_ShodBackwardsModel, rfl, rfl⟩
theorem xm_o1165 : xm_Mok xm_mt xm_m1165 := ⟨List.all_eq_true.mp xm_k1165, xm_pn_ShodBackwardsModel, rfl, rfl⟩
theorem xm_o1166 : xm_Mok xm_mt xm_m1166 := ⟨List.all_eq_true.mp xm_k1166, xm_pn_ShodBackwardsModel, rfl, rfl⟩
theorem xm_o1167 : xm_Mok xm_mt xm_m1167 := ⟨List.all_eq_true.mp xm_k1167, xm_pn_ShodBackwardsModel, rfl, rfl⟩
theorem xm_o1168 : xm_Mok xm_mt xm_m1168 := ⟨List.all_eq_true.mp xm_k1168, xm_pn_ShodBackwardsModel, rfl, rfl⟩
theorem xm_o1169 : xm_Mok xm_mt xm_m1169 := ⟨List.all_eq_true.mp xm_k1169, xm_pn_ShodBackwardsModel, rfl, rfl⟩
theorem xm_o1170 : xm_Mok xm_mt xm_m1170 := ⟨List.all_eq_true.mp xm_k1170, xm_pn_ShodBackwardsModel, rfl, rfl⟩
theorem xm_o1171 : xm_Mok xm_mt xm_m1171 := ⟨List.all_eq_true.mp xm_k1171, xm_pn_ShodBackwardsModel, rfl, rfl⟩
theorem xm_o1172 : xm_Mok xm_mt xm_m1172 := ⟨List.all_eq_true.mp xm_k1172, xm_pn_ShodBackwardsModel, rfl, rfl⟩
theorem xm_o1173 : xm_Mok xm_mt xm_m1173 := ⟨List.all_eq_true.mp xm_k1173, xm_pn_ShodBackwardsModel, rfl, rfl⟩
theorem xm_o1174 : xm_Mok xm_mt xm_m1174 := ⟨List.all_eq_true.mp xm_k1174, xm_pn_ShodBackwardsModel, rfl, rfl⟩
theorem xm_o1175 : xm_Mok xm_mt xm_m1175 := ⟨List.all_eq_true.mp xm_k1175, xm_pn_ShodBackwardsModel, rfl, rfl⟩
theorem xm_o1176 : xm_Mok xm_mt xm_m1176 := ⟨List.all_eq_true.mp xm_k1176, xm_pn_ShodBackwardsModel, rfl, rfl⟩
theorem xm_o1177 : xm_Mok xm_mt xm_m1177 := ⟨List.all_eq_true.mp xm_k1177, xm_pn_ShodBackwardsModel, rfl, rfl⟩
theorem xm_o1178 : xm_Mok xm_mt xm_m1178 := ⟨List.all_eq_true.mp xm_k1178, xm_pn_ShodBackwardsModel, rfl, rfl⟩
theorem xm_o1179 : xm_Mok xm_mt xm_m1179 := ⟨List.all_eq_true.mp xm_k1179, xm_pn_ShodBackwardsModel, rfl, rfl⟩
theorem xm_o1180 : xm_Mok xm_mt xm_m1180 := ⟨List.all_eq_true.mp xm_k1180, xm_pn_ShodBackwardsModel, rfl, rfl⟩
theorem xm_o1181 : xm_Mok xm_mt xm_m1181 := ⟨List.all_eq_true.mp xm_k1181, xm_pn_ShodBackwardsModel, rfl, rfl⟩
theorem xm_o1182 : xm_Mok xm_mt xm_m1182 := ⟨List.all_eq_true.mp xm_k1182, xm_pn_ShodBackwardsModel, rfl, rfl⟩
theorem xm_o1183 : xm_Mok xm_mt xm_m1183 := ⟨List.all_eq_true.mp xm_k1183, xm_pn_ShodBackwardsModel, rfl, rfl⟩
theorem xm_o1184 : xm_Mok xm_mt xm_m1184 := ⟨List.all_eq_true.mp xm_k1184, xm_pn_ShodBackwardsModel, rfl, rfl⟩
theorem xm_o1185 : xm_Mok xm_mt xm_m1185 := ⟨List.all_eq_true.mp xm_k1185, xm_pn_ShodBackwardsModel, rfl, rfl⟩
theorem xm_o1186 : xm_Mok xm_mt xm_m1186 := ⟨List.all_eq_true.mp xm_k1186, xm_pn_ShodBackwardsModel, rfl, rfl⟩
theorem xm_o1187 : xm_Mok xm_mt xm_m1187 := ⟨List.all_eq_true.mp xm_k1187, xm_pn_ShodBackwardsModel, rfl, rfl⟩
theorem xm_o1188 : xm_Mok xm_mt xm_m1188 := ⟨List.all_eq_true.mp xm_k1188, xm_pn_ShodBackwardsModel, rfl, rfl⟩
theorem xm_o1189 : xm_Mok xm_mt xm_m1189 := ⟨List.all_eq_true.mp xm_k1189, xm_pn_ShodBackwardsModel, rfl, rfl⟩
theorem xm_o1190 : xm_Mok xm_mt xm_m1190 := ⟨List.all_eq_true.mp xm_k1190, xm_pn_ShodBackwardsModel, rfl, rfl⟩
theorem xm_o1191 : xm_Mok xm_mt xm_m1191 := ⟨List.all_eq_true.mp xm_k1191, xm_pn_ShodBackwardsModel, rfl, rfl⟩
theorem xm_o1192 : xm_Mok xm_mt xm_m1192 := ⟨List.all_eq_true.mp xm_k1192, xm_pn_ShodBackwardsModel, rfl, rfl⟩
theorem xm_o1193 : xm_Mok xm_mt xm_m1193 := ⟨List.all_eq_true.mp xm_k1193, xm_pn_ShodBackwardsModel, rfl, rfl⟩
theorem xm_o1194 : xm_Mok xm_mt xm_m1194 := ⟨List.all_eq_true.mp xm_k1194, xm_pn_ShodBackwardsModel, rfl, rfl⟩
theorem xm_o1195 : xm_Mok xm_mt xm_m1195 := ⟨List.all_eq_true.mp xm_k1195, xm_pn_ShodBackwardsModel, rfl, rfl⟩
theorem xm_o1196 : xm_Mok xm_mt xm_m1196 := ⟨List.all_eq_true.mp xm_k1196, xm_pn_ShodBackwardsModel, rfl, rfl⟩
theorem xm_o1197 : xm_Mok xm_mt xm_m1197 := ⟨List.all_eq_true.mp xm_k1197, xm_pn_ShodBackwardsModel, rfl, rfl⟩
theorem xm_o1198 : xm_Mok xm_mt xm_m1198 := ⟨List.all_eq_true.mp xm_k1198, xm_pn_ShodBackwardsModel, rfl, rfl⟩
theorem xm_o1199 : xm_Mok xm_mt xm_m1199 := ⟨List.all_eq_true.mp xm_k1199, xm_pn_ShodBackwardsModel, rfl, rfl⟩
theorem xm_o1200 : xm_Mok xm_mt xm_m1200 := ⟨List.all_eq_true.mp xm_k1200, xm_pn_ShodBackwardsModel, rfl, rfl⟩
theorem xm_o1201 : xm_Mok xm_mt xm_m1201 := ⟨List.all_eq_true.mp xm_k1201, xm_pn_ShodBackwardsModel, rfl, rfl⟩
theorem xm_o1202 : xm_Mok xm_mt xm_m1202 := ⟨List.all_eq_true.mp xm_k1202, xm_pn_ShodBackwardsModel, rfl, rfl⟩
theorem xm_o1203 : xm_Mok xm_mt xm_m1203 := ⟨List.all_eq_true.mp xm_k1203, xm_pn_ShodBackwardsModel, rfl, rfl⟩
theorem xm_o1204 : xm_Mok xm_mt xm_m1204 := ⟨List.all_eq_true.mp xm_k1204, xm_pn_ShodBackwardsModel, rfl, rfl⟩
theorem xm_o1205 : xm_Mok xm_mt xm_m1205 := ⟨List.all_eq_true.mp xm_k1205, xm_pn_ShodBackwardsModel, rfl, rfl⟩
theorem xm_o1206 : xm_Mok xm_mt xm_m1206 := ⟨List.all_eq_true.mp xm_k1206, xm_pn_ShodBackwardsModel, rfl, rfl⟩
theorem xm_o1207 : xm_Mok xm_mt xm_m1207 := ⟨List.all_eq_true.mp xm_k1207, xm_pn_ShodBackwardsModel, rfl, rfl⟩
theorem xm_o1208 : xm_Mok xm_mt xm_m1208 := ⟨List.all_eq_true.mp xm_k1208, xm_pn_ShodBackwardsModel, rfl, rfl⟩
theorem xm_o1454 : xm_Mok xm_mt xm_m1454 := ⟨List.all_eq_true.mp xm_k1454, xm_pn_java_lang_String, rfl, rfl⟩
theorem xm_o1479 : xm_Mok xm_mt xm_m1479 := ⟨List.all_eq_true.mp xm_k1479, xm_pn_java_lang_String, rfl, rfl⟩
theorem xm_o1480 : xm_Mok xm_mt xm_m1480 := ⟨List.all_eq_true.mp xm_k1480, xm_pn_java_lang_String, rfl, rfl⟩
theorem xm_o1504 : xm_Mok xm_mt xm_m1504 := ⟨List.all_eq_true.mp xm_k1504, xm_pn_java_lang_StringLatin1, rfl, rfl⟩
theorem xm_o1522 : xm_Mok xm_mt xm_m1522 := ⟨List.all_eq_true.mp xm_k1522, xm_pn_java_lang_StringLatin1, rfl, rfl⟩
theorem xm_o1523 : xm_Mok xm_mt xm_m1523 := ⟨List.all_eq_true.mp xm_k1523, xm_pn_java_lang_StringLatin1, rfl, rfl⟩
theorem xm_o1552 : xm_Mok xm_mt xm_m1552 := ⟨List.all_eq_true.mp xm_k1552, xm_pn_java_lang_String, rfl, rfl⟩
theorem xm_o1554 : xm_Mok xm_mt xm_m1554 := ⟨List.all_eq_true.mp xm_k1554, xm_pn_java_lang_String, rfl, rfl⟩
theorem xm_oe {a : xm_M} (h : xm_Mok xm_mt a) : ∀ M, some a = some M → xm_Mok xm_mt M := fun M e => by cases e; exact h
theorem xm_on : ∀ M, (none : Option xm_M) = some M → xm_Mok xm_mt M := fun M e => by cases e
set_option maxRecDepth 20000 in
theorem xm_og1 : ∀ e ∈ xm_g1, ∀ M, e = some M → xm_Mok xm_mt M := List.forall_mem_cons.mpr ⟨xm_on, List.forall_mem_cons.mpr ⟨xm_oe xm_o101, List.forall_mem_cons.mpr ⟨xm_oe xm_o102, List.forall_mem_cons.mpr ⟨xm_oe xm_o103, List.forall_mem_cons.mpr ⟨xm_oe xm_o104, List.forall_mem_cons.mpr ⟨xm_oe xm_o105, List.forall_mem_cons.mpr ⟨xm_oe xm_o106, List.forall_mem_cons.mpr ⟨xm_oe xm_o107, List.forall_mem_cons.mpr ⟨xm_oe xm_o108, List.forall_mem_cons.mpr ⟨xm_oe xm_o109, List.forall_mem_cons.mpr ⟨xm_oe xm_o110, List.forall_mem_cons.mpr ⟨xm_oe xm_o111, List.forall_mem_cons.mpr ⟨xm_oe xm_o112, List.forall_mem_cons.mpr ⟨xm_oe xm_o113, List.forall_mem_cons.mpr ⟨xm_oe xm_o114, List.forall_mem_cons.mpr ⟨xm_oe xm_o115, List.forall_mem_cons.mpr ⟨xm_oe xm_o116, List.forall_mem_cons.mpr ⟨xm_oe xm_o117, List.forall_mem_cons.mpr ⟨xm_oe xm_o118, List.forall_mem_cons.mpr ⟨xm_oe xm_o119, List.forall_mem_cons.mpr ⟨xm_oe xm_o120, List.forall_mem_cons.mpr ⟨xm_oe xm_o121, List.forall_mem_cons.mpr ⟨xm_oe xm_o122, List.forall_mem_cons.mpr ⟨xm_oe xm_o123, List.forall_mem_cons.mpr ⟨xm_oe xm_o124, List.forall_mem_cons.mpr ⟨xm_oe xm_o125, List.forall_mem_cons.mpr ⟨xm_oe xm_o126, List.forall_mem_cons.mpr ⟨xm_oe xm_o127, List.forall_mem_cons.mpr ⟨xm_oe xm_o128, List.forall_mem_cons.mpr ⟨xm_oe xm_o129, List.forall_mem_cons.mpr ⟨xm_oe xm_o130, List.forall_mem_cons.mpr ⟨xm_oe xm_o131, List.forall_mem_cons.mpr ⟨xm_oe xm_o132, List.forall_mem_cons.mpr ⟨xm_oe xm_o133, List.forall_mem_cons.mpr ⟨xm_oe xm_o134, List.forall_mem_cons.mpr ⟨xm_oe xm_o135, List.forall_mem_cons.mpr ⟨xm_oe xm_o136, List.forall_mem_cons.mpr ⟨xm_oe xm_o137, List.forall_mem_cons.mpr ⟨xm_oe xm_o138, List.forall_mem_cons.mpr ⟨xm_oe xm_o139, List.forall_mem_cons.mpr ⟨xm_oe xm_o140, List.forall_mem_cons.mpr ⟨xm_oe xm_o141, List.forall_mem_cons.mpr ⟨xm_oe xm_o142, List.forall_mem_cons.mpr ⟨xm_oe xm_o143, List.forall_mem_cons.mpr ⟨xm_oe xm_o144, List.forall_mem_cons.mpr ⟨xm_oe xm_o145, List.forall_mem_cons.mpr ⟨xm_oe xm_o146, List.forall_mem_cons.mpr ⟨xm_oe xm_o147, List.forall_mem_cons.mpr ⟨xm_oe xm_o148, List.forall_mem_cons.mpr ⟨xm_oe xm_o149, List.forall_mem_cons.mpr ⟨xm_oe xm_o150, List.forall_mem_cons.mpr ⟨xm_oe xm_o151, List.forall_mem_cons.mpr ⟨xm_oe xm_o152, List.forall_mem_cons.mpr ⟨xm_oe xm_o153, fun _ h => absurd h List.not_mem_nil⟩⟩⟩⟩⟩⟩⟩⟩⟩⟩⟩⟩⟩⟩⟩⟩⟩⟩⟩⟩⟩⟩⟩⟩⟩⟩⟩⟩⟩⟩⟩⟩⟩⟩⟩⟩⟩⟩⟩⟩⟩⟩⟩⟩⟩⟩⟩⟩⟩⟩⟩⟩⟩⟩
set_option maxRecDepth 20000 in
theorem xm_og2 : ∀ e ∈ xm_g2, ∀ M, e = some M → xm_Mok xm_mt M := List.forall_mem_cons.mpr ⟨xm_on, List.forall_mem_cons.mpr ⟨xm_oe xm_o201, List.forall_mem_cons.mpr ⟨xm_oe xm_o202, List.forall_mem_cons.mpr ⟨xm_oe xm_o203, List.forall_mem_cons.mpr ⟨xm_oe xm_o204, fun _ h => absurd h List.not_mem_nil⟩⟩⟩⟩⟩
set_option maxRecDepth 20000 in
theorem xm_og3 : ∀ e ∈ xm_g3, ∀ M, e = some M → xm_Mok xm_mt M := List.forall_mem_cons.mpr ⟨xm_on, List.forall_mem_cons.mpr ⟨xm_oe xm_o301, List.forall_mem_cons.mpr ⟨xm_oe xm_o302, List.forall_mem_cons.mpr ⟨xm_oe xm_o303, fun _ h => absurd h List.not_mem_nil⟩⟩⟩⟩
set_option maxRecDepth 20000 in
theorem xm_og4 : ∀ e ∈ xm_g4, ∀ M, e = some M → xm_Mok xm_mt M := List.forall_mem_cons.mpr ⟨xm_on, List.forall_mem_cons.mpr ⟨xm_oe xm_o401, List.forall_mem_cons.mpr ⟨xm_oe xm_o402, List.forall_mem_cons.mpr ⟨xm_oe xm_o403, List.forall_mem_cons.mpr ⟨xm_oe xm_o404, List.forall_mem_cons.mpr ⟨xm_oe xm_o405, List.forall_mem_cons.mpr ⟨xm_oe xm_o406, List.forall_mem_cons.mpr ⟨xm_oe xm_o407, List.forall_mem_cons.mpr ⟨xm_oe xm_o408, List.forall_mem_cons.mpr ⟨xm_oe xm_o409, List.forall_mem_cons.mpr ⟨xm_oe xm_o410, List.forall_mem_cons.mpr ⟨xm_oe xm_o411, List.forall_mem_cons.mpr ⟨xm_oe xm_o412, List.forall_mem_cons.mpr ⟨xm_oe xm_o413, List.forall_mem_cons.mpr ⟨xm_oe xm_o414, List.forall_mem_cons.mpr ⟨xm_oe xm_o415, List.forall_mem_cons.mpr ⟨xm_oe xm_o416, List.forall_mem_cons.mpr ⟨xm_oe xm_o417, List.forall_mem_cons.mpr ⟨xm_oe xm_o418, List.forall_mem_cons.mpr ⟨xm_oe xm_o419, List.forall_mem_cons.mpr ⟨xm_oe xm_o420, List.forall_mem_cons.mpr ⟨xm_oe xm_o421, fun _ h => absurd h List.not_mem_nil⟩⟩⟩⟩⟩⟩⟩⟩⟩⟩⟩⟩⟩⟩⟩⟩⟩⟩⟩⟩⟩⟩
set_option maxRecDepth 20000 in
theorem xm_og5 : ∀ e ∈ xm_g5, ∀ M, e = some M → xm_Mok xm_mt M := List.forall_mem_cons.mpr ⟨xm_on, List.forall_mem_cons.mpr ⟨xm_oe xm_o501, List.forall_mem_cons.mpr ⟨xm_oe xm_o502, List.forall_mem_cons.mpr ⟨xm_oe xm_o503, List.forall_mem_cons.mpr ⟨xm_oe xm_o504, List.forall_mem_cons.mpr ⟨xm_oe xm_o505, List.forall_mem_cons.mpr ⟨xm_oe xm_o506, List.forall_mem_cons.mpr ⟨xm_oe xm_o507, List.forall_mem_cons.mpr ⟨xm_oe xm_o508, List.forall_mem_cons.mpr ⟨xm_oe xm_o509, List.forall_mem_cons.mpr ⟨xm_oe xm_o510, List.forall_mem_cons.mpr ⟨xm_oe xm_o511, fun _ h => absurd h List.not_mem_nil⟩⟩⟩⟩⟩⟩⟩⟩⟩⟩⟩⟩
set_option maxRecDepth 20000 in
theorem xm_og6 : ∀ e ∈ xm_g6, ∀ M, e = some M → xm_Mok xm_mt M := List.forall_mem_cons.mpr ⟨xm_on, List.forall_mem_cons.mpr ⟨xm_oe xm_o601, List.forall_mem_cons.mpr ⟨xm_oe xm_o602, List.forall_mem_cons.mpr ⟨xm_oe xm_o603, List.forall_mem_cons.mpr ⟨xm_oe xm_o604, List.forall_mem_cons.mpr ⟨xm_oe xm_o605, List.forall_mem_cons.mpr ⟨xm_oe xm_o606, List.forall_mem_cons.mpr ⟨xm_oe xm_o607, fun _ h => absurd h List.not_mem_nil⟩⟩⟩⟩⟩⟩⟩⟩
set_option maxRecDepth 20000 in
theorem xm_og7 : ∀ e ∈ xm_g7, ∀ M, e = some M → xm_Mok xm_mt M := List.forall_mem_cons.mpr ⟨xm_on, List.forall_mem_cons.mpr ⟨xm_oe xm_o701, List.forall_mem_cons.mpr ⟨xm_oe xm_o702, List.forall_mem_cons.mpr ⟨xm_oe xm_o703, List.forall_mem_cons.mpr ⟨xm_oe xm_o704, List.forall_mem_cons.mpr ⟨xm_oe xm_o705, fun _ h => absurd h List.not_mem_nil⟩⟩⟩⟩⟩⟩
set_option maxRecDepth 20000 in
theorem xm_og8 : ∀ e ∈ xm_g8, ∀ M, e = some M → xm_Mok xm_mt M := List.forall_mem_cons.mpr ⟨xm_on, List.forall_mem_cons.mpr ⟨xm_oe xm_o801, List.forall_mem_cons.mpr ⟨xm_oe xm_o802, List.forall_mem_cons.mpr ⟨xm_oe xm_o803, List.forall_mem_cons.mpr ⟨xm_oe xm_o804, List.forall_mem_cons.mpr ⟨xm_oe xm_o805, List.forall_mem_cons.mpr ⟨xm_oe xm_o806, fun _ h => absurd h List.not_mem_nil⟩⟩⟩⟩⟩⟩⟩
set_option maxRecDepth 20000 in
theorem xm_og9 : ∀ e ∈ xm_g9, ∀ M, e = some M → xm_Mok xm_mt M := List.forall_mem_cons.mpr ⟨xm_on, List.forall_mem_cons.mpr ⟨xm_oe xm_o901, List.forall_mem_cons.mpr ⟨xm_oe xm_o902, List.forall_mem_cons.mpr ⟨xm_oe xm_o903, fun _ h => absurd h List.not_mem_nil⟩⟩⟩⟩
set_option maxRecDepth 20000 in
theorem xm_og11 : ∀ e ∈ xm_g11, ∀ M, e = some M → xm_Mok xm_mt M := List.forall_mem_cons.mpr ⟨xm_on, List.forall_mem_cons.mpr ⟨xm_oe xm_o1101, List.forall_mem_cons.mpr ⟨xm_oe xm_o1102, List.forall_mem_cons.mpr ⟨xm_oe xm_o1103, List.forall_mem_cons.mpr ⟨xm_oe xm_o1104, List.forall_mem_cons.mpr ⟨xm_oe xm_o1105, List.forall_mem_cons.mpr ⟨xm_oe xm_o1106, List.forall_mem_cons.mpr ⟨xm_oe xm_o1107, List.forall_mem_cons.mpr ⟨xm_oe xm_o1108, List.forall_mem_cons.mpr ⟨xm_oe xm_o1109, List.forall_mem_cons.mpr ⟨xm_oe xm_o1110, List.forall_mem_cons.mpr ⟨xm_oe xm_o1111, List.forall_mem_cons.mpr ⟨xm_oe xm_o1112, List.forall_mem_cons.mpr ⟨xm_oe xm_o1113, List.forall_mem_cons.mpr ⟨xm_oe xm_o1114, List.forall_mem_cons.mpr ⟨xm_oe xm_o1115, List.forall_mem_cons.mpr ⟨xm_oe xm_o1116, List.forall_mem_cons.mpr ⟨xm_oe xm_o1117, List.forall_mem_cons.mpr ⟨xm_oe xm_o1118, List.forall_mem_cons.mpr ⟨xm_oe xm_o1119, List.forall_mem_cons.mpr ⟨xm_oe xm_o1120, List.forall_mem_cons.mpr ⟨xm_oe xm_o1121, List.forall_mem_cons.mpr ⟨xm_oe xm_o1122, List.forall_mem_cons.mpr ⟨xm_oe xm_o1123, List.forall_mem_cons.mpr ⟨xm_oe xm_o1124, List.forall_mem_cons.mpr ⟨xm_oe xm_o1125, List.forall_mem_cons.mpr ⟨xm_oe xm_o1126, List.forall_mem_cons.mpr ⟨xm_oe xm_o1127, List.forall_mem_cons.mpr ⟨xm_oe xm_o1128, List.forall_mem_cons.mpr ⟨xm_oe xm_o1129, List.forall_mem_cons.mpr ⟨xm_oe xm_o1130, List.forall_mem_cons.mpr ⟨xm_oe xm_o1131, List.forall_mem_cons.mpr ⟨xm_oe xm_o1132, List.forall_mem_cons.mpr ⟨xm_oe xm_o1133, List.forall_mem_cons.mpr ⟨xm_oe xm_o1134, List.forall_mem_cons.mpr ⟨xm_oe xm_o1135, List.forall_mem_cons.mpr ⟨xm_oe xm_o1136, List.forall_mem_cons.mpr ⟨xm_oe xm_o1137, List.forall_mem_cons.mpr ⟨xm_oe xm_o1138, List.forall_mem_cons.mpr ⟨xm_oe xm_o1139, List.forall_mem_cons.mpr ⟨xm_oe xm_o1140, List.forall_mem_cons.mpr ⟨xm_oe xm_o1141, List.forall_mem_cons.mpr ⟨xm_oe xm_o1142, List.forall_mem_cons.mpr ⟨xm_oe xm_o1143, List.forall_mem_cons.mpr ⟨xm_oe xm_o1144, List.forall_mem_cons.mpr ⟨xm_oe xm_o1145, List.forall_mem_cons.mpr ⟨xm_oe xm_o1146, List.forall_mem_cons.mpr ⟨xm_oe xm_o1147, List.forall_mem_cons.mpr ⟨xm_oe xm_o1148, List.forall_mem_cons.mpr ⟨xm_oe xm_o1149, List.forall_mem_cons.mpr ⟨xm_oe xm_o1150, List.forall_mem_cons.mpr ⟨xm_oe xm_o1151, List.forall_mem_cons.mpr ⟨xm_oe xm_o1152, List.forall_mem_cons.mpr ⟨xm_oe xm_o1153, List.forall_mem_cons.mpr ⟨xm_oe xm_o1154, List.forall_mem_cons.mpr ⟨xm_oe xm_o1155, List.forall_mem_cons.mpr ⟨xm_oe xm_o1156, List.forall_mem_cons.mpr ⟨xm_oe xm_o1157, List.forall_mem_cons.mpr ⟨xm_oe xm_o1158, List.forall_mem_cons.mpr ⟨xm_oe xm_o1159, List.forall_mem_cons.mpr ⟨xm_oe xm_o1160, List.forall_mem_cons.mpr ⟨xm_oe xm_o1161, List.forall_mem_cons.mpr ⟨xm_oe xm_o1162, List.forall_mem_cons.mpr ⟨xm_oe xm_o1163, List.forall_mem_cons.mpr ⟨xm_oe xm_o1164, List.forall_mem_cons.mpr ⟨xm_oe xm_o1165, List.forall_mem_cons.mpr ⟨xm_oe xm_o1166, List.forall_mem_cons.mpr ⟨xm_oe xm_o1167, List.forall_mem_cons.mpr ⟨xm_oe xm_o1168, List.forall_mem_cons.mpr ⟨xm_oe xm_o1169, List.forall_mem_cons.mpr ⟨xm_oe xm_o1170, List.forall_mem_cons.mpr ⟨xm_oe xm_o1171, List.forall_mem_cons.mpr ⟨xm_oe xm_o1172, List.forall_mem_cons.mpr ⟨xm_oe xm_o1173, List.forall_mem_cons.mpr ⟨xm_oe xm_o1174, List.forall_mem_cons.mpr ⟨xm_oe xm_o1175, List.forall_mem_cons.mpr ⟨xm_oe xm_o1176, List.forall_mem_cons.mpr ⟨xm_oe xm_o1177, List.forall_mem_cons.mpr ⟨xm_oe xm_o1178, List.forall_mem_cons.mpr ⟨xm_oe xm_o1179, List.forall_mem_cons.mpr ⟨xm_oe xm_o1180, List.forall_mem_cons.mpr ⟨xm_oe xm_o1181, List.forall_mem_cons.mpr ⟨xm_oe xm_o1182, List.forall_mem_cons.mpr ⟨xm_oe xm_o1183, List.forall_mem_cons.mpr ⟨xm_oe xm_o1184, List.forall_mem_cons.mpr ⟨xm_oe xm_o1185, List.forall_mem_cons.mpr ⟨xm_oe xm_o1186, List.forall_mem_cons.mpr ⟨xm_oe xm_o1187, List.forall_mem_cons.mpr ⟨xm_oe xm_o1188, List.forall_mem_cons.mpr ⟨xm_oe xm_o1189, List.forall_mem_cons.mpr ⟨xm_oe xm_o1190, List.forall_mem_cons.mpr ⟨xm_oe xm_o1191, List.forall_mem_cons.mpr ⟨xm_oe xm_o1192, List.forall_mem_cons.mpr ⟨xm_oe xm_o1193, List.forall_mem_cons.mpr ⟨xm_oe xm_o1194, List.forall_mem_cons.mpr ⟨xm_oe xm_o1195, List.forall_mem_cons.mpr ⟨xm_oe xm_o1196, List.forall_mem_cons.mpr ⟨xm_oe xm_o1197, List.forall_mem_cons.mpr ⟨xm_oe xm_o1198, List.forall_mem_cons.mpr ⟨xm_oe xm_o1199, fun _ h => absurd h List.not_mem_nil⟩⟩⟩⟩⟩⟩⟩⟩⟩⟩⟩⟩⟩⟩⟩⟩⟩⟩⟩⟩⟩⟩⟩⟩⟩⟩⟩⟩⟩⟩⟩⟩⟩⟩⟩⟩⟩⟩⟩⟩⟩⟩⟩⟩⟩⟩⟩⟩⟩⟩⟩⟩⟩⟩⟩⟩⟩⟩⟩⟩⟩⟩⟩⟩⟩⟩⟩⟩⟩⟩⟩⟩⟩⟩⟩⟩⟩⟩⟩⟩⟩⟩⟩⟩⟩⟩⟩⟩⟩⟩⟩⟩⟩⟩⟩⟩⟩⟩⟩⟩
set_option maxRecDepth 20000 in
theorem xm_og12 : ∀ e ∈ xm_g12, ∀ M, e = some M → xm_Mok xm_mt M := List.forall_mem_cons.mpr ⟨xm_oe xm_o1200, List.forall_mem_cons.mpr ⟨xm_oe xm_o1201, List.forall_mem_cons.mpr ⟨xm_oe xm_o1202, List.forall_mem_cons.mpr ⟨xm_oe xm_o1203, List.forall_mem_cons.mpr ⟨xm_oe xm_o1204, List.forall_mem_cons.mpr ⟨xm_oe xm_o1205, List.forall_mem_cons.mpr ⟨xm_oe xm_o1206, List.forall_mem_cons.mpr ⟨xm_oe xm_o1207, List.forall_mem_cons.mpr ⟨xm_oe xm_o1208, fun _ h => absurd h List.not_mem_nil⟩⟩⟩⟩⟩⟩⟩⟩⟩
set_option maxRecDepth 20000 in
theorem xm_og14 : ∀ e ∈ xm_g14, ∀ M, e = some M → xm_Mok xm_mt M := List.forall_mem_cons.mpr ⟨xm_on, List.forall_mem_cons.mpr ⟨xm_on, List.forall_mem_cons.mpr ⟨xm_on, List.forall_mem_cons.mpr ⟨xm_on, List.forall_mem_cons.mpr ⟨xm_on, List.forall_mem_cons.mpr ⟨xm_on, List.forall_mem_cons.mpr ⟨xm_on, List.forall_mem_cons.mpr ⟨xm_on, List.forall_mem_cons.mpr ⟨xm_on, List.forall_mem_cons.mpr ⟨xm_on, List.forall_mem_cons.mpr ⟨xm_on, List.forall_mem_cons.mpr ⟨xm_on, List.forall_mem_cons.mpr ⟨xm_on, List.forall_mem_cons.mpr ⟨xm_on, List.forall_mem_cons.mpr ⟨xm_on, List.forall_mem_cons.mpr ⟨xm_on, List.forall_mem_cons.mpr ⟨xm_on, List.forall_mem_cons.mpr ⟨xm_on, List.forall_mem_cons.mpr ⟨xm_on, List.forall_mem_cons.mpr ⟨xm_on, List.forall_mem_cons.mpr ⟨xm_on, List.forall_mem_cons.mpr ⟨xm_on, List.forall_mem_cons.mpr ⟨xm_on, List.forall_mem_cons.mpr ⟨xm_on, List.forall_mem_cons.mpr ⟨xm_on, List.forall_mem_cons.mpr ⟨xm_on, List.forall_mem_cons.mpr ⟨xm_on, List.forall_mem_cons.mpr ⟨xm_on, List.forall_mem_cons.mpr ⟨xm_on, List.forall_mem_cons.mpr ⟨xm_on, List.forall_mem_cons.mpr ⟨xm_on, List.forall_mem_cons.mpr ⟨xm_on, List.forall_mem_cons.mpr ⟨xm_on, List.forall_mem_cons.mpr ⟨xm_on, List.forall_mem_cons.mpr ⟨xm_on, List.forall_mem_cons.mpr ⟨xm_on, List.forall_mem_cons.mpr ⟨xm_on, List.forall_mem_cons.mpr ⟨xm_on, List.forall_mem_cons.mpr ⟨xm_on, List.forall_mem_cons.mpr ⟨xm_on, List.forall_mem_cons.mpr ⟨xm_on, List.forall_mem_cons.mpr ⟨xm_on, List.forall_mem_cons.mpr ⟨xm_on, List.forall_mem_cons.mpr ⟨xm_on, List.forall_mem_cons.mpr ⟨xm_on, List.forall_mem_cons.mpr ⟨xm_on, List.forall_mem_cons.mpr ⟨xm_on, List.forall_mem_cons.mpr ⟨xm_on, List.forall_mem_cons.mpr ⟨xm_on, List.forall_mem_cons.mpr ⟨xm_on, List.forall_mem_cons.mpr ⟨xm_on, List.forall_mem_cons.mpr ⟨xm_on, List.forall_mem_cons.mpr ⟨xm_on, List.forall_mem_cons.mpr ⟨xm_on, List.forall_mem_cons.mpr ⟨xm_oe xm_o1454, List.forall_mem_cons.mpr ⟨xm_on, List.forall_mem_cons.mpr ⟨xm_on, List.forall_mem_cons.mpr ⟨xm_on, List.forall_mem_cons.mpr ⟨xm_on, List.forall_mem_cons.mpr ⟨xm_on, List.forall_mem_cons.mpr ⟨xm_on, List.forall_mem_cons.mpr ⟨xm_on, List.forall_mem_cons.mpr ⟨xm_on, List.forall_mem_cons.mpr ⟨xm_on, List.forall_mem_cons.mpr ⟨xm_on, List.forall_mem_cons.mpr ⟨xm_on, List.forall_mem_cons.mpr ⟨xm_on, List.forall_mem_cons.mpr ⟨xm_on, List.forall_mem_cons.mpr ⟨xm_on, List.forall_mem_cons.mpr ⟨xm_on, List.forall_mem_cons.mpr ⟨xm_on, List.forall_mem_cons.mpr ⟨xm_on, List.forall_mem_cons.mpr ⟨xm_on, List.forall_mem_cons.mpr ⟨xm_on, List.forall_mem_cons.mpr ⟨xm_on, List.forall_mem_cons.mpr ⟨xm_on, List.forall_mem_cons.mpr ⟨xm_on, List.forall_mem_cons.mpr ⟨xm_on, List.forall_mem_cons.mpr ⟨xm_on, List.forall_mem_cons.mpr ⟨xm_oe xm_o1479, List.forall_mem_cons.mpr ⟨xm_oe xm_o1480, fun _ h => absurd h List.not_mem_nil⟩⟩⟩⟩⟩⟩⟩⟩⟩⟩⟩⟩⟩⟩⟩⟩⟩⟩⟩⟩⟩⟩⟩⟩⟩⟩⟩⟩⟩⟩⟩⟩⟩⟩⟩⟩⟩⟩⟩⟩⟩⟩⟩⟩⟩⟩⟩⟩⟩⟩⟩⟩⟩⟩⟩⟩⟩⟩⟩⟩⟩⟩⟩⟩⟩⟩⟩⟩⟩⟩⟩⟩⟩⟩⟩⟩⟩⟩⟩⟩⟩
set_option maxRecDepth 20000 in
theorem xm_og15 : ∀ e ∈ xm_g15, ∀ M, e = some M → xm_Mok xm_mt M := List.forall_mem_cons.mpr ⟨xm_on, List.forall_mem_cons.mpr ⟨xm_on, List.forall_mem_cons.mpr ⟨xm_on, List.forall_mem_cons.mpr ⟨xm_on, List.forall_mem_cons.mpr ⟨xm_oe xm_o1504, List.forall_mem_cons.mpr ⟨xm_on, List.forall_mem_cons.mpr ⟨xm_on, List.forall_mem_cons.mpr ⟨xm_on, List.forall_mem_cons.mpr ⟨xm_on, List.forall_mem_cons.mpr ⟨xm_on, List.forall_mem_cons.mpr ⟨xm_on, List.forall_mem_cons.mpr ⟨xm_on, List.forall_mem_cons.mpr ⟨xm_on, List.forall_mem_cons.mpr ⟨xm_on, List.forall_mem_cons.mpr ⟨xm_on, List.forall_mem_cons.mpr ⟨xm_on, List.forall_mem_cons.mpr ⟨xm_on, List.forall_mem_cons.mpr ⟨xm_on, List.forall_mem_cons.mpr ⟨xm_on, List.forall_mem_cons.mpr ⟨xm_on, List.forall_mem_cons.mpr ⟨xm_on, List.forall_mem_cons.mpr ⟨xm_on, List.forall_mem_cons.mpr ⟨xm_oe xm_o1522, List.forall_mem_cons.mpr ⟨xm_oe xm_o1523, List.forall_mem_cons.mpr ⟨xm_on, List.forall_mem_cons.mpr ⟨xm_on, List.forall_mem_cons.mpr ⟨xm_on, List.forall_mem_cons.mpr ⟨xm_on, List.forall_mem_cons.mpr ⟨xm_on, List.forall_mem_cons.mpr ⟨xm_on, List.forall_mem_cons.mpr ⟨xm_on, List.forall_mem_cons.mpr ⟨xm_on, List.forall_mem_cons.mpr ⟨xm_on, List.forall_mem_cons.mpr ⟨xm_on, List.forall_mem_cons.mpr ⟨xm_on, List.forall_mem_cons.mpr ⟨xm_on, List.forall_mem_cons.mpr ⟨xm_on, List.forall_mem_cons.mpr ⟨xm_on, List.forall_mem_cons.mpr ⟨xm_on, List.forall_mem_cons.mpr ⟨xm_on, List.forall_mem_cons.mpr ⟨xm_on, List.forall_mem_cons.mpr ⟨xm_on, List.forall_mem_cons.mpr ⟨xm_on, List.forall_mem_cons.mpr ⟨xm_on, List.forall_mem_cons.mpr ⟨xm_on, List.forall_mem_cons.mpr ⟨xm_on, List.forall_mem_cons.mpr ⟨xm_on, List.forall_mem_cons.mpr ⟨xm_on, List.forall_mem_cons.mpr ⟨xm_on, List.forall_mem_cons.mpr ⟨xm_on, List.forall_mem_cons.mpr ⟨xm_on, List.forall_mem_cons.mpr ⟨xm_on, List.forall_mem_cons.mpr ⟨xm_oe xm_o1552, List.forall_mem_cons.mpr ⟨xm_on, List.forall_mem_cons.mpr ⟨xm_oe xm_o1554, fun _ h => absurd h List.not_mem_nil⟩⟩⟩⟩⟩⟩⟩⟩⟩⟩⟩⟩⟩⟩⟩⟩⟩⟩⟩⟩⟩⟩⟩⟩⟩⟩⟩⟩⟩⟩⟩⟩⟩⟩⟩⟩⟩⟩⟩⟩⟩⟩⟩⟩⟩⟩⟩⟩⟩⟩⟩⟩⟩⟩⟩
theorem xm_ogs (g : Nat) : ∀ e ∈ xm_grp g, ∀ M, e = some M → xm_Mok xm_mt M := by
  unfold xm_grp
  split
  · exact xm_og1
  · exact xm_og2
  · exact xm_og3
  · exact xm_og4
  · exact xm_og5
  · exact xm_og6
  · exact xm_og7
  · exact xm_og8
  · exact xm_og9
  · exact xm_og11
  · exact xm_og12
  · exact xm_og14
  · exact xm_og15
  · exact fun _ h => absurd h List.not_mem_nil
theorem xm_mok (y : Nat) (M : xm_M) (h : xm_mt y = some M) : xm_Mok xm_mt M := by
  unfold xm_mt at h
  split at h
  next M2 h2 =>
    cases h
    exact xm_ogs _ _ (List.mem_of_getElem? h2) _ rfl
  next => cases h
end
