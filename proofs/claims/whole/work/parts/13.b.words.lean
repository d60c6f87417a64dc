set_option maxRecDepth 20000 in
theorem xw0 : Cond.methodLink RX5 3 objectInit ∈ xT := xT_in (by decide +kernel) rfl
set_option maxRecDepth 20000 in
theorem xw1 : Cond.instanceMethod objectInit ∈ xT := xT_in (by decide +kernel) rfl
set_option maxRecDepth 20000 in
theorem xw2 : Cond.code objectInit ⟨#[0xb1]⟩ 1 none ∈ xT := xT_in (by decide +kernel) rfl
set_option maxRecDepth 20000 in
theorem xw3 : Cond.methodLink RX0 3 objectInit ∈ xT := xT_in (by decide +kernel) rfl
set_option maxRecDepth 20000 in
theorem xw4 : Cond.code yX5_init cX5_init 1 none ∈ xT := xT_in (by decide +kernel) rfl
set_option maxRecDepth 20000 in
theorem xw5 : Cond.initialized RX5 ∈ xT := xT_in (by decide +kernel) rfl
set_option maxRecDepth 20000 in
theorem xw6 : Cond.instanceMethod yX5_init ∈ xT := xT_in (by decide +kernel) rfl
set_option maxRecDepth 20000 in
theorem xw7 : Cond.code yX5_clear cX5_clear 4 none ∈ xT := xT_in (by decide +kernel) rfl
set_option maxRecDepth 20000 in
theorem xw8 : Cond.methodLink RX0 53 yX5_clear ∈ xT := xT_in (by decide +kernel) rfl
set_option maxRecDepth 20000 in
theorem xw9 : Cond.instanceMethod yX5_clear ∈ xT := xT_in (by decide +kernel) rfl
set_option maxRecDepth 20000 in
theorem xw10 : Cond.selects RX5 yX5_clear yX5_clear ∈ xT := xT_in (by decide +kernel) rfl
set_option maxRecDepth 20000 in
theorem xw11 : Cond.code yX7_badnessOf cX7_badnessOf 6 (some .int) ∈ xT := xT_in (by decide +kernel) rfl
set_option maxRecDepth 20000 in
theorem xw12 : Cond.initialized RX7 ∈ xT := xT_in (by decide +kernel) rfl
set_option maxRecDepth 20000 in
theorem xw13 : Cond.static yX7_badnessOf ∈ xT := xT_in (by decide +kernel) rfl
set_option maxRecDepth 20000 in
theorem xw14 : Cond.code yX5_badnessHere cX5_badnessHere 3 (some .int) ∈ xT := xT_in (by decide +kernel) rfl
set_option maxRecDepth 20000 in
theorem xw15 : Cond.methodLink RX0 100 yX5_badnessHere ∈ xT := xT_in (by decide +kernel) rfl
set_option maxRecDepth 20000 in
theorem xw16 : Cond.instanceMethod yX5_badnessHere ∈ xT := xT_in (by decide +kernel) rfl
set_option maxRecDepth 20000 in
theorem xw17 : Cond.selects RX5 yX5_badnessHere yX5_badnessHere ∈ xT := xT_in (by decide +kernel) rfl
set_option maxRecDepth 20000 in
theorem xw18 : Cond.code yX0_costAt cX0_costAt 3 (some .long) ∈ xT := xT_in (by decide +kernel) rfl
set_option maxRecDepth 20000 in
theorem xw19 : Cond.initialized RX0 ∈ xT := xT_in (by decide +kernel) rfl
set_option maxRecDepth 20000 in
theorem xw20 : Cond.methodLink RX0 92 yX0_costAt ∈ xT := xT_in (by decide +kernel) rfl
set_option maxRecDepth 20000 in
theorem xw21 : Cond.instanceMethod yX0_costAt ∈ xT := xT_in (by decide +kernel) rfl
set_option maxRecDepth 20000 in
theorem xw22 : Cond.selects RX0 yX0_costAt yX0_costAt ∈ xT := xT_in (by decide +kernel) rfl
set_option maxRecDepth 20000 in
theorem xw23 : Cond.code yX5_copyFrom cX5_copyFrom 3 none ∈ xT := xT_in (by decide +kernel) rfl
set_option maxRecDepth 20000 in
theorem xw24 : Cond.methodLink RX0 96 yX5_copyFrom ∈ xT := xT_in (by decide +kernel) rfl
set_option maxRecDepth 20000 in
theorem xw25 : Cond.instanceMethod yX5_copyFrom ∈ xT := xT_in (by decide +kernel) rfl
set_option maxRecDepth 20000 in
theorem xw26 : Cond.selects RX5 yX5_copyFrom yX5_copyFrom ∈ xT := xT_in (by decide +kernel) rfl
set_option maxRecDepth 20000 in
theorem xw27 : Cond.code yX1_byFactor cX1_byFactor 3 (some .long) ∈ xT := xT_in (by decide +kernel) rfl
set_option maxRecDepth 20000 in
theorem xw28 : Cond.initialized RX1 ∈ xT := xT_in (by decide +kernel) rfl
set_option maxRecDepth 20000 in
theorem xw29 : Cond.methodLink RX0 165 yX1_byFactor ∈ xT := xT_in (by decide +kernel) rfl
set_option maxRecDepth 20000 in
theorem xw30 : Cond.instanceMethod yX1_byFactor ∈ xT := xT_in (by decide +kernel) rfl
set_option maxRecDepth 20000 in
theorem xw31 : Cond.selects RX1 yX1_byFactor yX1_byFactor ∈ xT := xT_in (by decide +kernel) rfl
set_option maxRecDepth 20000 in
theorem xw32 : Cond.methodLink RX0 183 Lib.MathLoose.min_long.x ∈ xT := xT_in (by decide +kernel) rfl
set_option maxRecDepth 20000 in
theorem xw33 : Cond.static Lib.MathLoose.min_long.x ∈ xT := xT_in (by decide +kernel) rfl
set_option maxRecDepth 20000 in
theorem xw34 : Cond.initialized "java/lang/Math" ∈ xT := xT_in (by decide +kernel) rfl
set_option maxRecDepth 20000 in
theorem xw35 : Cond.code Lib.MathLoose.min_long.x Lib.MathLoose.min_long.code 4 (some .long) ∈ xT := xT_in (by decide +kernel) rfl
set_option maxRecDepth 20000 in
theorem xw36 : Cond.code yX0_partThatFits cX0_partThatFits 11 (some .int) ∈ xT := xT_in (by decide +kernel) rfl
set_option maxRecDepth 20000 in
theorem xw37 : Cond.methodLink RX0 159 yX0_partThatFits ∈ xT := xT_in (by decide +kernel) rfl
set_option maxRecDepth 20000 in
theorem xw38 : Cond.instanceMethod yX0_partThatFits ∈ xT := xT_in (by decide +kernel) rfl
set_option maxRecDepth 20000 in
theorem xw39 : Cond.selects RX0 yX0_partThatFits yX0_partThatFits ∈ xT := xT_in (by decide +kernel) rfl
set_option maxRecDepth 20000 in
theorem xw40 : Cond.code yX5_grow cX5_grow 7 none ∈ xT := xT_in (by decide +kernel) rfl
set_option maxRecDepth 20000 in
theorem xw41 : Cond.methodLink RX0 124 yX5_grow ∈ xT := xT_in (by decide +kernel) rfl
set_option maxRecDepth 20000 in
theorem xw42 : Cond.instanceMethod yX5_grow ∈ xT := xT_in (by decide +kernel) rfl
set_option maxRecDepth 20000 in
theorem xw43 : Cond.selects RX5 yX5_grow yX5_grow ∈ xT := xT_in (by decide +kernel) rfl
set_option maxRecDepth 20000 in
theorem xw44 : Cond.code yX0_putInsert cX0_putInsert 4 (some .int) ∈ xT := xT_in (by decide +kernel) rfl
set_option maxRecDepth 20000 in
theorem xw45 : Cond.methodLink RX0 113 yX0_putInsert ∈ xT := xT_in (by decide +kernel) rfl
set_option maxRecDepth 20000 in
theorem xw46 : Cond.instanceMethod yX0_putInsert ∈ xT := xT_in (by decide +kernel) rfl
set_option maxRecDepth 20000 in
theorem xw47 : Cond.selects RX0 yX0_putInsert yX0_putInsert ∈ xT := xT_in (by decide +kernel) rfl
set_option maxRecDepth 20000 in
theorem xw48 : Cond.code yX0_putBox cX0_putBox 2 none ∈ xT := xT_in (by decide +kernel) rfl
set_option maxRecDepth 20000 in
theorem xw49 : Cond.methodLink RX0 120 yX0_putBox ∈ xT := xT_in (by decide +kernel) rfl
set_option maxRecDepth 20000 in
theorem xw50 : Cond.instanceMethod yX0_putBox ∈ xT := xT_in (by decide +kernel) rfl
set_option maxRecDepth 20000 in
theorem xw51 : Cond.selects RX0 yX0_putBox yX0_putBox ∈ xT := xT_in (by decide +kernel) rfl
set_option maxRecDepth 20000 in
theorem xw52 : Cond.methodLink RX1 1 objectInit ∈ xT := xT_in (by decide +kernel) rfl
set_option maxRecDepth 20000 in
theorem xw53 : Cond.methodLink RX2 1 objectInit ∈ xT := xT_in (by decide +kernel) rfl
set_option maxRecDepth 20000 in
theorem xw54 : Cond.methodLink RX4 3 objectInit ∈ xT := xT_in (by decide +kernel) rfl
set_option maxRecDepth 20000 in
theorem xw55 : Cond.code yX4_look cX4_look 2 (some (.object "PageBuilder$Item")) ∈ xT := xT_in (by decide +kernel) rfl
set_option maxRecDepth 20000 in
theorem xw56 : Cond.initialized RX4 ∈ xT := xT_in (by decide +kernel) rfl
set_option maxRecDepth 20000 in
theorem xw57 : Cond.methodLink RX4 24 yX4_look ∈ xT := xT_in (by decide +kernel) rfl
set_option maxRecDepth 20000 in
theorem xw58 : Cond.instanceMethod yX4_look ∈ xT := xT_in (by decide +kernel) rfl
set_option maxRecDepth 20000 in
theorem xw59 : Cond.selects RX4 yX4_look yX4_look ∈ xT := xT_in (by decide +kernel) rfl
set_option maxRecDepth 20000 in
theorem xw60 : Cond.methodLink RX6 1 objectInit ∈ xT := xT_in (by decide +kernel) rfl
set_option maxRecDepth 20000 in
theorem xw61 : Cond.methodLink RX6 54 yX5_copyFrom ∈ xT := xT_in (by decide +kernel) rfl
set_option maxRecDepth 20000 in
theorem xw62 : Cond.methodLink RX7 1 objectInit ∈ xT := xT_in (by decide +kernel) rfl
set_option maxRecDepth 20000 in
theorem xw63 : Cond.code yX4_init cX4_init 1 none ∈ xT := xT_in (by decide +kernel) rfl
set_option maxRecDepth 20000 in
theorem xw64 : Cond.instanceMethod yX4_init ∈ xT := xT_in (by decide +kernel) rfl
set_option maxRecDepth 20000 in
theorem xw65 : Cond.code yX0_init cX0_init 1 none ∈ xT := xT_in (by decide +kernel) rfl
set_option maxRecDepth 20000 in
theorem xw66 : Cond.instanceMethod yX0_init ∈ xT := xT_in (by decide +kernel) rfl
set_option maxRecDepth 20000 in
theorem xw67 : Cond.code yX0_begin cX0_begin 5 none ∈ xT := xT_in (by decide +kernel) rfl
set_option maxRecDepth 20000 in
theorem xw68 : Cond.methodLink RX7 51 yX0_begin ∈ xT := xT_in (by decide +kernel) rfl
set_option maxRecDepth 20000 in
theorem xw69 : Cond.instanceMethod yX0_begin ∈ xT := xT_in (by decide +kernel) rfl
set_option maxRecDepth 20000 in
theorem xw70 : Cond.selects RX0 yX0_begin yX0_begin ∈ xT := xT_in (by decide +kernel) rfl
set_option maxRecDepth 20000 in
theorem xw71 : Cond.code yX7_within cX7_within 3 (some .boolean) ∈ xT := xT_in (by decide +kernel) rfl
set_option maxRecDepth 20000 in
theorem xw72 : Cond.methodLink RX7 56 yX7_within ∈ xT := xT_in (by decide +kernel) rfl
set_option maxRecDepth 20000 in
theorem xw73 : Cond.static yX7_within ∈ xT := xT_in (by decide +kernel) rfl
set_option maxRecDepth 20000 in
theorem xw74 : Cond.code yX1_init cX1_init 6 none ∈ xT := xT_in (by decide +kernel) rfl
set_option maxRecDepth 20000 in
theorem xw75 : Cond.methodLink RX7 66 yX1_init ∈ xT := xT_in (by decide +kernel) rfl
set_option maxRecDepth 20000 in
theorem xw76 : Cond.instanceMethod yX1_init ∈ xT := xT_in (by decide +kernel) rfl
set_option maxRecDepth 20000 in
theorem xw77 : Cond.code yX4_addLast cX4_addLast 2 none ∈ xT := xT_in (by decide +kernel) rfl
set_option maxRecDepth 20000 in
theorem xw78 : Cond.methodLink RX7 217 yX4_addLast ∈ xT := xT_in (by decide +kernel) rfl
set_option maxRecDepth 20000 in
theorem xw79 : Cond.instanceMethod yX4_addLast ∈ xT := xT_in (by decide +kernel) rfl
set_option maxRecDepth 20000 in
theorem xw80 : Cond.selects RX4 yX4_addLast yX4_addLast ∈ xT := xT_in (by decide +kernel) rfl
set_option maxRecDepth 20000 in
theorem xw81 : Cond.code yX2_init cX2_init 4 none ∈ xT := xT_in (by decide +kernel) rfl
set_option maxRecDepth 20000 in
theorem xw82 : Cond.initialized RX2 ∈ xT := xT_in (by decide +kernel) rfl
set_option maxRecDepth 20000 in
theorem xw83 : Cond.methodLink RX7 79 yX2_init ∈ xT := xT_in (by decide +kernel) rfl
set_option maxRecDepth 20000 in
theorem xw84 : Cond.instanceMethod yX2_init ∈ xT := xT_in (by decide +kernel) rfl
set_option maxRecDepth 20000 in
theorem xw85 : Cond.code yX7_addToLine cX7_addToLine 2 (some .int) ∈ xT := xT_in (by decide +kernel) rfl
set_option maxRecDepth 20000 in
theorem xw86 : Cond.methodLink RX7 85 yX7_addToLine ∈ xT := xT_in (by decide +kernel) rfl
set_option maxRecDepth 20000 in
theorem xw87 : Cond.instanceMethod yX7_addToLine ∈ xT := xT_in (by decide +kernel) rfl
set_option maxRecDepth 20000 in
theorem xw88 : Cond.selects RX7 yX7_addToLine yX7_addToLine ∈ xT := xT_in (by decide +kernel) rfl
set_option maxRecDepth 20000 in
theorem xw89 : Cond.code yX4_takeFirst cX4_takeFirst 2 (some (.object "PageBuilder$Item")) ∈ xT := xT_in (by decide +kernel) rfl
set_option maxRecDepth 20000 in
theorem xw90 : Cond.methodLink RX7 247 yX4_takeFirst ∈ xT := xT_in (by decide +kernel) rfl
set_option maxRecDepth 20000 in
theorem xw91 : Cond.instanceMethod yX4_takeFirst ∈ xT := xT_in (by decide +kernel) rfl
set_option maxRecDepth 20000 in
theorem xw92 : Cond.selects RX4 yX4_takeFirst yX4_takeFirst ∈ xT := xT_in (by decide +kernel) rfl
set_option maxRecDepth 20000 in
theorem xw93 : Cond.code yX4_addFirst cX4_addFirst 2 none ∈ xT := xT_in (by decide +kernel) rfl
set_option maxRecDepth 20000 in
theorem xw94 : Cond.methodLink RX7 269 yX4_addFirst ∈ xT := xT_in (by decide +kernel) rfl
set_option maxRecDepth 20000 in
theorem xw95 : Cond.instanceMethod yX4_addFirst ∈ xT := xT_in (by decide +kernel) rfl
set_option maxRecDepth 20000 in
theorem xw96 : Cond.selects RX4 yX4_addFirst yX4_addFirst ∈ xT := xT_in (by decide +kernel) rfl
set_option maxRecDepth 20000 in
theorem xw97 : Cond.methodLink RX7 183 yX4_look ∈ xT := xT_in (by decide +kernel) rfl
set_option maxRecDepth 20000 in
theorem xw98 : Cond.code yX7_dropFirst cX7_dropFirst 2 none ∈ xT := xT_in (by decide +kernel) rfl
set_option maxRecDepth 20000 in
theorem xw99 : Cond.methodLink RX7 230 yX7_dropFirst ∈ xT := xT_in (by decide +kernel) rfl
set_option maxRecDepth 20000 in
theorem xw100 : Cond.instanceMethod yX7_dropFirst ∈ xT := xT_in (by decide +kernel) rfl
set_option maxRecDepth 20000 in
theorem xw101 : Cond.selects RX7 yX7_dropFirst yX7_dropFirst ∈ xT := xT_in (by decide +kernel) rfl
set_option maxRecDepth 20000 in
theorem xw102 : Cond.code yX7_endedPage cX7_endedPage 2 (some (.object "PageBuilder$Page")) ∈ xT := xT_in (by decide +kernel) rfl
set_option maxRecDepth 20000 in
theorem xw103 : Cond.methodLink RX7 133 yX7_endedPage ∈ xT := xT_in (by decide +kernel) rfl
set_option maxRecDepth 20000 in
theorem xw104 : Cond.instanceMethod yX7_endedPage ∈ xT := xT_in (by decide +kernel) rfl
set_option maxRecDepth 20000 in
theorem xw105 : Cond.selects RX7 yX7_endedPage yX7_endedPage ∈ xT := xT_in (by decide +kernel) rfl
set_option maxRecDepth 20000 in
theorem xw106 : Cond.code yX6_init cX6_init 9 none ∈ xT := xT_in (by decide +kernel) rfl
set_option maxRecDepth 20000 in
theorem xw107 : Cond.initialized RX6 ∈ xT := xT_in (by decide +kernel) rfl
set_option maxRecDepth 20000 in
theorem xw108 : Cond.methodLink RX7 257 yX6_init ∈ xT := xT_in (by decide +kernel) rfl
set_option maxRecDepth 20000 in
theorem xw109 : Cond.instanceMethod yX6_init ∈ xT := xT_in (by decide +kernel) rfl
set_option maxRecDepth 20000 in
theorem xw110 : Cond.code yX7_putBackFromBreak cX7_putBackFromBreak 2 none ∈ xT := xT_in (by decide +kernel) rfl
set_option maxRecDepth 20000 in
theorem xw111 : Cond.methodLink RX7 260 yX7_putBackFromBreak ∈ xT := xT_in (by decide +kernel) rfl
set_option maxRecDepth 20000 in
theorem xw112 : Cond.instanceMethod yX7_putBackFromBreak ∈ xT := xT_in (by decide +kernel) rfl
set_option maxRecDepth 20000 in
theorem xw113 : Cond.selects RX7 yX7_putBackFromBreak yX7_putBackFromBreak ∈ xT := xT_in (by decide +kernel) rfl
set_option maxRecDepth 20000 in
theorem xw114 : Cond.code yX7_putBackInserts cX7_putBackInserts 3 none ∈ xT := xT_in (by decide +kernel) rfl
set_option maxRecDepth 20000 in
theorem xw115 : Cond.methodLink RX7 263 yX7_putBackInserts ∈ xT := xT_in (by decide +kernel) rfl
set_option maxRecDepth 20000 in
theorem xw116 : Cond.instanceMethod yX7_putBackInserts ∈ xT := xT_in (by decide +kernel) rfl
set_option maxRecDepth 20000 in
theorem xw117 : Cond.selects RX7 yX7_putBackInserts yX7_putBackInserts ∈ xT := xT_in (by decide +kernel) rfl
set_option maxRecDepth 20000 in
theorem xw118 : Cond.code yX0_mayBreakBefore cX0_mayBreakBefore 3 (some .boolean) ∈ xT := xT_in (by decide +kernel) rfl
set_option maxRecDepth 20000 in
theorem xw119 : Cond.methodLink RX7 233 yX0_mayBreakBefore ∈ xT := xT_in (by decide +kernel) rfl
set_option maxRecDepth 20000 in
theorem xw120 : Cond.instanceMethod yX0_mayBreakBefore ∈ xT := xT_in (by decide +kernel) rfl
set_option maxRecDepth 20000 in
theorem xw121 : Cond.selects RX0 yX0_mayBreakBefore yX0_mayBreakBefore ∈ xT := xT_in (by decide +kernel) rfl
set_option maxRecDepth 20000 in
theorem xw122 : Cond.code yX2_price cX2_price 1 (some .int) ∈ xT := xT_in (by decide +kernel) rfl
set_option maxRecDepth 20000 in
theorem xw123 : Cond.methodLink RX7 237 yX2_price ∈ xT := xT_in (by decide +kernel) rfl
set_option maxRecDepth 20000 in
theorem xw124 : Cond.instanceMethod yX2_price ∈ xT := xT_in (by decide +kernel) rfl
set_option maxRecDepth 20000 in
theorem xw125 : Cond.selects RX2 yX2_price yX2_price ∈ xT := xT_in (by decide +kernel) rfl
set_option maxRecDepth 20000 in
theorem xw126 : Cond.code yX0_endsAt cX0_endsAt 4 (some .boolean) ∈ xT := xT_in (by decide +kernel) rfl
set_option maxRecDepth 20000 in
theorem xw127 : Cond.methodLink RX7 240 yX0_endsAt ∈ xT := xT_in (by decide +kernel) rfl
set_option maxRecDepth 20000 in
theorem xw128 : Cond.instanceMethod yX0_endsAt ∈ xT := xT_in (by decide +kernel) rfl
set_option maxRecDepth 20000 in
theorem xw129 : Cond.selects RX0 yX0_endsAt yX0_endsAt ∈ xT := xT_in (by decide +kernel) rfl
set_option maxRecDepth 20000 in
theorem xw130 : Cond.code yX7_endPage cX7_endPage 2 none ∈ xT := xT_in (by decide +kernel) rfl
set_option maxRecDepth 20000 in
theorem xw131 : Cond.methodLink RX7 244 yX7_endPage ∈ xT := xT_in (by decide +kernel) rfl
set_option maxRecDepth 20000 in
theorem xw132 : Cond.instanceMethod yX7_endPage ∈ xT := xT_in (by decide +kernel) rfl
set_option maxRecDepth 20000 in
theorem xw133 : Cond.selects RX7 yX7_endPage yX7_endPage ∈ xT := xT_in (by decide +kernel) rfl
set_option maxRecDepth 20000 in
theorem xw134 : Cond.code yX0_put cX0_put 2 none ∈ xT := xT_in (by decide +kernel) rfl
set_option maxRecDepth 20000 in
theorem xw135 : Cond.methodLink RX7 251 yX0_put ∈ xT := xT_in (by decide +kernel) rfl
set_option maxRecDepth 20000 in
theorem xw136 : Cond.instanceMethod yX0_put ∈ xT := xT_in (by decide +kernel) rfl
set_option maxRecDepth 20000 in
theorem xw137 : Cond.selects RX0 yX0_put yX0_put ∈ xT := xT_in (by decide +kernel) rfl
set_option maxRecDepth 20000 in
theorem xw138 : Cond.code yX7_takeStep cX7_takeStep 3 (some .boolean) ∈ xT := xT_in (by decide +kernel) rfl
set_option maxRecDepth 20000 in
theorem xw139 : Cond.methodLink RX7 129 yX7_takeStep ∈ xT := xT_in (by decide +kernel) rfl
set_option maxRecDepth 20000 in
theorem xw140 : Cond.instanceMethod yX7_takeStep ∈ xT := xT_in (by decide +kernel) rfl
set_option maxRecDepth 20000 in
theorem xw141 : Cond.selects RX7 yX7_takeStep yX7_takeStep ∈ xT := xT_in (by decide +kernel) rfl
set_option maxRecDepth 20000 in
theorem xw142 : Cond.code yX5_entry cX5_entry 2 (some .long) ∈ xT := xT_in (by decide +kernel) rfl
set_option maxRecDepth 20000 in
theorem xw143 : Cond.methodLink RX7 163 yX5_entry ∈ xT := xT_in (by decide +kernel) rfl
set_option maxRecDepth 20000 in
theorem xw144 : Cond.instanceMethod yX5_entry ∈ xT := xT_in (by decide +kernel) rfl
set_option maxRecDepth 20000 in
theorem xw145 : Cond.selects RX5 yX5_entry yX5_entry ∈ xT := xT_in (by decide +kernel) rfl
set_option maxRecDepth 20000 in
theorem xw146 : Cond.methodLink RX7 196 yX7_badnessOf ∈ xT := xT_in (by decide +kernel) rfl
set_option maxRecDepth 20000 in
theorem xw147 : Cond.code yX2_tallyOnPage cX2_tallyOnPage 2 none ∈ xT := xT_in (by decide +kernel) rfl
set_option maxRecDepth 20000 in
theorem xw148 : Cond.methodLink RX7 213 yX2_tallyOnPage ∈ xT := xT_in (by decide +kernel) rfl
set_option maxRecDepth 20000 in
theorem xw149 : Cond.instanceMethod yX2_tallyOnPage ∈ xT := xT_in (by decide +kernel) rfl
set_option maxRecDepth 20000 in
theorem xw150 : Cond.selects RX2 yX2_tallyOnPage yX2_tallyOnPage ∈ xT := xT_in (by decide +kernel) rfl
set_option maxRecDepth 20000 in
theorem xw151 : Cond.code yX2_startTally cX2_startTally 1 none ∈ xT := xT_in (by decide +kernel) rfl
set_option maxRecDepth 20000 in
theorem xw152 : Cond.methodLink RX7 200 yX2_startTally ∈ xT := xT_in (by decide +kernel) rfl
set_option maxRecDepth 20000 in
theorem xw153 : Cond.instanceMethod yX2_startTally ∈ xT := xT_in (by decide +kernel) rfl
set_option maxRecDepth 20000 in
theorem xw154 : Cond.selects RX2 yX2_startTally yX2_startTally ∈ xT := xT_in (by decide +kernel) rfl
set_option maxRecDepth 20000 in
theorem xw155 : Cond.code yX7_tallyPages cX7_tallyPages 5 none ∈ xT := xT_in (by decide +kernel) rfl
set_option maxRecDepth 20000 in
theorem xw156 : Cond.methodLink RX7 203 yX7_tallyPages ∈ xT := xT_in (by decide +kernel) rfl
set_option maxRecDepth 20000 in
theorem xw157 : Cond.instanceMethod yX7_tallyPages ∈ xT := xT_in (by decide +kernel) rfl
set_option maxRecDepth 20000 in
theorem xw158 : Cond.selects RX7 yX7_tallyPages yX7_tallyPages ∈ xT := xT_in (by decide +kernel) rfl
set_option maxRecDepth 20000 in
theorem xw159 : Cond.code yX2_tallyIsRight cX2_tallyIsRight 1 (some .boolean) ∈ xT := xT_in (by decide +kernel) rfl
set_option maxRecDepth 20000 in
theorem xw160 : Cond.methodLink RX7 210 yX2_tallyIsRight ∈ xT := xT_in (by decide +kernel) rfl
set_option maxRecDepth 20000 in
theorem xw161 : Cond.instanceMethod yX2_tallyIsRight ∈ xT := xT_in (by decide +kernel) rfl
set_option maxRecDepth 20000 in
theorem xw162 : Cond.selects RX2 yX2_tallyIsRight yX2_tallyIsRight ∈ xT := xT_in (by decide +kernel) rfl
set_option maxRecDepth 20000 in
theorem xw163 : Cond.methodLink RX8 1 objectInit ∈ xT := xT_in (by decide +kernel) rfl
set_option maxRecDepth 20000 in
theorem xw164 : Cond.code yX8_begin cX8_begin 2 none ∈ xT := xT_in (by decide +kernel) rfl
set_option maxRecDepth 20000 in
theorem xw165 : Cond.initialized RX8 ∈ xT := xT_in (by decide +kernel) rfl
set_option maxRecDepth 20000 in
theorem xw166 : Cond.methodLink RX8 97 yX8_begin ∈ xT := xT_in (by decide +kernel) rfl
set_option maxRecDepth 20000 in
theorem xw167 : Cond.instanceMethod yX8_begin ∈ xT := xT_in (by decide +kernel) rfl
set_option maxRecDepth 20000 in
theorem xw168 : Cond.selects RX8 yX8_begin yX8_begin ∈ xT := xT_in (by decide +kernel) rfl
set_option maxRecDepth 20000 in
theorem xw169 : Cond.code yX8_in cX8_in 6 (some .boolean) ∈ xT := xT_in (by decide +kernel) rfl
set_option maxRecDepth 20000 in
theorem xw170 : Cond.methodLink RX8 105 yX8_in ∈ xT := xT_in (by decide +kernel) rfl
set_option maxRecDepth 20000 in
theorem xw171 : Cond.static yX8_in ∈ xT := xT_in (by decide +kernel) rfl
set_option maxRecDepth 20000 in
theorem xw172 : Cond.code yX8_add cX8_add 6 (some .int) ∈ xT := xT_in (by decide +kernel) rfl
set_option maxRecDepth 20000 in
theorem xw173 : Cond.methodLink RX8 133 yX8_add ∈ xT := xT_in (by decide +kernel) rfl
set_option maxRecDepth 20000 in
theorem xw174 : Cond.instanceMethod yX8_add ∈ xT := xT_in (by decide +kernel) rfl
set_option maxRecDepth 20000 in
theorem xw175 : Cond.selects RX8 yX8_add yX8_add ∈ xT := xT_in (by decide +kernel) rfl
set_option maxRecDepth 20000 in
theorem xw176 : Cond.code yX8_bad cX8_bad 6 (some .long) ∈ xT := xT_in (by decide +kernel) rfl
set_option maxRecDepth 20000 in
theorem xw177 : Cond.methodLink RX8 174 yX8_bad ∈ xT := xT_in (by decide +kernel) rfl
set_option maxRecDepth 20000 in
theorem xw178 : Cond.static yX8_bad ∈ xT := xT_in (by decide +kernel) rfl
set_option maxRecDepth 20000 in
theorem xw179 : Cond.code yX8_costAt cX8_costAt 7 (some .long) ∈ xT := xT_in (by decide +kernel) rfl
set_option maxRecDepth 20000 in
theorem xw180 : Cond.methodLink RX8 180 yX8_costAt ∈ xT := xT_in (by decide +kernel) rfl
set_option maxRecDepth 20000 in
theorem xw181 : Cond.instanceMethod yX8_costAt ∈ xT := xT_in (by decide +kernel) rfl
set_option maxRecDepth 20000 in
theorem xw182 : Cond.selects RX8 yX8_costAt yX8_costAt ∈ xT := xT_in (by decide +kernel) rfl
set_option maxRecDepth 20000 in
theorem xw183 : Cond.code yX8_less cX8_less 4 (some .long) ∈ xT := xT_in (by decide +kernel) rfl
set_option maxRecDepth 20000 in
theorem xw184 : Cond.methodLink RX8 202 yX8_less ∈ xT := xT_in (by decide +kernel) rfl
set_option maxRecDepth 20000 in
theorem xw185 : Cond.static yX8_less ∈ xT := xT_in (by decide +kernel) rfl
set_option maxRecDepth 20000 in
theorem xw186 : Cond.code yX8_putInsert cX8_putInsert 14 none ∈ xT := xT_in (by decide +kernel) rfl
set_option maxRecDepth 20000 in
theorem xw187 : Cond.methodLink RX8 193 yX8_putInsert ∈ xT := xT_in (by decide +kernel) rfl
set_option maxRecDepth 20000 in
theorem xw188 : Cond.instanceMethod yX8_putInsert ∈ xT := xT_in (by decide +kernel) rfl
set_option maxRecDepth 20000 in
theorem xw189 : Cond.selects RX8 yX8_putInsert yX8_putInsert ∈ xT := xT_in (by decide +kernel) rfl
set_option maxRecDepth 20000 in
theorem xw190 : Cond.code yX8_takeFromLine cX8_takeFromLine 2 none ∈ xT := xT_in (by decide +kernel) rfl
set_option maxRecDepth 20000 in
theorem xw191 : Cond.methodLink RX8 197 yX8_takeFromLine ∈ xT := xT_in (by decide +kernel) rfl
set_option maxRecDepth 20000 in
theorem xw192 : Cond.instanceMethod yX8_takeFromLine ∈ xT := xT_in (by decide +kernel) rfl
set_option maxRecDepth 20000 in
theorem xw193 : Cond.selects RX8 yX8_takeFromLine yX8_takeFromLine ∈ xT := xT_in (by decide +kernel) rfl
set_option maxRecDepth 20000 in
theorem xw194 : Cond.code yX8_isPlace cX8_isPlace 3 (some .boolean) ∈ xT := xT_in (by decide +kernel) rfl
set_option maxRecDepth 20000 in
theorem xw195 : Cond.methodLink RX8 211 yX8_isPlace ∈ xT := xT_in (by decide +kernel) rfl
set_option maxRecDepth 20000 in
theorem xw196 : Cond.instanceMethod yX8_isPlace ∈ xT := xT_in (by decide +kernel) rfl
set_option maxRecDepth 20000 in
theorem xw197 : Cond.selects RX8 yX8_isPlace yX8_isPlace ∈ xT := xT_in (by decide +kernel) rfl
set_option maxRecDepth 20000 in
theorem xw198 : Cond.code yX8_ends cX8_ends 6 (some .boolean) ∈ xT := xT_in (by decide +kernel) rfl
set_option maxRecDepth 20000 in
theorem xw199 : Cond.methodLink RX8 215 yX8_ends ∈ xT := xT_in (by decide +kernel) rfl
set_option maxRecDepth 20000 in
theorem xw200 : Cond.instanceMethod yX8_ends ∈ xT := xT_in (by decide +kernel) rfl
set_option maxRecDepth 20000 in
theorem xw201 : Cond.selects RX8 yX8_ends yX8_ends ∈ xT := xT_in (by decide +kernel) rfl
set_option maxRecDepth 20000 in
theorem xw202 : Cond.code yX8_end cX8_end 6 none ∈ xT := xT_in (by decide +kernel) rfl
set_option maxRecDepth 20000 in
theorem xw203 : Cond.methodLink RX8 218 yX8_end ∈ xT := xT_in (by decide +kernel) rfl
set_option maxRecDepth 20000 in
theorem xw204 : Cond.instanceMethod yX8_end ∈ xT := xT_in (by decide +kernel) rfl
set_option maxRecDepth 20000 in
theorem xw205 : Cond.selects RX8 yX8_end yX8_end ∈ xT := xT_in (by decide +kernel) rfl
set_option maxRecDepth 20000 in
theorem xw206 : Cond.code yX8_put cX8_put 2 none ∈ xT := xT_in (by decide +kernel) rfl
set_option maxRecDepth 20000 in
theorem xw207 : Cond.methodLink RX8 221 yX8_put ∈ xT := xT_in (by decide +kernel) rfl
set_option maxRecDepth 20000 in
theorem xw208 : Cond.instanceMethod yX8_put ∈ xT := xT_in (by decide +kernel) rfl
set_option maxRecDepth 20000 in
theorem xw209 : Cond.selects RX8 yX8_put yX8_put ∈ xT := xT_in (by decide +kernel) rfl
set_option maxRecDepth 20000 in
theorem xw210 : Cond.code yX8_isPage cX8_isPage 2 (some .boolean) ∈ xT := xT_in (by decide +kernel) rfl
set_option maxRecDepth 20000 in
theorem xw211 : Cond.methodLink RX8 224 yX8_isPage ∈ xT := xT_in (by decide +kernel) rfl
set_option maxRecDepth 20000 in
theorem xw212 : Cond.instanceMethod yX8_isPage ∈ xT := xT_in (by decide +kernel) rfl
set_option maxRecDepth 20000 in
theorem xw213 : Cond.selects RX8 yX8_isPage yX8_isPage ∈ xT := xT_in (by decide +kernel) rfl
set_option maxRecDepth 20000 in
theorem xw214 : Cond.code yX8_sizeOf cX8_sizeOf 2 (some .int) ∈ xT := xT_in (by decide +kernel) rfl
set_option maxRecDepth 20000 in
theorem xw215 : Cond.methodLink RX8 228 yX8_sizeOf ∈ xT := xT_in (by decide +kernel) rfl
set_option maxRecDepth 20000 in
theorem xw216 : Cond.instanceMethod yX8_sizeOf ∈ xT := xT_in (by decide +kernel) rfl
set_option maxRecDepth 20000 in
theorem xw217 : Cond.selects RX8 yX8_sizeOf yX8_sizeOf ∈ xT := xT_in (by decide +kernel) rfl
