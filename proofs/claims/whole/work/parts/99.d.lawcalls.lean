/-! THE LAW: its calls keep their contracts -/
set_option maxRecDepth 20000 in
theorem xv0 : Cond.code yX7_init cX7_init 1 none ∈ xT := xT_in (by decide +kernel) rfl
set_option maxRecDepth 20000 in
theorem xv1 : Cond.initialized RX7 ∈ xT := xT_in (by decide +kernel) rfl
set_option maxRecDepth 20000 in
theorem xv2 : Cond.methodLink RL 15 yX7_init ∈ xT := xT_in (by decide +kernel) rfl
set_option maxRecDepth 20000 in
theorem xv3 : Cond.instanceMethod yX7_init ∈ xT := xT_in (by decide +kernel) rfl
set_option maxRecDepth 20000 in
theorem xv4 : Cond.code yX8_init cX8_init 1 none ∈ xT := xT_in (by decide +kernel) rfl
set_option maxRecDepth 20000 in
theorem xv5 : Cond.initialized RX8 ∈ xT := xT_in (by decide +kernel) rfl
set_option maxRecDepth 20000 in
theorem xv6 : Cond.methodLink RL 18 yX8_init ∈ xT := xT_in (by decide +kernel) rfl
set_option maxRecDepth 20000 in
theorem xv7 : Cond.instanceMethod yX8_init ∈ xT := xT_in (by decide +kernel) rfl
set_option maxRecDepth 20000 in
theorem xv8 : Cond.code yX7_set cX7_set 4 (some .int) ∈ xT := xT_in (by decide +kernel) rfl
set_option maxRecDepth 20000 in
theorem xv9 : Cond.methodLink RL 19 yX7_set ∈ xT := xT_in (by decide +kernel) rfl
set_option maxRecDepth 20000 in
theorem xv10 : Cond.instanceMethod yX7_set ∈ xT := xT_in (by decide +kernel) rfl
set_option maxRecDepth 20000 in
theorem xv11 : Cond.selects RX7 yX7_set yX7_set ∈ xT := xT_in (by decide +kernel) rfl
set_option maxRecDepth 20000 in
theorem xv12 : Cond.code yX8_set cX8_set 4 (some .int) ∈ xT := xT_in (by decide +kernel) rfl
set_option maxRecDepth 20000 in
theorem xv13 : Cond.methodLink RL 23 yX8_set ∈ xT := xT_in (by decide +kernel) rfl
set_option maxRecDepth 20000 in
theorem xv14 : Cond.instanceMethod yX8_set ∈ xT := xT_in (by decide +kernel) rfl
set_option maxRecDepth 20000 in
theorem xv15 : Cond.selects RX8 yX8_set yX8_set ∈ xT := xT_in (by decide +kernel) rfl
set_option maxRecDepth 20000 in
theorem xv16 : Cond.code yX7_cls cX7_cls 6 (some .int) ∈ xT := xT_in (by decide +kernel) rfl
set_option maxRecDepth 20000 in
theorem xv17 : Cond.methodLink RL 24 yX7_cls ∈ xT := xT_in (by decide +kernel) rfl
set_option maxRecDepth 20000 in
theorem xv18 : Cond.instanceMethod yX7_cls ∈ xT := xT_in (by decide +kernel) rfl
set_option maxRecDepth 20000 in
theorem xv19 : Cond.selects RX7 yX7_cls yX7_cls ∈ xT := xT_in (by decide +kernel) rfl
set_option maxRecDepth 20000 in
theorem xv20 : Cond.code yX8_cls cX8_cls 5 (some .int) ∈ xT := xT_in (by decide +kernel) rfl
set_option maxRecDepth 20000 in
theorem xv21 : Cond.methodLink RL 28 yX8_cls ∈ xT := xT_in (by decide +kernel) rfl
set_option maxRecDepth 20000 in
theorem xv22 : Cond.instanceMethod yX8_cls ∈ xT := xT_in (by decide +kernel) rfl
set_option maxRecDepth 20000 in
theorem xv23 : Cond.selects RX8 yX8_cls yX8_cls ∈ xT := xT_in (by decide +kernel) rfl
set_option maxRecDepth 20000 in
theorem xv24 : Cond.code yX7_box cX7_box 4 (some .int) ∈ xT := xT_in (by decide +kernel) rfl
set_option maxRecDepth 20000 in
theorem xv25 : Cond.methodLink RL 29 yX7_box ∈ xT := xT_in (by decide +kernel) rfl
set_option maxRecDepth 20000 in
theorem xv26 : Cond.instanceMethod yX7_box ∈ xT := xT_in (by decide +kernel) rfl
set_option maxRecDepth 20000 in
theorem xv27 : Cond.selects RX7 yX7_box yX7_box ∈ xT := xT_in (by decide +kernel) rfl
set_option maxRecDepth 20000 in
theorem xv28 : Cond.code yX8_box cX8_box 3 (some .int) ∈ xT := xT_in (by decide +kernel) rfl
set_option maxRecDepth 20000 in
theorem xv29 : Cond.methodLink RL 32 yX8_box ∈ xT := xT_in (by decide +kernel) rfl
set_option maxRecDepth 20000 in
theorem xv30 : Cond.instanceMethod yX8_box ∈ xT := xT_in (by decide +kernel) rfl
set_option maxRecDepth 20000 in
theorem xv31 : Cond.selects RX8 yX8_box yX8_box ∈ xT := xT_in (by decide +kernel) rfl
set_option maxRecDepth 20000 in
theorem xv32 : Cond.code yX7_glue cX7_glue 6 (some .int) ∈ xT := xT_in (by decide +kernel) rfl
set_option maxRecDepth 20000 in
theorem xv33 : Cond.methodLink RL 33 yX7_glue ∈ xT := xT_in (by decide +kernel) rfl
set_option maxRecDepth 20000 in
theorem xv34 : Cond.instanceMethod yX7_glue ∈ xT := xT_in (by decide +kernel) rfl
set_option maxRecDepth 20000 in
theorem xv35 : Cond.selects RX7 yX7_glue yX7_glue ∈ xT := xT_in (by decide +kernel) rfl
set_option maxRecDepth 20000 in
theorem xv36 : Cond.code yX8_glue cX8_glue 5 (some .int) ∈ xT := xT_in (by decide +kernel) rfl
set_option maxRecDepth 20000 in
theorem xv37 : Cond.methodLink RL 36 yX8_glue ∈ xT := xT_in (by decide +kernel) rfl
set_option maxRecDepth 20000 in
theorem xv38 : Cond.instanceMethod yX8_glue ∈ xT := xT_in (by decide +kernel) rfl
set_option maxRecDepth 20000 in
theorem xv39 : Cond.selects RX8 yX8_glue yX8_glue ∈ xT := xT_in (by decide +kernel) rfl
set_option maxRecDepth 20000 in
theorem xv40 : Cond.code yX7_kern cX7_kern 2 (some .int) ∈ xT := xT_in (by decide +kernel) rfl
set_option maxRecDepth 20000 in
theorem xv41 : Cond.methodLink RL 37 yX7_kern ∈ xT := xT_in (by decide +kernel) rfl
set_option maxRecDepth 20000 in
theorem xv42 : Cond.instanceMethod yX7_kern ∈ xT := xT_in (by decide +kernel) rfl
set_option maxRecDepth 20000 in
theorem xv43 : Cond.selects RX7 yX7_kern yX7_kern ∈ xT := xT_in (by decide +kernel) rfl
set_option maxRecDepth 20000 in
theorem xv44 : Cond.code yX8_kern cX8_kern 2 (some .int) ∈ xT := xT_in (by decide +kernel) rfl
set_option maxRecDepth 20000 in
theorem xv45 : Cond.methodLink RL 41 yX8_kern ∈ xT := xT_in (by decide +kernel) rfl
set_option maxRecDepth 20000 in
theorem xv46 : Cond.instanceMethod yX8_kern ∈ xT := xT_in (by decide +kernel) rfl
set_option maxRecDepth 20000 in
theorem xv47 : Cond.selects RX8 yX8_kern yX8_kern ∈ xT := xT_in (by decide +kernel) rfl
set_option maxRecDepth 20000 in
theorem xv48 : Cond.code yX7_penalty cX7_penalty 2 (some .int) ∈ xT := xT_in (by decide +kernel) rfl
set_option maxRecDepth 20000 in
theorem xv49 : Cond.methodLink RL 42 yX7_penalty ∈ xT := xT_in (by decide +kernel) rfl
set_option maxRecDepth 20000 in
theorem xv50 : Cond.instanceMethod yX7_penalty ∈ xT := xT_in (by decide +kernel) rfl
set_option maxRecDepth 20000 in
theorem xv51 : Cond.selects RX7 yX7_penalty yX7_penalty ∈ xT := xT_in (by decide +kernel) rfl
set_option maxRecDepth 20000 in
theorem xv52 : Cond.code yX8_penalty cX8_penalty 2 (some .int) ∈ xT := xT_in (by decide +kernel) rfl
set_option maxRecDepth 20000 in
theorem xv53 : Cond.methodLink RL 45 yX8_penalty ∈ xT := xT_in (by decide +kernel) rfl
set_option maxRecDepth 20000 in
theorem xv54 : Cond.instanceMethod yX8_penalty ∈ xT := xT_in (by decide +kernel) rfl
set_option maxRecDepth 20000 in
theorem xv55 : Cond.selects RX8 yX8_penalty yX8_penalty ∈ xT := xT_in (by decide +kernel) rfl
set_option maxRecDepth 20000 in
theorem xv56 : Cond.code yX7_insert cX7_insert 5 (some .int) ∈ xT := xT_in (by decide +kernel) rfl
set_option maxRecDepth 20000 in
theorem xv57 : Cond.methodLink RL 46 yX7_insert ∈ xT := xT_in (by decide +kernel) rfl
set_option maxRecDepth 20000 in
theorem xv58 : Cond.instanceMethod yX7_insert ∈ xT := xT_in (by decide +kernel) rfl
set_option maxRecDepth 20000 in
theorem xv59 : Cond.selects RX7 yX7_insert yX7_insert ∈ xT := xT_in (by decide +kernel) rfl
set_option maxRecDepth 20000 in
theorem xv60 : Cond.code yX8_insert cX8_insert 4 (some .int) ∈ xT := xT_in (by decide +kernel) rfl
set_option maxRecDepth 20000 in
theorem xv61 : Cond.methodLink RL 50 yX8_insert ∈ xT := xT_in (by decide +kernel) rfl
set_option maxRecDepth 20000 in
theorem xv62 : Cond.instanceMethod yX8_insert ∈ xT := xT_in (by decide +kernel) rfl
set_option maxRecDepth 20000 in
theorem xv63 : Cond.selects RX8 yX8_insert yX8_insert ∈ xT := xT_in (by decide +kernel) rfl
set_option maxRecDepth 20000 in
theorem xv64 : Cond.code yX7_mark cX7_mark 2 (some .int) ∈ xT := xT_in (by decide +kernel) rfl
set_option maxRecDepth 20000 in
theorem xv65 : Cond.methodLink RL 51 yX7_mark ∈ xT := xT_in (by decide +kernel) rfl
set_option maxRecDepth 20000 in
theorem xv66 : Cond.instanceMethod yX7_mark ∈ xT := xT_in (by decide +kernel) rfl
set_option maxRecDepth 20000 in
theorem xv67 : Cond.selects RX7 yX7_mark yX7_mark ∈ xT := xT_in (by decide +kernel) rfl
set_option maxRecDepth 20000 in
theorem xv68 : Cond.code yX8_mark cX8_mark 2 (some .int) ∈ xT := xT_in (by decide +kernel) rfl
set_option maxRecDepth 20000 in
theorem xv69 : Cond.methodLink RL 54 yX8_mark ∈ xT := xT_in (by decide +kernel) rfl
set_option maxRecDepth 20000 in
theorem xv70 : Cond.instanceMethod yX8_mark ∈ xT := xT_in (by decide +kernel) rfl
set_option maxRecDepth 20000 in
theorem xv71 : Cond.selects RX8 yX8_mark yX8_mark ∈ xT := xT_in (by decide +kernel) rfl
set_option maxRecDepth 20000 in
theorem xv72 : Cond.code yX7_run cX7_run 4 (some .int) ∈ xT := xT_in (by decide +kernel) rfl
set_option maxRecDepth 20000 in
theorem xv73 : Cond.methodLink RL 55 yX7_run ∈ xT := xT_in (by decide +kernel) rfl
set_option maxRecDepth 20000 in
theorem xv74 : Cond.instanceMethod yX7_run ∈ xT := xT_in (by decide +kernel) rfl
set_option maxRecDepth 20000 in
theorem xv75 : Cond.selects RX7 yX7_run yX7_run ∈ xT := xT_in (by decide +kernel) rfl
set_option maxRecDepth 20000 in
theorem xv76 : Cond.code yX8_run cX8_run 4 (some .int) ∈ xT := xT_in (by decide +kernel) rfl
set_option maxRecDepth 20000 in
theorem xv77 : Cond.methodLink RL 59 yX8_run ∈ xT := xT_in (by decide +kernel) rfl
set_option maxRecDepth 20000 in
theorem xv78 : Cond.instanceMethod yX8_run ∈ xT := xT_in (by decide +kernel) rfl
set_option maxRecDepth 20000 in
theorem xv79 : Cond.selects RX8 yX8_run yX8_run ∈ xT := xT_in (by decide +kernel) rfl
set_option maxRecDepth 20000 in
theorem xv80 : Cond.code yX7_at cX7_at 4 (some .int) ∈ xT := xT_in (by decide +kernel) rfl
set_option maxRecDepth 20000 in
theorem xv81 : Cond.methodLink RL 60 yX7_at ∈ xT := xT_in (by decide +kernel) rfl
set_option maxRecDepth 20000 in
theorem xv82 : Cond.instanceMethod yX7_at ∈ xT := xT_in (by decide +kernel) rfl
set_option maxRecDepth 20000 in
theorem xv83 : Cond.selects RX7 yX7_at yX7_at ∈ xT := xT_in (by decide +kernel) rfl
set_option maxRecDepth 20000 in
theorem xv84 : Cond.code yX8_at cX8_at 3 (some .int) ∈ xT := xT_in (by decide +kernel) rfl
set_option maxRecDepth 20000 in
theorem xv85 : Cond.methodLink RL 63 yX8_at ∈ xT := xT_in (by decide +kernel) rfl
set_option maxRecDepth 20000 in
theorem xv86 : Cond.instanceMethod yX8_at ∈ xT := xT_in (by decide +kernel) rfl
set_option maxRecDepth 20000 in
theorem xv87 : Cond.selects RX8 yX8_at yX8_at ∈ xT := xT_in (by decide +kernel) rfl
set_option maxRecDepth 20000 in
theorem xv88 : Cond.code yX7_part cX7_part 4 (some .int) ∈ xT := xT_in (by decide +kernel) rfl
set_option maxRecDepth 20000 in
theorem xv89 : Cond.methodLink RL 64 yX7_part ∈ xT := xT_in (by decide +kernel) rfl
set_option maxRecDepth 20000 in
theorem xv90 : Cond.instanceMethod yX7_part ∈ xT := xT_in (by decide +kernel) rfl
set_option maxRecDepth 20000 in
theorem xv91 : Cond.selects RX7 yX7_part yX7_part ∈ xT := xT_in (by decide +kernel) rfl
set_option maxRecDepth 20000 in
theorem xv92 : Cond.code yX8_part cX8_part 3 (some .int) ∈ xT := xT_in (by decide +kernel) rfl
set_option maxRecDepth 20000 in
theorem xv93 : Cond.methodLink RL 67 yX8_part ∈ xT := xT_in (by decide +kernel) rfl
set_option maxRecDepth 20000 in
theorem xv94 : Cond.instanceMethod yX8_part ∈ xT := xT_in (by decide +kernel) rfl
set_option maxRecDepth 20000 in
theorem xv95 : Cond.selects RX8 yX8_part yX8_part ∈ xT := xT_in (by decide +kernel) rfl
set_option maxRecDepth 20000 in
theorem xv96 : Cond.code yX7_told cX7_told 4 (some .long) ∈ xT := xT_in (by decide +kernel) rfl
set_option maxRecDepth 20000 in
theorem xv97 : Cond.methodLink RL 68 yX7_told ∈ xT := xT_in (by decide +kernel) rfl
set_option maxRecDepth 20000 in
theorem xv98 : Cond.instanceMethod yX7_told ∈ xT := xT_in (by decide +kernel) rfl
set_option maxRecDepth 20000 in
theorem xv99 : Cond.selects RX7 yX7_told yX7_told ∈ xT := xT_in (by decide +kernel) rfl
set_option maxRecDepth 20000 in
theorem xv100 : Cond.code yX8_told cX8_told 3 (some .long) ∈ xT := xT_in (by decide +kernel) rfl
set_option maxRecDepth 20000 in
theorem xv101 : Cond.methodLink RL 72 yX8_told ∈ xT := xT_in (by decide +kernel) rfl
set_option maxRecDepth 20000 in
theorem xv102 : Cond.instanceMethod yX8_told ∈ xT := xT_in (by decide +kernel) rfl
set_option maxRecDepth 20000 in
theorem xv103 : Cond.selects RX8 yX8_told yX8_told ∈ xT := xT_in (by decide +kernel) rfl
set_option maxRecDepth 20000 in
theorem xv104 : Cond.code yX8_marked cX8_marked 3 (some .int) ∈ xT := xT_in (by decide +kernel) rfl
set_option maxRecDepth 20000 in
theorem xv105 : Cond.methodLink RL 78 yX8_marked ∈ xT := xT_in (by decide +kernel) rfl
set_option maxRecDepth 20000 in
theorem xv106 : Cond.instanceMethod yX8_marked ∈ xT := xT_in (by decide +kernel) rfl
set_option maxRecDepth 20000 in
theorem xv107 : Cond.selects RX8 yX8_marked yX8_marked ∈ xT := xT_in (by decide +kernel) rfl
set_option maxRecDepth 20000 in
theorem xv108 : Cond.code yX8_thrown cX8_thrown 1 (some .int) ∈ xT := xT_in (by decide +kernel) rfl
set_option maxRecDepth 20000 in
theorem xv109 : Cond.methodLink RL 79 yX8_thrown ∈ xT := xT_in (by decide +kernel) rfl
set_option maxRecDepth 20000 in
theorem xv110 : Cond.instanceMethod yX8_thrown ∈ xT := xT_in (by decide +kernel) rfl
set_option maxRecDepth 20000 in
theorem xv111 : Cond.selects RX8 yX8_thrown yX8_thrown ∈ xT := xT_in (by decide +kernel) rfl
set_option maxRecDepth 20000 in
theorem xv112 : Cond.code yX7_now cX7_now 3 (some .long) ∈ xT := xT_in (by decide +kernel) rfl
set_option maxRecDepth 20000 in
theorem xv113 : Cond.methodLink RL 82 yX7_now ∈ xT := xT_in (by decide +kernel) rfl
set_option maxRecDepth 20000 in
theorem xv114 : Cond.instanceMethod yX7_now ∈ xT := xT_in (by decide +kernel) rfl
set_option maxRecDepth 20000 in
theorem xv115 : Cond.selects RX7 yX7_now yX7_now ∈ xT := xT_in (by decide +kernel) rfl
set_option maxRecDepth 20000 in
theorem xv116 : Cond.code yX8_now cX8_now 3 (some .long) ∈ xT := xT_in (by decide +kernel) rfl
set_option maxRecDepth 20000 in
theorem xv117 : Cond.methodLink RL 86 yX8_now ∈ xT := xT_in (by decide +kernel) rfl
set_option maxRecDepth 20000 in
theorem xv118 : Cond.instanceMethod yX8_now ∈ xT := xT_in (by decide +kernel) rfl
set_option maxRecDepth 20000 in
theorem xv119 : Cond.selects RX8 yX8_now yX8_now ∈ xT := xT_in (by decide +kernel) rfl
set_option maxRecDepth 20000 in
theorem xv120 : Cond.code yX7_badness cX7_badness 3 (some .int) ∈ xT := xT_in (by decide +kernel) rfl
set_option maxRecDepth 20000 in
theorem xv121 : Cond.methodLink RL 87 yX7_badness ∈ xT := xT_in (by decide +kernel) rfl
set_option maxRecDepth 20000 in
theorem xv122 : Cond.instanceMethod yX7_badness ∈ xT := xT_in (by decide +kernel) rfl
set_option maxRecDepth 20000 in
theorem xv123 : Cond.selects RX7 yX7_badness yX7_badness ∈ xT := xT_in (by decide +kernel) rfl
set_option maxRecDepth 20000 in
theorem xv124 : Cond.code yX8_badness cX8_badness 3 (some .int) ∈ xT := xT_in (by decide +kernel) rfl
set_option maxRecDepth 20000 in
theorem xv125 : Cond.methodLink RL 90 yX8_badness ∈ xT := xT_in (by decide +kernel) rfl
set_option maxRecDepth 20000 in
theorem xv126 : Cond.instanceMethod yX8_badness ∈ xT := xT_in (by decide +kernel) rfl
set_option maxRecDepth 20000 in
theorem xv127 : Cond.selects RX8 yX8_badness yX8_badness ∈ xT := xT_in (by decide +kernel) rfl
set_option maxRecDepth 20000 in
theorem xv128 : Cond.code yX7_count cX7_count 2 (some .int) ∈ xT := xT_in (by decide +kernel) rfl
set_option maxRecDepth 20000 in
theorem xv129 : Cond.methodLink RL 91 yX7_count ∈ xT := xT_in (by decide +kernel) rfl
set_option maxRecDepth 20000 in
theorem xv130 : Cond.instanceMethod yX7_count ∈ xT := xT_in (by decide +kernel) rfl
set_option maxRecDepth 20000 in
theorem xv131 : Cond.selects RX7 yX7_count yX7_count ∈ xT := xT_in (by decide +kernel) rfl
set_option maxRecDepth 20000 in
theorem xv132 : Cond.code yX8_count cX8_count 2 (some .int) ∈ xT := xT_in (by decide +kernel) rfl
set_option maxRecDepth 20000 in
theorem xv133 : Cond.methodLink RL 94 yX8_count ∈ xT := xT_in (by decide +kernel) rfl
set_option maxRecDepth 20000 in
theorem xv134 : Cond.instanceMethod yX8_count ∈ xT := xT_in (by decide +kernel) rfl
set_option maxRecDepth 20000 in
theorem xv135 : Cond.selects RX8 yX8_count yX8_count ∈ xT := xT_in (by decide +kernel) rfl
set_option maxRecDepth 20000 in
theorem xv136 : Cond.code yX7_check cX7_check 3 (some .int) ∈ xT := xT_in (by decide +kernel) rfl
set_option maxRecDepth 20000 in
theorem xv137 : Cond.methodLink RL 95 yX7_check ∈ xT := xT_in (by decide +kernel) rfl
set_option maxRecDepth 20000 in
theorem xv138 : Cond.instanceMethod yX7_check ∈ xT := xT_in (by decide +kernel) rfl
set_option maxRecDepth 20000 in
theorem xv139 : Cond.selects RX7 yX7_check yX7_check ∈ xT := xT_in (by decide +kernel) rfl
set_option maxRecDepth 20000 in
theorem xv140 : Cond.code yX8_check cX8_check 1 (some .int) ∈ xT := xT_in (by decide +kernel) rfl
set_option maxRecDepth 20000 in
theorem xv141 : Cond.methodLink RL 98 yX8_check ∈ xT := xT_in (by decide +kernel) rfl
set_option maxRecDepth 20000 in
theorem xv142 : Cond.instanceMethod yX8_check ∈ xT := xT_in (by decide +kernel) rfl
set_option maxRecDepth 20000 in
theorem xv143 : Cond.selects RX8 yX8_check yX8_check ∈ xT := xT_in (by decide +kernel) rfl
set_option maxRecDepth 20000 in
theorem vL_law {l : Launch} {D : va_G} {cA ad : Nat → Nat} {B : Nat} (hmk : x_mono (emk B ad) ∧ x_CW l D cA ad B RL 11 386 (.invokestatic 73) 4 (emk B ad)) : xv_cal l D cA ad B RL 11 386 (cxL_law B ad) := by
  intro k kd n E hk
  have hm : (k, kd, n, E) ∈ caL_law B ad := x_look hk
  simp only [caL_law, List.mem_cons, List.not_mem_nil, or_false, Prod.mk.injEq] at hm
  rcases hm with ⟨rfl, rfl, rfl, rfl⟩ | ⟨rfl, rfl, rfl, rfl⟩ | ⟨rfl, rfl, rfl, rfl⟩ | ⟨rfl, rfl, rfl, rfl⟩ | ⟨rfl, rfl, rfl, rfl⟩ | ⟨rfl, rfl, rfl, rfl⟩ | ⟨rfl, rfl, rfl, rfl⟩ | ⟨rfl, rfl, rfl, rfl⟩ | ⟨rfl, rfl, rfl, rfl⟩ | ⟨rfl, rfl, rfl, rfl⟩ | ⟨rfl, rfl, rfl, rfl⟩ | ⟨rfl, rfl, rfl, rfl⟩ | ⟨rfl, rfl, rfl, rfl⟩ | ⟨rfl, rfl, rfl, rfl⟩ | ⟨rfl, rfl, rfl, rfl⟩ | ⟨rfl, rfl, rfl, rfl⟩ | ⟨rfl, rfl, rfl, rfl⟩ | ⟨rfl, rfl, rfl, rfl⟩ | ⟨rfl, rfl, rfl, rfl⟩ | ⟨rfl, rfl, rfl, rfl⟩ | ⟨rfl, rfl, rfl, rfl⟩ | ⟨rfl, rfl, rfl, rfl⟩ | ⟨rfl, rfl, rfl, rfl⟩ | ⟨rfl, rfl, rfl, rfl⟩ | ⟨rfl, rfl, rfl, rfl⟩ | ⟨rfl, rfl, rfl, rfl⟩ | ⟨rfl, rfl, rfl, rfl⟩ | ⟨rfl, rfl, rfl, rfl⟩ | ⟨rfl, rfl, rfl, rfl⟩ | ⟨rfl, rfl, rfl, rfl⟩ | ⟨rfl, rfl, rfl, rfl⟩ | ⟨rfl, rfl, rfl, rfl⟩ | ⟨rfl, rfl, rfl, rfl⟩ | ⟨rfl, rfl, rfl, rfl⟩ | ⟨rfl, rfl, rfl, rfl⟩ | ⟨rfl, rfl, rfl, rfl⟩ | ⟨rfl, rfl, rfl, rfl⟩
  · exact x_cwI mX7_init rfl xv2 xv3 xv1 xv0 ⟨by decide +kernel, by decide +kernel, by decide +kernel⟩ ⟨by decide, by decide⟩
  · exact x_cwI mX8_init rfl xv6 xv7 xv5 xv4 ⟨by decide +kernel, by decide +kernel, by decide +kernel⟩ ⟨by decide, by decide⟩
  · exact x_cwV (t := 7) mX7_set rfl (by decide) rfl xv9 xv10 xv11 xv1 xv8 ⟨by decide +kernel, by decide +kernel, by decide +kernel⟩ ⟨by decide, by decide⟩
  · exact x_cwV (t := 8) mX8_set rfl (by decide) rfl xv13 xv14 xv15 xv5 xv12 ⟨by decide +kernel, by decide +kernel, by decide +kernel⟩ ⟨by decide, by decide⟩
  · exact x_cwV (t := 7) mX7_cls rfl (by decide) rfl xv17 xv18 xv19 xv1 xv16 ⟨by decide +kernel, by decide +kernel, by decide +kernel⟩ ⟨by decide, by decide⟩
  · exact x_cwV (t := 8) mX8_cls rfl (by decide) rfl xv21 xv22 xv23 xv5 xv20 ⟨by decide +kernel, by decide +kernel, by decide +kernel⟩ ⟨by decide, by decide⟩
  · exact x_cwV (t := 7) mX7_box rfl (by decide) rfl xv25 xv26 xv27 xv1 xv24 ⟨by decide +kernel, by decide +kernel, by decide +kernel⟩ ⟨by decide, by decide⟩
  · exact x_cwV (t := 8) mX8_box rfl (by decide) rfl xv29 xv30 xv31 xv5 xv28 ⟨by decide +kernel, by decide +kernel, by decide +kernel⟩ ⟨by decide, by decide⟩
  · exact x_cwV (t := 7) mX7_glue rfl (by decide) rfl xv33 xv34 xv35 xv1 xv32 ⟨by decide +kernel, by decide +kernel, by decide +kernel⟩ ⟨by decide, by decide⟩
  · exact x_cwV (t := 8) mX8_glue rfl (by decide) rfl xv37 xv38 xv39 xv5 xv36 ⟨by decide +kernel, by decide +kernel, by decide +kernel⟩ ⟨by decide, by decide⟩
  · exact x_cwV (t := 7) mX7_kern rfl (by decide) rfl xv41 xv42 xv43 xv1 xv40 ⟨by decide +kernel, by decide +kernel, by decide +kernel⟩ ⟨by decide, by decide⟩
  · exact x_cwV (t := 8) mX8_kern rfl (by decide) rfl xv45 xv46 xv47 xv5 xv44 ⟨by decide +kernel, by decide +kernel, by decide +kernel⟩ ⟨by decide, by decide⟩
  · exact x_cwV (t := 7) mX7_penalty rfl (by decide) rfl xv49 xv50 xv51 xv1 xv48 ⟨by decide +kernel, by decide +kernel, by decide +kernel⟩ ⟨by decide, by decide⟩
  · exact x_cwV (t := 8) mX8_penalty rfl (by decide) rfl xv53 xv54 xv55 xv5 xv52 ⟨by decide +kernel, by decide +kernel, by decide +kernel⟩ ⟨by decide, by decide⟩
  · exact x_cwV (t := 7) mX7_insert rfl (by decide) rfl xv57 xv58 xv59 xv1 xv56 ⟨by decide +kernel, by decide +kernel, by decide +kernel⟩ ⟨by decide, by decide⟩
  · exact x_cwV (t := 8) mX8_insert rfl (by decide) rfl xv61 xv62 xv63 xv5 xv60 ⟨by decide +kernel, by decide +kernel, by decide +kernel⟩ ⟨by decide, by decide⟩
  · exact x_cwV (t := 7) mX7_mark rfl (by decide) rfl xv65 xv66 xv67 xv1 xv64 ⟨by decide +kernel, by decide +kernel, by decide +kernel⟩ ⟨by decide, by decide⟩
  · exact x_cwV (t := 8) mX8_mark rfl (by decide) rfl xv69 xv70 xv71 xv5 xv68 ⟨by decide +kernel, by decide +kernel, by decide +kernel⟩ ⟨by decide, by decide⟩
  · exact x_cwV (t := 7) mX7_run rfl (by decide) rfl xv73 xv74 xv75 xv1 xv72 ⟨by decide +kernel, by decide +kernel, by decide +kernel⟩ ⟨by decide, by decide⟩
  · exact x_cwV (t := 8) mX8_run rfl (by decide) rfl xv77 xv78 xv79 xv5 xv76 ⟨by decide +kernel, by decide +kernel, by decide +kernel⟩ ⟨by decide, by decide⟩
  · exact x_cwV (t := 7) mX7_at rfl (by decide) rfl xv81 xv82 xv83 xv1 xv80 ⟨by decide +kernel, by decide +kernel, by decide +kernel⟩ ⟨by decide, by decide⟩
  · exact x_cwV (t := 8) mX8_at rfl (by decide) rfl xv85 xv86 xv87 xv5 xv84 ⟨by decide +kernel, by decide +kernel, by decide +kernel⟩ ⟨by decide, by decide⟩
  · exact x_cwV (t := 7) mX7_part rfl (by decide) rfl xv89 xv90 xv91 xv1 xv88 ⟨by decide +kernel, by decide +kernel, by decide +kernel⟩ ⟨by decide, by decide⟩
  · exact x_cwV (t := 8) mX8_part rfl (by decide) rfl xv93 xv94 xv95 xv5 xv92 ⟨by decide +kernel, by decide +kernel, by decide +kernel⟩ ⟨by decide, by decide⟩
  · exact x_cwV (t := 7) mX7_told rfl (by decide) rfl xv97 xv98 xv99 xv1 xv96 ⟨by decide +kernel, by decide +kernel, by decide +kernel⟩ ⟨by decide, by decide⟩
  · exact x_cwV (t := 8) mX8_told rfl (by decide) rfl xv101 xv102 xv103 xv5 xv100 ⟨by decide +kernel, by decide +kernel, by decide +kernel⟩ ⟨by decide, by decide⟩
  · exact hmk
  · exact x_cwV (t := 8) mX8_marked rfl (by decide) rfl xv105 xv106 xv107 xv5 xv104 ⟨by decide +kernel, by decide +kernel, by decide +kernel⟩ ⟨by decide, by decide⟩
  · exact x_cwV (t := 8) mX8_thrown rfl (by decide) rfl xv109 xv110 xv111 xv5 xv108 ⟨by decide +kernel, by decide +kernel, by decide +kernel⟩ ⟨by decide, by decide⟩
  · exact x_cwV (t := 7) mX7_now rfl (by decide) rfl xv113 xv114 xv115 xv1 xv112 ⟨by decide +kernel, by decide +kernel, by decide +kernel⟩ ⟨by decide, by decide⟩
  · exact x_cwV (t := 8) mX8_now rfl (by decide) rfl xv117 xv118 xv119 xv5 xv116 ⟨by decide +kernel, by decide +kernel, by decide +kernel⟩ ⟨by decide, by decide⟩
  · exact x_cwV (t := 7) mX7_badness rfl (by decide) rfl xv121 xv122 xv123 xv1 xv120 ⟨by decide +kernel, by decide +kernel, by decide +kernel⟩ ⟨by decide, by decide⟩
  · exact x_cwV (t := 8) mX8_badness rfl (by decide) rfl xv125 xv126 xv127 xv5 xv124 ⟨by decide +kernel, by decide +kernel, by decide +kernel⟩ ⟨by decide, by decide⟩
  · exact x_cwV (t := 7) mX7_count rfl (by decide) rfl xv129 xv130 xv131 xv1 xv128 ⟨by decide +kernel, by decide +kernel, by decide +kernel⟩ ⟨by decide, by decide⟩
  · exact x_cwV (t := 8) mX8_count rfl (by decide) rfl xv133 xv134 xv135 xv5 xv132 ⟨by decide +kernel, by decide +kernel, by decide +kernel⟩ ⟨by decide, by decide⟩
  · exact x_cwV (t := 7) mX7_check rfl (by decide) rfl xv137 xv138 xv139 xv1 xv136 ⟨by decide +kernel, by decide +kernel, by decide +kernel⟩ ⟨by decide, by decide⟩
  · exact x_cwV (t := 8) mX8_check rfl (by decide) rfl xv141 xv142 xv143 xv5 xv140 ⟨by decide +kernel, by decide +kernel, by decide +kernel⟩ ⟨by decide, by decide⟩
