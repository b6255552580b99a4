/-! OWN ROWS, by program (wip/whole/gen): what the word lists hold -/
theorem flX0_init_9 : Cond.fieldLink RX0 9 "WordMedium" "buffer" "[I" ∈ wsX0_init := by decide +kernel
theorem flX0_init_14 : Cond.fieldLink RX0 14 "WordMedium" "pageWords" "[I" ∈ wsX0_init := by decide +kernel
theorem flX0_init_17 : Cond.fieldLink RX0 17 "WordMedium" "halfStamps" "[I" ∈ wsX0_init := by decide +kernel
theorem flX0_init_20 : Cond.fieldLink RX0 20 "WordMedium" "lostPages" "[Z" ∈ wsX0_init := by decide +kernel
theorem flX0_init_25 : Cond.fieldLink RX0 25 "WordMedium" "logWords" "[I" ∈ wsX0_init := by decide +kernel
theorem flX0_init_28 : Cond.fieldLink RX0 28 "WordMedium" "rootWords" "[I" ∈ wsX0_init := by decide +kernel
theorem flX0_init_31 : Cond.fieldLink RX0 31 "WordMedium" "powerOn" "Z" ∈ wsX0_init := by decide +kernel
theorem flX0_init_35 : Cond.fieldLink RX0 35 "WordMedium" "writesUntilCut" "I" ∈ wsX0_init := by decide +kernel
set_option maxRecDepth 20000 in
theorem inX0_init : ∀ w ∈ wsX00, w ∈ wsX0_init := by decide +kernel
theorem flX0_set_9 : Cond.fieldLink RX0 9 "WordMedium" "buffer" "[I" ∈ wsX0_set := by decide +kernel
set_option maxRecDepth 20000 in
theorem inX0_set : ∀ w ∈ wsX00, w ∈ wsX0_set := by decide +kernel
theorem flX0_fill_9 : Cond.fieldLink RX0 9 "WordMedium" "buffer" "[I" ∈ wsX0_fill := by decide +kernel
set_option maxRecDepth 20000 in
theorem inX0_fill : ∀ w ∈ wsX00, w ∈ wsX0_fill := by decide +kernel
theorem flX0_get_9 : Cond.fieldLink RX0 9 "WordMedium" "buffer" "[I" ∈ wsX0_get := by decide +kernel
set_option maxRecDepth 20000 in
theorem inX0_get : ∀ w ∈ wsX00, w ∈ wsX0_get := by decide +kernel
theorem flX0_sum_9 : Cond.fieldLink RX0 9 "WordMedium" "buffer" "[I" ∈ wsX0_sum := by decide +kernel
set_option maxRecDepth 20000 in
theorem inX0_sum : ∀ w ∈ wsX00, w ∈ wsX0_sum := by decide +kernel
theorem flX0_write_9 : Cond.fieldLink RX0 9 "WordMedium" "buffer" "[I" ∈ wsX0_write := by decide +kernel
set_option maxRecDepth 20000 in
theorem inX0_write : ∀ w ∈ wsX00, w ∈ wsX0_write := by decide +kernel
theorem flX0_read_9 : Cond.fieldLink RX0 9 "WordMedium" "buffer" "[I" ∈ wsX0_read := by decide +kernel
theorem flX0_read_14 : Cond.fieldLink RX0 14 "WordMedium" "pageWords" "[I" ∈ wsX0_read := by decide +kernel
set_option maxRecDepth 20000 in
theorem inX0_read : ∀ w ∈ wsX00, w ∈ wsX0_read := by decide +kernel
theorem flX0_copy_14 : Cond.fieldLink RX0 14 "WordMedium" "pageWords" "[I" ∈ wsX0_copy := by decide +kernel
set_option maxRecDepth 20000 in
theorem inX0_copy : ∀ w ∈ wsX00, w ∈ wsX0_copy := by decide +kernel
theorem flX0_lose_20 : Cond.fieldLink RX0 20 "WordMedium" "lostPages" "[Z" ∈ wsX0_lose := by decide +kernel
set_option maxRecDepth 20000 in
theorem inX0_lose : ∀ w ∈ wsX00, w ∈ wsX0_lose := by decide +kernel
theorem flX0_stamp_17 : Cond.fieldLink RX0 17 "WordMedium" "halfStamps" "[I" ∈ wsX0_stamp := by decide +kernel
set_option maxRecDepth 20000 in
theorem inX0_stamp : ∀ w ∈ wsX00, w ∈ wsX0_stamp := by decide +kernel
theorem flX0_append_84 : Cond.fieldLink RX0 84 "WordMedium" "logEnd" "I" ∈ wsX0_append := by decide +kernel
theorem flX0_append_87 : Cond.fieldLink RX0 87 "WordMedium" "logFirst" "I" ∈ wsX0_append := by decide +kernel
theorem flX0_append_25 : Cond.fieldLink RX0 25 "WordMedium" "logWords" "[I" ∈ wsX0_append := by decide +kernel
theorem flX0_append_9 : Cond.fieldLink RX0 9 "WordMedium" "buffer" "[I" ∈ wsX0_append := by decide +kernel
set_option maxRecDepth 20000 in
theorem inX0_append : ∀ w ∈ wsX00, w ∈ wsX0_append := by decide +kernel
theorem flX0_force_84 : Cond.fieldLink RX0 84 "WordMedium" "logEnd" "I" ∈ wsX0_force := by decide +kernel
theorem flX0_force_96 : Cond.fieldLink RX0 96 "WordMedium" "logForced" "I" ∈ wsX0_force := by decide +kernel
set_option maxRecDepth 20000 in
theorem inX0_force : ∀ w ∈ wsX00, w ∈ wsX0_force := by decide +kernel
theorem flX0_readLog_84 : Cond.fieldLink RX0 84 "WordMedium" "logEnd" "I" ∈ wsX0_readLog := by decide +kernel
theorem flX0_readLog_9 : Cond.fieldLink RX0 9 "WordMedium" "buffer" "[I" ∈ wsX0_readLog := by decide +kernel
theorem flX0_readLog_25 : Cond.fieldLink RX0 25 "WordMedium" "logWords" "[I" ∈ wsX0_readLog := by decide +kernel
set_option maxRecDepth 20000 in
theorem inX0_readLog : ∀ w ∈ wsX00, w ∈ wsX0_readLog := by decide +kernel
theorem flX0_giveBack_96 : Cond.fieldLink RX0 96 "WordMedium" "logForced" "I" ∈ wsX0_giveBack := by decide +kernel
theorem flX0_giveBack_87 : Cond.fieldLink RX0 87 "WordMedium" "logFirst" "I" ∈ wsX0_giveBack := by decide +kernel
set_option maxRecDepth 20000 in
theorem inX0_giveBack : ∀ w ∈ wsX00, w ∈ wsX0_giveBack := by decide +kernel
theorem flX0_log_87 : Cond.fieldLink RX0 87 "WordMedium" "logFirst" "I" ∈ wsX0_log := by decide +kernel
theorem flX0_log_96 : Cond.fieldLink RX0 96 "WordMedium" "logForced" "I" ∈ wsX0_log := by decide +kernel
theorem flX0_log_84 : Cond.fieldLink RX0 84 "WordMedium" "logEnd" "I" ∈ wsX0_log := by decide +kernel
set_option maxRecDepth 20000 in
theorem inX0_log : ∀ w ∈ wsX00, w ∈ wsX0_log := by decide +kernel
theorem flX0_setRoot_28 : Cond.fieldLink RX0 28 "WordMedium" "rootWords" "[I" ∈ wsX0_setRoot := by decide +kernel
set_option maxRecDepth 20000 in
theorem inX0_setRoot : ∀ w ∈ wsX00, w ∈ wsX0_setRoot := by decide +kernel
theorem flX0_root_28 : Cond.fieldLink RX0 28 "WordMedium" "rootWords" "[I" ∈ wsX0_root := by decide +kernel
set_option maxRecDepth 20000 in
theorem inX0_root : ∀ w ∈ wsX00, w ∈ wsX0_root := by decide +kernel
theorem flX0_writes_108 : Cond.fieldLink RX0 108 "WordMedium" "leastWritesMade" "I" ∈ wsX0_writes := by decide +kernel
set_option maxRecDepth 20000 in
theorem inX0_writes : ∀ w ∈ wsX00, w ∈ wsX0_writes := by decide +kernel
theorem flX0_cutAfter_35 : Cond.fieldLink RX0 35 "WordMedium" "writesUntilCut" "I" ∈ wsX0_cutAfter := by decide +kernel
set_option maxRecDepth 20000 in
theorem inX0_cutAfter : ∀ w ∈ wsX00, w ∈ wsX0_cutAfter := by decide +kernel
theorem flX0_cut_31 : Cond.fieldLink RX0 31 "WordMedium" "powerOn" "Z" ∈ wsX0_cut := by decide +kernel
set_option maxRecDepth 20000 in
theorem inX0_cut : ∀ w ∈ wsX00, w ∈ wsX0_cut := by decide +kernel
theorem flX0_start_31 : Cond.fieldLink RX0 31 "WordMedium" "powerOn" "Z" ∈ wsX0_start := by decide +kernel
theorem flX0_start_35 : Cond.fieldLink RX0 35 "WordMedium" "writesUntilCut" "I" ∈ wsX0_start := by decide +kernel
set_option maxRecDepth 20000 in
theorem inX0_start : ∀ w ∈ wsX00, w ∈ wsX0_start := by decide +kernel
theorem flX0_isOn_31 : Cond.fieldLink RX0 31 "WordMedium" "powerOn" "Z" ∈ wsX0_isOn := by decide +kernel
set_option maxRecDepth 20000 in
theorem inX0_isOn : ∀ w ∈ wsX00, w ∈ wsX0_isOn := by decide +kernel
theorem flX0_needPower_31 : Cond.fieldLink RX0 31 "WordMedium" "powerOn" "Z" ∈ wsX0_needPower := by decide +kernel
set_option maxRecDepth 20000 in
theorem inX0_needPower : ∀ w ∈ wsX00, w ∈ wsX0_needPower := by decide +kernel
theorem flX0_needPlace_87 : Cond.fieldLink RX0 87 "WordMedium" "logFirst" "I" ∈ wsX0_needPlace := by decide +kernel
set_option maxRecDepth 20000 in
theorem inX0_needPlace : ∀ w ∈ wsX00, w ∈ wsX0_needPlace := by decide +kernel
theorem flX0_pageState_20 : Cond.fieldLink RX0 20 "WordMedium" "lostPages" "[Z" ∈ wsX0_pageState := by decide +kernel
theorem flX0_pageState_17 : Cond.fieldLink RX0 17 "WordMedium" "halfStamps" "[I" ∈ wsX0_pageState := by decide +kernel
set_option maxRecDepth 20000 in
theorem inX0_pageState : ∀ w ∈ wsX00, w ∈ wsX0_pageState := by decide +kernel
theorem flX0_writePage_128 : Cond.fieldLink RX0 128 "WordMedium" "pageWritesBegun" "I" ∈ wsX0_writePage := by decide +kernel
theorem flX0_writePage_14 : Cond.fieldLink RX0 14 "WordMedium" "pageWords" "[I" ∈ wsX0_writePage := by decide +kernel
theorem flX0_writePage_17 : Cond.fieldLink RX0 17 "WordMedium" "halfStamps" "[I" ∈ wsX0_writePage := by decide +kernel
theorem flX0_writePage_20 : Cond.fieldLink RX0 20 "WordMedium" "lostPages" "[Z" ∈ wsX0_writePage := by decide +kernel
set_option maxRecDepth 20000 in
theorem inX0_writePage : ∀ w ∈ wsX00, w ∈ wsX0_writePage := by decide +kernel
theorem flX0_makeLeastWrite_35 : Cond.fieldLink RX0 35 "WordMedium" "writesUntilCut" "I" ∈ wsX0_makeLeastWrite := by decide +kernel
theorem flX0_makeLeastWrite_108 : Cond.fieldLink RX0 108 "WordMedium" "leastWritesMade" "I" ∈ wsX0_makeLeastWrite := by decide +kernel
set_option maxRecDepth 20000 in
theorem inX0_makeLeastWrite : ∀ w ∈ wsX00, w ∈ wsX0_makeLeastWrite := by decide +kernel
theorem flX0_failPower_31 : Cond.fieldLink RX0 31 "WordMedium" "powerOn" "Z" ∈ wsX0_failPower := by decide +kernel
theorem flX0_failPower_96 : Cond.fieldLink RX0 96 "WordMedium" "logForced" "I" ∈ wsX0_failPower := by decide +kernel
theorem flX0_failPower_84 : Cond.fieldLink RX0 84 "WordMedium" "logEnd" "I" ∈ wsX0_failPower := by decide +kernel
theorem flX0_failPower_9 : Cond.fieldLink RX0 9 "WordMedium" "buffer" "[I" ∈ wsX0_failPower := by decide +kernel
set_option maxRecDepth 20000 in
theorem inX0_failPower : ∀ w ∈ wsX00, w ∈ wsX0_failPower := by decide +kernel
theorem flX1_init_8 : Cond.fieldLink RX1 8 "WordMediumModel" "pages" "[I" ∈ wsX1_init := by decide +kernel
theorem flX1_init_14 : Cond.fieldLink RX1 14 "WordMediumModel" "stamps" "[I" ∈ wsX1_init := by decide +kernel
theorem flX1_init_17 : Cond.fieldLink RX1 17 "WordMediumModel" "lost" "[Z" ∈ wsX1_init := by decide +kernel
theorem flX1_init_22 : Cond.fieldLink RX1 22 "WordMediumModel" "log" "[I" ∈ wsX1_init := by decide +kernel
theorem flX1_init_25 : Cond.fieldLink RX1 25 "WordMediumModel" "roots" "[I" ∈ wsX1_init := by decide +kernel
theorem flX1_init_28 : Cond.fieldLink RX1 28 "WordMediumModel" "buffer" "[I" ∈ wsX1_init := by decide +kernel
theorem flX1_init_31 : Cond.fieldLink RX1 31 "WordMediumModel" "left" "I" ∈ wsX1_init := by decide +kernel
theorem flX1_init_35 : Cond.fieldLink RX1 35 "WordMediumModel" "first" "I" ∈ wsX1_init := by decide +kernel
set_option maxRecDepth 20000 in
theorem inX1_init : ∀ w ∈ wsX10, w ∈ wsX1_init := by decide +kernel
theorem flX1_thrown_38 : Cond.fieldLink RX1 38 "WordMediumModel" "thrown" "I" ∈ wsX1_thrown := by decide +kernel
set_option maxRecDepth 20000 in
theorem inX1_thrown : ∀ w ∈ wsX10, w ∈ wsX1_thrown := by decide +kernel
theorem flX1_refused_38 : Cond.fieldLink RX1 38 "WordMediumModel" "thrown" "I" ∈ wsX1_refused := by decide +kernel
set_option maxRecDepth 20000 in
theorem inX1_refused : ∀ w ∈ wsX10, w ∈ wsX1_refused := by decide +kernel
theorem flX1_fail_45 : Cond.fieldLink RX1 45 "WordMediumModel" "off" "Z" ∈ wsX1_fail := by decide +kernel
theorem flX1_fail_49 : Cond.fieldLink RX1 49 "WordMediumModel" "forced" "I" ∈ wsX1_fail := by decide +kernel
theorem flX1_fail_52 : Cond.fieldLink RX1 52 "WordMediumModel" "end" "I" ∈ wsX1_fail := by decide +kernel
theorem flX1_fail_28 : Cond.fieldLink RX1 28 "WordMediumModel" "buffer" "[I" ∈ wsX1_fail := by decide +kernel
set_option maxRecDepth 20000 in
theorem inX1_fail : ∀ w ∈ wsX10, w ∈ wsX1_fail := by decide +kernel
theorem flX1_canWrite_31 : Cond.fieldLink RX1 31 "WordMediumModel" "left" "I" ∈ wsX1_canWrite := by decide +kernel
theorem flX1_canWrite_58 : Cond.fieldLink RX1 58 "WordMediumModel" "made" "I" ∈ wsX1_canWrite := by decide +kernel
set_option maxRecDepth 20000 in
theorem inX1_canWrite : ∀ w ∈ wsX10, w ∈ wsX1_canWrite := by decide +kernel
theorem flX1_set_45 : Cond.fieldLink RX1 45 "WordMediumModel" "off" "Z" ∈ wsX1_set := by decide +kernel
theorem flX1_set_28 : Cond.fieldLink RX1 28 "WordMediumModel" "buffer" "[I" ∈ wsX1_set := by decide +kernel
set_option maxRecDepth 20000 in
theorem inX1_set : ∀ w ∈ wsX10, w ∈ wsX1_set := by decide +kernel
theorem flX1_fill_45 : Cond.fieldLink RX1 45 "WordMediumModel" "off" "Z" ∈ wsX1_fill := by decide +kernel
theorem flX1_fill_28 : Cond.fieldLink RX1 28 "WordMediumModel" "buffer" "[I" ∈ wsX1_fill := by decide +kernel
set_option maxRecDepth 20000 in
theorem inX1_fill : ∀ w ∈ wsX10, w ∈ wsX1_fill := by decide +kernel
theorem flX1_get_28 : Cond.fieldLink RX1 28 "WordMediumModel" "buffer" "[I" ∈ wsX1_get := by decide +kernel
set_option maxRecDepth 20000 in
theorem inX1_get : ∀ w ∈ wsX10, w ∈ wsX1_get := by decide +kernel
theorem flX1_sum_38 : Cond.fieldLink RX1 38 "WordMediumModel" "thrown" "I" ∈ wsX1_sum := by decide +kernel
theorem flX1_sum_28 : Cond.fieldLink RX1 28 "WordMediumModel" "buffer" "[I" ∈ wsX1_sum := by decide +kernel
set_option maxRecDepth 20000 in
theorem inX1_sum : ∀ w ∈ wsX10, w ∈ wsX1_sum := by decide +kernel
theorem flX1_isTorn_14 : Cond.fieldLink RX1 14 "WordMediumModel" "stamps" "[I" ∈ wsX1_isTorn := by decide +kernel
set_option maxRecDepth 20000 in
theorem inX1_isTorn : ∀ w ∈ wsX10, w ∈ wsX1_isTorn := by decide +kernel
theorem flX1_stateOf_17 : Cond.fieldLink RX1 17 "WordMediumModel" "lost" "[Z" ∈ wsX1_stateOf := by decide +kernel
set_option maxRecDepth 20000 in
theorem inX1_stateOf : ∀ w ∈ wsX10, w ∈ wsX1_stateOf := by decide +kernel
theorem flX1_writePage_69 : Cond.fieldLink RX1 69 "WordMediumModel" "pageWrites" "I" ∈ wsX1_writePage := by decide +kernel
theorem flX1_writePage_8 : Cond.fieldLink RX1 8 "WordMediumModel" "pages" "[I" ∈ wsX1_writePage := by decide +kernel
theorem flX1_writePage_28 : Cond.fieldLink RX1 28 "WordMediumModel" "buffer" "[I" ∈ wsX1_writePage := by decide +kernel
theorem flX1_writePage_14 : Cond.fieldLink RX1 14 "WordMediumModel" "stamps" "[I" ∈ wsX1_writePage := by decide +kernel
theorem flX1_writePage_17 : Cond.fieldLink RX1 17 "WordMediumModel" "lost" "[Z" ∈ wsX1_writePage := by decide +kernel
set_option maxRecDepth 20000 in
theorem inX1_writePage : ∀ w ∈ wsX10, w ∈ wsX1_writePage := by decide +kernel
theorem flX1_write_45 : Cond.fieldLink RX1 45 "WordMediumModel" "off" "Z" ∈ wsX1_write := by decide +kernel
set_option maxRecDepth 20000 in
theorem inX1_write : ∀ w ∈ wsX10, w ∈ wsX1_write := by decide +kernel
theorem flX1_read_45 : Cond.fieldLink RX1 45 "WordMediumModel" "off" "Z" ∈ wsX1_read := by decide +kernel
theorem flX1_read_28 : Cond.fieldLink RX1 28 "WordMediumModel" "buffer" "[I" ∈ wsX1_read := by decide +kernel
theorem flX1_read_17 : Cond.fieldLink RX1 17 "WordMediumModel" "lost" "[Z" ∈ wsX1_read := by decide +kernel
theorem flX1_read_8 : Cond.fieldLink RX1 8 "WordMediumModel" "pages" "[I" ∈ wsX1_read := by decide +kernel
set_option maxRecDepth 20000 in
theorem inX1_read : ∀ w ∈ wsX10, w ∈ wsX1_read := by decide +kernel
theorem flX1_copy_45 : Cond.fieldLink RX1 45 "WordMediumModel" "off" "Z" ∈ wsX1_copy := by decide +kernel
set_option maxRecDepth 20000 in
theorem inX1_copy : ∀ w ∈ wsX10, w ∈ wsX1_copy := by decide +kernel
theorem flX1_append_45 : Cond.fieldLink RX1 45 "WordMediumModel" "off" "Z" ∈ wsX1_append := by decide +kernel
theorem flX1_append_52 : Cond.fieldLink RX1 52 "WordMediumModel" "end" "I" ∈ wsX1_append := by decide +kernel
theorem flX1_append_35 : Cond.fieldLink RX1 35 "WordMediumModel" "first" "I" ∈ wsX1_append := by decide +kernel
theorem flX1_append_22 : Cond.fieldLink RX1 22 "WordMediumModel" "log" "[I" ∈ wsX1_append := by decide +kernel
theorem flX1_append_28 : Cond.fieldLink RX1 28 "WordMediumModel" "buffer" "[I" ∈ wsX1_append := by decide +kernel
set_option maxRecDepth 20000 in
theorem inX1_append : ∀ w ∈ wsX10, w ∈ wsX1_append := by decide +kernel
theorem flX1_force_45 : Cond.fieldLink RX1 45 "WordMediumModel" "off" "Z" ∈ wsX1_force := by decide +kernel
theorem flX1_force_35 : Cond.fieldLink RX1 35 "WordMediumModel" "first" "I" ∈ wsX1_force := by decide +kernel
theorem flX1_force_52 : Cond.fieldLink RX1 52 "WordMediumModel" "end" "I" ∈ wsX1_force := by decide +kernel
theorem flX1_force_49 : Cond.fieldLink RX1 49 "WordMediumModel" "forced" "I" ∈ wsX1_force := by decide +kernel
set_option maxRecDepth 20000 in
theorem inX1_force : ∀ w ∈ wsX10, w ∈ wsX1_force := by decide +kernel
theorem flX1_readLog_35 : Cond.fieldLink RX1 35 "WordMediumModel" "first" "I" ∈ wsX1_readLog := by decide +kernel
theorem flX1_readLog_52 : Cond.fieldLink RX1 52 "WordMediumModel" "end" "I" ∈ wsX1_readLog := by decide +kernel
theorem flX1_readLog_45 : Cond.fieldLink RX1 45 "WordMediumModel" "off" "Z" ∈ wsX1_readLog := by decide +kernel
theorem flX1_readLog_28 : Cond.fieldLink RX1 28 "WordMediumModel" "buffer" "[I" ∈ wsX1_readLog := by decide +kernel
theorem flX1_readLog_22 : Cond.fieldLink RX1 22 "WordMediumModel" "log" "[I" ∈ wsX1_readLog := by decide +kernel
set_option maxRecDepth 20000 in
theorem inX1_readLog : ∀ w ∈ wsX10, w ∈ wsX1_readLog := by decide +kernel
theorem flX1_giveBack_45 : Cond.fieldLink RX1 45 "WordMediumModel" "off" "Z" ∈ wsX1_giveBack := by decide +kernel
theorem flX1_giveBack_35 : Cond.fieldLink RX1 35 "WordMediumModel" "first" "I" ∈ wsX1_giveBack := by decide +kernel
theorem flX1_giveBack_49 : Cond.fieldLink RX1 49 "WordMediumModel" "forced" "I" ∈ wsX1_giveBack := by decide +kernel
set_option maxRecDepth 20000 in
theorem inX1_giveBack : ∀ w ∈ wsX10, w ∈ wsX1_giveBack := by decide +kernel
theorem flX1_log_35 : Cond.fieldLink RX1 35 "WordMediumModel" "first" "I" ∈ wsX1_log := by decide +kernel
theorem flX1_log_49 : Cond.fieldLink RX1 49 "WordMediumModel" "forced" "I" ∈ wsX1_log := by decide +kernel
theorem flX1_log_52 : Cond.fieldLink RX1 52 "WordMediumModel" "end" "I" ∈ wsX1_log := by decide +kernel
set_option maxRecDepth 20000 in
theorem inX1_log : ∀ w ∈ wsX10, w ∈ wsX1_log := by decide +kernel
theorem flX1_setRoot_45 : Cond.fieldLink RX1 45 "WordMediumModel" "off" "Z" ∈ wsX1_setRoot := by decide +kernel
theorem flX1_setRoot_25 : Cond.fieldLink RX1 25 "WordMediumModel" "roots" "[I" ∈ wsX1_setRoot := by decide +kernel
set_option maxRecDepth 20000 in
theorem inX1_setRoot : ∀ w ∈ wsX10, w ∈ wsX1_setRoot := by decide +kernel
theorem flX1_root_25 : Cond.fieldLink RX1 25 "WordMediumModel" "roots" "[I" ∈ wsX1_root := by decide +kernel
set_option maxRecDepth 20000 in
theorem inX1_root : ∀ w ∈ wsX10, w ∈ wsX1_root := by decide +kernel
theorem flX1_lose_17 : Cond.fieldLink RX1 17 "WordMediumModel" "lost" "[Z" ∈ wsX1_lose := by decide +kernel
set_option maxRecDepth 20000 in
theorem inX1_lose : ∀ w ∈ wsX10, w ∈ wsX1_lose := by decide +kernel
theorem flX1_stamp_14 : Cond.fieldLink RX1 14 "WordMediumModel" "stamps" "[I" ∈ wsX1_stamp := by decide +kernel
set_option maxRecDepth 20000 in
theorem inX1_stamp : ∀ w ∈ wsX10, w ∈ wsX1_stamp := by decide +kernel
theorem flX1_writes_38 : Cond.fieldLink RX1 38 "WordMediumModel" "thrown" "I" ∈ wsX1_writes := by decide +kernel
theorem flX1_writes_58 : Cond.fieldLink RX1 58 "WordMediumModel" "made" "I" ∈ wsX1_writes := by decide +kernel
set_option maxRecDepth 20000 in
theorem inX1_writes : ∀ w ∈ wsX10, w ∈ wsX1_writes := by decide +kernel
theorem flX1_cutAfter_31 : Cond.fieldLink RX1 31 "WordMediumModel" "left" "I" ∈ wsX1_cutAfter := by decide +kernel
set_option maxRecDepth 20000 in
theorem inX1_cutAfter : ∀ w ∈ wsX10, w ∈ wsX1_cutAfter := by decide +kernel
theorem flX1_cut_38 : Cond.fieldLink RX1 38 "WordMediumModel" "thrown" "I" ∈ wsX1_cut := by decide +kernel
theorem flX1_cut_45 : Cond.fieldLink RX1 45 "WordMediumModel" "off" "Z" ∈ wsX1_cut := by decide +kernel
set_option maxRecDepth 20000 in
theorem inX1_cut : ∀ w ∈ wsX10, w ∈ wsX1_cut := by decide +kernel
theorem flX1_start_38 : Cond.fieldLink RX1 38 "WordMediumModel" "thrown" "I" ∈ wsX1_start := by decide +kernel
theorem flX1_start_45 : Cond.fieldLink RX1 45 "WordMediumModel" "off" "Z" ∈ wsX1_start := by decide +kernel
theorem flX1_start_31 : Cond.fieldLink RX1 31 "WordMediumModel" "left" "I" ∈ wsX1_start := by decide +kernel
set_option maxRecDepth 20000 in
theorem inX1_start : ∀ w ∈ wsX10, w ∈ wsX1_start := by decide +kernel
theorem flX1_isOn_38 : Cond.fieldLink RX1 38 "WordMediumModel" "thrown" "I" ∈ wsX1_isOn := by decide +kernel
theorem flX1_isOn_45 : Cond.fieldLink RX1 45 "WordMediumModel" "off" "Z" ∈ wsX1_isOn := by decide +kernel
set_option maxRecDepth 20000 in
theorem inX1_isOn : ∀ w ∈ wsX10, w ∈ wsX1_isOn := by decide +kernel
set_option maxRecDepth 20000 in
theorem xNg_xISE : ∀ w ∈ (vx_atS RX0 77 xISE xSup).filter (fun w => !goodWord w), w ∈ xWs := by decide +kernel
set_option maxRecDepth 20000 in
theorem xGd_xISE : (Cond.classLink RX0 73 xISE :: Cond.initialized xISE :: vx_atS RX0 77 xISE xSup).all vx_ot = true := by decide +kernel
set_option maxRecDepth 20000 in
theorem xNg_xIOB : ∀ w ∈ (vx_atS RX0 107 xIOB xSup).filter (fun w => !goodWord w), w ∈ xWs := by decide +kernel
set_option maxRecDepth 20000 in
theorem xGd_xIOB : (Cond.classLink RX0 103 xIOB :: Cond.initialized xIOB :: vx_atS RX0 107 xIOB xSup).all vx_ot = true := by decide +kernel
set_option maxRecDepth 20000 in
theorem xNg_xIAE : ∀ w ∈ (vx_atS RX0 115 xIAE xSup).filter (fun w => !goodWord w), w ∈ xWs := by decide +kernel
set_option maxRecDepth 20000 in
theorem xGd_xIAE : (Cond.classLink RX0 111 xIAE :: Cond.initialized xIAE :: vx_atS RX0 115 xIAE xSup).all vx_ot = true := by decide +kernel
theorem thX0_needPower_k : Cond.classLink RX0 73 xISE ∈ wsX0_needPower := by decide +kernel
theorem thX0_needPower_i : Cond.initialized xISE ∈ wsX0_needPower := by decide +kernel
set_option maxRecDepth 20000 in
theorem thX0_needPower_g : ∀ w ∈ (vx_atS RX0 77 xISE xSup).filter goodWord, w ∈ wsX0_needPower := by decide +kernel
theorem thX0_needIndex_k : Cond.classLink RX0 103 xIOB ∈ wsX0_needIndex := by decide +kernel
theorem thX0_needIndex_i : Cond.initialized xIOB ∈ wsX0_needIndex := by decide +kernel
set_option maxRecDepth 20000 in
theorem thX0_needIndex_g : ∀ w ∈ (vx_atS RX0 107 xIOB xSup).filter goodWord, w ∈ wsX0_needIndex := by decide +kernel
theorem thX0_needWordCount_k : Cond.classLink RX0 111 xIAE ∈ wsX0_needWordCount := by decide +kernel
theorem thX0_needWordCount_i : Cond.initialized xIAE ∈ wsX0_needWordCount := by decide +kernel
set_option maxRecDepth 20000 in
theorem thX0_needWordCount_g : ∀ w ∈ (vx_atS RX0 115 xIAE xSup).filter goodWord, w ∈ wsX0_needWordCount := by decide +kernel
theorem thX0_needPlace_k : Cond.classLink RX0 111 xIAE ∈ wsX0_needPlace := by decide +kernel
theorem thX0_needPlace_i : Cond.initialized xIAE ∈ wsX0_needPlace := by decide +kernel
set_option maxRecDepth 20000 in
theorem thX0_needPlace_g : ∀ w ∈ (vx_atS RX0 115 xIAE xSup).filter goodWord, w ∈ wsX0_needPlace := by decide +kernel
theorem thX0_copy_k : Cond.classLink RX0 73 xISE ∈ wsX0_copy := by decide +kernel
theorem thX0_copy_i : Cond.initialized xISE ∈ wsX0_copy := by decide +kernel
set_option maxRecDepth 20000 in
theorem thX0_copy_g : ∀ w ∈ (vx_atS RX0 77 xISE xSup).filter goodWord, w ∈ wsX0_copy := by decide +kernel
theorem thX0_log_k : Cond.classLink RX0 103 xIOB ∈ wsX0_log := by decide +kernel
theorem thX0_log_i : Cond.initialized xIOB ∈ wsX0_log := by decide +kernel
set_option maxRecDepth 20000 in
theorem thX0_log_g : ∀ w ∈ (vx_atS RX0 107 xIOB xSup).filter goodWord, w ∈ wsX0_log := by decide +kernel
theorem thX0_cutAfter_k : Cond.classLink RX0 111 xIAE ∈ wsX0_cutAfter := by decide +kernel
theorem thX0_cutAfter_i : Cond.initialized xIAE ∈ wsX0_cutAfter := by decide +kernel
set_option maxRecDepth 20000 in
theorem thX0_cutAfter_g : ∀ w ∈ (vx_atS RX0 115 xIAE xSup).filter goodWord, w ∈ wsX0_cutAfter := by decide +kernel
theorem acX0_writePage : ∀ w ∈ [Cond.methodLink RX0 67 arraycopyName, Cond.native arraycopyName, Cond.static arraycopyName, Cond.initialized "java/lang/System"], w ∈ wsX0_writePage := by decide +kernel
theorem acX0_read : ∀ w ∈ [Cond.methodLink RX0 67 arraycopyName, Cond.native arraycopyName, Cond.static arraycopyName, Cond.initialized "java/lang/System"], w ∈ wsX0_read := by decide +kernel
