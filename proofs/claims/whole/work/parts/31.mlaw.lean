set_option maxRecDepth 20000 in
theorem gL_law_XM_set : GoodIn lw_tbl (wsV RL 17 RXM yXM_set wsXM_set) := gLM_of (l := [.methodLink RL 17 yXM_set, .instanceMethod yXM_set, .selects RXM yXM_set yXM_set, .initialized RXM]) wM_105 (goodIn_of _ (by decide +kernel))
set_option maxRecDepth 20000 in
theorem gL_law_XM_parameter : GoodIn lw_tbl (wsV RL 22 RXM yXM_parameter wsXM_parameter) := gLM_of (l := [.methodLink RL 22 yXM_parameter, .instanceMethod yXM_parameter, .selects RXM yXM_parameter yXM_parameter, .initialized RXM]) wM_108 (goodIn_of _ (by decide +kernel))
set_option maxRecDepth 20000 in
theorem gL_law_XM_sense : GoodIn lw_tbl (wsV RL 26 RXM yXM_sense wsXM_sense) := gLM_of (l := [.methodLink RL 26 yXM_sense, .instanceMethod yXM_sense, .selects RXM yXM_sense yXM_sense, .initialized RXM]) wM_109 (goodIn_of _ (by decide +kernel))
set_option maxRecDepth 20000 in
theorem gL_law_XM_conditioned : GoodIn lw_tbl (wsV RL 30 RXM yXM_conditioned wsXM_conditioned) := gLM_of (l := [.methodLink RL 30 yXM_conditioned, .instanceMethod yXM_conditioned, .selects RXM yXM_conditioned yXM_conditioned, .initialized RXM]) wM_110 (goodIn_of _ (by decide +kernel))
set_option maxRecDepth 20000 in
theorem gL_law_XM_faulty : GoodIn lw_tbl (wsV RL 35 RXM yXM_faulty wsXM_faulty) := gLM_of (l := [.methodLink RL 35 yXM_faulty, .instanceMethod yXM_faulty, .selects RXM yXM_faulty yXM_faulty, .initialized RXM]) wM_111 (goodIn_of _ (by decide +kernel))
set_option maxRecDepth 20000 in
theorem gL_law_XM_next : GoodIn lw_tbl (wsV RL 40 RXM yXM_next wsXM_next) := gLM_of (l := [.methodLink RL 40 yXM_next, .instanceMethod yXM_next, .selects RXM yXM_next yXM_next, .initialized RXM]) wM_112 (goodIn_of _ (by decide +kernel))
set_option maxRecDepth 20000 in
theorem gL_law_XM_acknowledge : GoodIn lw_tbl (wsV RL 44 RXM yXM_acknowledge wsXM_acknowledge) := gLM_of (l := [.methodLink RL 44 yXM_acknowledge, .instanceMethod yXM_acknowledge, .selects RXM yXM_acknowledge yXM_acknowledge, .initialized RXM]) wM_115 (goodIn_of _ (by decide +kernel))
set_option maxRecDepth 20000 in
theorem gL_law_XM_substitute : GoodIn lw_tbl (wsV RL 48 RXM yXM_substitute wsXM_substitute) := gLM_of (l := [.methodLink RL 48 yXM_substitute, .instanceMethod yXM_substitute, .selects RXM yXM_substitute yXM_substitute, .initialized RXM]) wM_116 (goodIn_of _ (by decide +kernel))
set_option maxRecDepth 20000 in
theorem gL_law_XM_tick : GoodIn lw_tbl (wsV RL 52 RXM yXM_tick wsXM_tick) := gLM_of (l := [.methodLink RL 52 yXM_tick, .instanceMethod yXM_tick, .selects RXM yXM_tick yXM_tick, .initialized RXM]) wM_117 (goodIn_of _ (by decide +kernel))
set_option maxRecDepth 20000 in
theorem gL_law_XM_phase : GoodIn lw_tbl (wsV RL 56 RXM yXM_phase wsXM_phase) := gLM_of (l := [.methodLink RL 56 yXM_phase, .instanceMethod yXM_phase, .selects RXM yXM_phase yXM_phase, .initialized RXM]) wM_127 (goodIn_of _ (by decide +kernel))
set_option maxRecDepth 20000 in
theorem gL_law_XM_alarms : GoodIn lw_tbl (wsV RL 60 RXM yXM_alarms wsXM_alarms) := gLM_of (l := [.methodLink RL 60 yXM_alarms, .instanceMethod yXM_alarms, .selects RXM yXM_alarms yXM_alarms, .initialized RXM]) wM_128 (goodIn_of _ (by decide +kernel))
set_option maxRecDepth 20000 in
theorem gL_law_XM_conditions : GoodIn lw_tbl (wsV RL 64 RXM yXM_conditions wsXM_conditions) := gLM_of (l := [.methodLink RL 64 yXM_conditions, .instanceMethod yXM_conditions, .selects RXM yXM_conditions yXM_conditions, .initialized RXM]) wM_129 (goodIn_of _ (by decide +kernel))
set_option maxRecDepth 20000 in
theorem gL_law_XM_outputs : GoodIn lw_tbl (wsV RL 68 RXM yXM_outputs wsXM_outputs) := gLM_of (l := [.methodLink RL 68 yXM_outputs, .instanceMethod yXM_outputs, .selects RXM yXM_outputs yXM_outputs, .initialized RXM]) wM_130 (goodIn_of _ (by decide +kernel))
set_option maxRecDepth 20000 in
theorem gL_law_XM_effective : GoodIn lw_tbl (wsV RL 72 RXM yXM_effective wsXM_effective) := gLM_of (l := [.methodLink RL 72 yXM_effective, .instanceMethod yXM_effective, .selects RXM yXM_effective yXM_effective, .initialized RXM]) wM_131 (goodIn_of _ (by decide +kernel))
set_option maxRecDepth 20000 in
theorem gL_law_XM_accounted : GoodIn lw_tbl (wsV RL 76 RXM yXM_accounted wsXM_accounted) := gLM_of (l := [.methodLink RL 76 yXM_accounted, .instanceMethod yXM_accounted, .selects RXM yXM_accounted yXM_accounted, .initialized RXM]) wM_132 (goodIn_of _ (by decide +kernel))
set_option maxRecDepth 20000 in
theorem gL_law_XM_strokes : GoodIn lw_tbl (wsV RL 80 RXM yXM_strokes wsXM_strokes) := gLM_of (l := [.methodLink RL 80 yXM_strokes, .instanceMethod yXM_strokes, .selects RXM yXM_strokes yXM_strokes, .initialized RXM]) wM_133 (goodIn_of _ (by decide +kernel))
set_option maxRecDepth 20000 in
theorem gL_law_XM_trips : GoodIn lw_tbl (wsV RL 84 RXM yXM_trips wsXM_trips) := gLM_of (l := [.methodLink RL 84 yXM_trips, .instanceMethod yXM_trips, .selects RXM yXM_trips yXM_trips, .initialized RXM]) wM_134 (goodIn_of _ (by decide +kernel))
set_option maxRecDepth 20000 in
theorem gL_law_XM_counted : GoodIn lw_tbl (wsV RL 88 RXM yXM_counted wsXM_counted) := gLM_of (l := [.methodLink RL 88 yXM_counted, .instanceMethod yXM_counted, .selects RXM yXM_counted yXM_counted, .initialized RXM]) wM_135 (goodIn_of _ (by decide +kernel))
set_option maxRecDepth 20000 in
theorem gL_law_XM_steady : GoodIn lw_tbl (wsV RL 92 RXM yXM_steady wsXM_steady) := gLM_of (l := [.methodLink RL 92 yXM_steady, .instanceMethod yXM_steady, .selects RXM yXM_steady yXM_steady, .initialized RXM]) wM_136 (goodIn_of _ (by decide +kernel))
theorem gL_law_XM_init : GoodIn lw_tbl wsXM_init := gLM_of (l := []) wM_104 (fun _ h => absurd h List.not_mem_nil)
set_option maxRecDepth 20000 in
theorem gL_law_X0_steady : GoodIn lw_tbl (wsV RL 89 RX0 yX0_steady wsX0_steady) := goodIn_p _ [271] (by decide +kernel) (by decide +kernel)
