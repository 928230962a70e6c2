abbrev wsX30 : List Cond := u_ws RX3 TX3 16
def wsX3_init : List Cond := .code yX3_init cX3_init 1 none :: ([.methodLink RX3 1 objectInit, .instanceMethod objectInit, .code objectInit ⟨#[0xb1]⟩ 1 none, .arrayClass .int, .fieldLink RX3 7 "MapsByUseModel" "keys" "[I", .fieldLink RX3 13 "MapsByUseModel" "values" "[I", .fieldLink RX3 16 "MapsByUseModel" "told" "[I", .fieldLink RX3 19 "MapsByUseModel" "often" "[I", .fieldLink RX3 22 "MapsByUseModel" "marks" "[I", .fieldLink RX3 25 "MapsByUseModel" "laidKeys" "[I", .fieldLink RX3 28 "MapsByUseModel" "laidValues" "[I", .fieldLink RX3 31 "MapsByUseModel" "laidUses" "[I", .fieldLink RX3 34 "MapsByUseModel" "room" "I"] ++ wsX30)
def wsX3_thrown : List Cond := .code yX3_thrown cX3_thrown 1 (some .int) :: ([.fieldLink RX3 38 "MapsByUseModel" "code" "I"] ++ wsX30)
def wsX3_fails : List Cond := .code yX3_fails cX3_fails 2 (some .boolean) :: ([.fieldLink RX3 38 "MapsByUseModel" "code" "I"] ++ wsX30)
def wsX3_in : List Cond := .code yX3_in cX3_in 3 (some .boolean) :: ([])
def wsX3_find : List Cond := .code yX3_find cX3_find 5 (some .int) :: ([])
def wsX3_at : List Cond := .code yX3_at cX3_at 2 (some .int) :: ([.fieldLink RX3 7 "MapsByUseModel" "keys" "[I", .fieldLink RX3 41 "MapsByUseModel" "pairs" "I", .methodLink RX3 44 yX3_find, .static yX3_find, .initialized RX3, .code yX3_find cX3_find 5 (some .int)] ++ wsX30)
def wsX3_lays : List Cond := .code yX3_lays cX3_lays 4 none :: ([.fieldLink RX3 41 "MapsByUseModel" "pairs" "I", .fieldLink RX3 7 "MapsByUseModel" "keys" "[I", .fieldLink RX3 13 "MapsByUseModel" "values" "[I", .methodLink RX3 48 yX3_at, .instanceMethod yX3_at, .selects RX3 yX3_at yX3_at, .initialized RX3, .code yX3_at cX3_at 2 (some .int), .methodLink RX3 44 yX3_find, .static yX3_find, .code yX3_find cX3_find 5 (some .int)] ++ wsX30)
def wsX3_drops : List Cond := .code yX3_drops cX3_drops 2 none :: ([.fieldLink RX3 41 "MapsByUseModel" "pairs" "I", .fieldLink RX3 7 "MapsByUseModel" "keys" "[I", .fieldLink RX3 13 "MapsByUseModel" "values" "[I"] ++ wsX30)
def wsX3_isFull : List Cond := .code yX3_isFull cX3_isFull 2 (some .boolean) :: ([.fieldLink RX3 41 "MapsByUseModel" "pairs" "I", .methodLink RX3 48 yX3_at, .instanceMethod yX3_at, .selects RX3 yX3_at yX3_at, .initialized RX3, .code yX3_at cX3_at 2 (some .int), .fieldLink RX3 7 "MapsByUseModel" "keys" "[I", .methodLink RX3 44 yX3_find, .static yX3_find, .code yX3_find cX3_find 5 (some .int)] ++ wsX30)
def wsX3_now : List Cond := .code yX3_now cX3_now 2 (some .long) :: ([.constantLong RX3 52 (4294967296), .fieldLink RX3 13 "MapsByUseModel" "values" "[I", .methodLink RX3 48 yX3_at, .instanceMethod yX3_at, .selects RX3 yX3_at yX3_at, .initialized RX3, .code yX3_at cX3_at 2 (some .int), .fieldLink RX3 7 "MapsByUseModel" "keys" "[I", .fieldLink RX3 41 "MapsByUseModel" "pairs" "I", .methodLink RX3 44 yX3_find, .static yX3_find, .code yX3_find cX3_find 5 (some .int)] ++ wsX30)
def wsX3_put_r1 : List Cond := [Cond.methodLink RX3 54 yX3_isFull, Cond.instanceMethod yX3_isFull, Cond.selects RX3 yX3_isFull yX3_isFull, Cond.initialized RX3, Cond.code yX3_isFull cX3_isFull 2 (some .boolean), Cond.fieldLink RX3 41 "MapsByUseModel" "pairs" "I", Cond.methodLink RX3 48 yX3_at, Cond.instanceMethod yX3_at, Cond.selects RX3 yX3_at yX3_at, Cond.code yX3_at cX3_at 2 (some .int), Cond.fieldLink RX3 7 "MapsByUseModel" "keys" "[I", Cond.methodLink RX3 44 yX3_find, Cond.static yX3_find, Cond.code yX3_find cX3_find 5 (some .int), Cond.methodLink RX3 58 yX3_fails, Cond.instanceMethod yX3_fails, Cond.selects RX3 yX3_fails yX3_fails, Cond.code yX3_fails cX3_fails 2 (some .boolean), Cond.fieldLink RX3 38 "MapsByUseModel" "code" "I", Cond.methodLink RX3 61 yX3_now, Cond.instanceMethod yX3_now, Cond.selects RX3 yX3_now yX3_now, Cond.code yX3_now cX3_now 2 (some .long), Cond.constantLong RX3 52 (4294967296)]
def wsX3_put_r2 : List Cond := [Cond.fieldLink RX3 13 "MapsByUseModel" "values" "[I", Cond.methodLink RX3 65 yX3_lays, Cond.instanceMethod yX3_lays, Cond.selects RX3 yX3_lays yX3_lays, Cond.code yX3_lays cX3_lays 4 none]
def wsX3_put : List Cond := .code yX3_put cX3_put 5 (some .long) :: ((wsX3_put_r1 ++ wsX3_put_r2) ++ wsX30)
def wsX3_putIfAbsent_r1 : List Cond := [Cond.constantLong RX3 52 (4294967296), Cond.methodLink RX3 54 yX3_isFull, Cond.instanceMethod yX3_isFull, Cond.selects RX3 yX3_isFull yX3_isFull, Cond.initialized RX3, Cond.code yX3_isFull cX3_isFull 2 (some .boolean), Cond.fieldLink RX3 41 "MapsByUseModel" "pairs" "I", Cond.methodLink RX3 48 yX3_at, Cond.instanceMethod yX3_at, Cond.selects RX3 yX3_at yX3_at, Cond.code yX3_at cX3_at 2 (some .int), Cond.fieldLink RX3 7 "MapsByUseModel" "keys" "[I", Cond.methodLink RX3 44 yX3_find, Cond.static yX3_find, Cond.code yX3_find cX3_find 5 (some .int), Cond.methodLink RX3 58 yX3_fails, Cond.instanceMethod yX3_fails, Cond.selects RX3 yX3_fails yX3_fails, Cond.code yX3_fails cX3_fails 2 (some .boolean), Cond.fieldLink RX3 38 "MapsByUseModel" "code" "I", Cond.methodLink RX3 61 yX3_now, Cond.instanceMethod yX3_now, Cond.selects RX3 yX3_now yX3_now, Cond.code yX3_now cX3_now 2 (some .long)]
def wsX3_putIfAbsent_r2 : List Cond := [Cond.fieldLink RX3 13 "MapsByUseModel" "values" "[I", Cond.methodLink RX3 65 yX3_lays, Cond.instanceMethod yX3_lays, Cond.selects RX3 yX3_lays yX3_lays, Cond.code yX3_lays cX3_lays 4 none]
def wsX3_putIfAbsent : List Cond := .code yX3_putIfAbsent cX3_putIfAbsent 5 (some .long) :: ((wsX3_putIfAbsent_r1 ++ wsX3_putIfAbsent_r2) ++ wsX30)
def wsX3_get : List Cond := .code yX3_get cX3_get 2 (some .long) :: ([.fieldLink RX3 38 "MapsByUseModel" "code" "I", .methodLink RX3 61 yX3_now, .instanceMethod yX3_now, .selects RX3 yX3_now yX3_now, .initialized RX3, .code yX3_now cX3_now 2 (some .long), .constantLong RX3 52 (4294967296), .fieldLink RX3 13 "MapsByUseModel" "values" "[I", .methodLink RX3 48 yX3_at, .instanceMethod yX3_at, .selects RX3 yX3_at yX3_at, .code yX3_at cX3_at 2 (some .int), .fieldLink RX3 7 "MapsByUseModel" "keys" "[I", .fieldLink RX3 41 "MapsByUseModel" "pairs" "I", .methodLink RX3 44 yX3_find, .static yX3_find, .code yX3_find cX3_find 5 (some .int)] ++ wsX30)
def wsX3_getOrDefault : List Cond := .code yX3_getOrDefault cX3_getOrDefault 3 (some .int) :: ([.fieldLink RX3 38 "MapsByUseModel" "code" "I", .constantLong RX3 52 (4294967296), .methodLink RX3 61 yX3_now, .instanceMethod yX3_now, .selects RX3 yX3_now yX3_now, .initialized RX3, .code yX3_now cX3_now 2 (some .long), .fieldLink RX3 13 "MapsByUseModel" "values" "[I", .methodLink RX3 48 yX3_at, .instanceMethod yX3_at, .selects RX3 yX3_at yX3_at, .code yX3_at cX3_at 2 (some .int), .fieldLink RX3 7 "MapsByUseModel" "keys" "[I", .fieldLink RX3 41 "MapsByUseModel" "pairs" "I", .methodLink RX3 44 yX3_find, .static yX3_find, .code yX3_find cX3_find 5 (some .int)] ++ wsX30)
def wsX3_replace : List Cond := .code yX3_replace cX3_replace 5 (some .long) :: ([.fieldLink RX3 38 "MapsByUseModel" "code" "I", .constantLong RX3 52 (4294967296), .methodLink RX3 61 yX3_now, .instanceMethod yX3_now, .selects RX3 yX3_now yX3_now, .initialized RX3, .code yX3_now cX3_now 2 (some .long), .fieldLink RX3 13 "MapsByUseModel" "values" "[I", .methodLink RX3 48 yX3_at, .instanceMethod yX3_at, .selects RX3 yX3_at yX3_at, .code yX3_at cX3_at 2 (some .int), .fieldLink RX3 7 "MapsByUseModel" "keys" "[I", .fieldLink RX3 41 "MapsByUseModel" "pairs" "I", .methodLink RX3 44 yX3_find, .static yX3_find, .code yX3_find cX3_find 5 (some .int), .methodLink RX3 65 yX3_lays, .instanceMethod yX3_lays, .selects RX3 yX3_lays yX3_lays, .code yX3_lays cX3_lays 4 none] ++ wsX30)
def wsX3_replaceTold : List Cond := .code yX3_replaceTold cX3_replaceTold 5 (some .boolean) :: ([.fieldLink RX3 38 "MapsByUseModel" "code" "I", .methodLink RX3 61 yX3_now, .instanceMethod yX3_now, .selects RX3 yX3_now yX3_now, .initialized RX3, .code yX3_now cX3_now 2 (some .long), .constantLong RX3 52 (4294967296), .fieldLink RX3 13 "MapsByUseModel" "values" "[I", .methodLink RX3 48 yX3_at, .instanceMethod yX3_at, .selects RX3 yX3_at yX3_at, .code yX3_at cX3_at 2 (some .int), .fieldLink RX3 7 "MapsByUseModel" "keys" "[I", .fieldLink RX3 41 "MapsByUseModel" "pairs" "I", .methodLink RX3 44 yX3_find, .static yX3_find, .code yX3_find cX3_find 5 (some .int), .methodLink RX3 65 yX3_lays, .instanceMethod yX3_lays, .selects RX3 yX3_lays yX3_lays, .code yX3_lays cX3_lays 4 none] ++ wsX30)
def wsX3_remove : List Cond := .code yX3_remove cX3_remove 4 (some .long) :: ([.fieldLink RX3 38 "MapsByUseModel" "code" "I", .constantLong RX3 52 (4294967296), .methodLink RX3 61 yX3_now, .instanceMethod yX3_now, .selects RX3 yX3_now yX3_now, .initialized RX3, .code yX3_now cX3_now 2 (some .long), .fieldLink RX3 13 "MapsByUseModel" "values" "[I", .methodLink RX3 48 yX3_at, .instanceMethod yX3_at, .selects RX3 yX3_at yX3_at, .code yX3_at cX3_at 2 (some .int), .fieldLink RX3 7 "MapsByUseModel" "keys" "[I", .fieldLink RX3 41 "MapsByUseModel" "pairs" "I", .methodLink RX3 44 yX3_find, .static yX3_find, .code yX3_find cX3_find 5 (some .int), .methodLink RX3 69 yX3_drops, .instanceMethod yX3_drops, .selects RX3 yX3_drops yX3_drops, .code yX3_drops cX3_drops 2 none] ++ wsX30)
def wsX3_removeTold : List Cond := .code yX3_removeTold cX3_removeTold 4 (some .boolean) :: ([.fieldLink RX3 38 "MapsByUseModel" "code" "I", .methodLink RX3 61 yX3_now, .instanceMethod yX3_now, .selects RX3 yX3_now yX3_now, .initialized RX3, .code yX3_now cX3_now 2 (some .long), .constantLong RX3 52 (4294967296), .fieldLink RX3 13 "MapsByUseModel" "values" "[I", .methodLink RX3 48 yX3_at, .instanceMethod yX3_at, .selects RX3 yX3_at yX3_at, .code yX3_at cX3_at 2 (some .int), .fieldLink RX3 7 "MapsByUseModel" "keys" "[I", .fieldLink RX3 41 "MapsByUseModel" "pairs" "I", .methodLink RX3 44 yX3_find, .static yX3_find, .code yX3_find cX3_find 5 (some .int), .methodLink RX3 69 yX3_drops, .instanceMethod yX3_drops, .selects RX3 yX3_drops yX3_drops, .code yX3_drops cX3_drops 2 none] ++ wsX30)
def wsX3_containsKey : List Cond := .code yX3_containsKey cX3_containsKey 2 (some .boolean) :: ([.fieldLink RX3 38 "MapsByUseModel" "code" "I", .methodLink RX3 48 yX3_at, .instanceMethod yX3_at, .selects RX3 yX3_at yX3_at, .initialized RX3, .code yX3_at cX3_at 2 (some .int), .fieldLink RX3 7 "MapsByUseModel" "keys" "[I", .fieldLink RX3 41 "MapsByUseModel" "pairs" "I", .methodLink RX3 44 yX3_find, .static yX3_find, .code yX3_find cX3_find 5 (some .int)] ++ wsX30)
def wsX3_containsValue : List Cond := .code yX3_containsValue cX3_containsValue 2 (some .boolean) :: ([.fieldLink RX3 38 "MapsByUseModel" "code" "I", .fieldLink RX3 13 "MapsByUseModel" "values" "[I", .fieldLink RX3 41 "MapsByUseModel" "pairs" "I", .methodLink RX3 44 yX3_find, .static yX3_find, .initialized RX3, .code yX3_find cX3_find 5 (some .int)] ++ wsX30)
def wsX3_merge_r1 : List Cond := [Cond.fieldLink RX3 13 "MapsByUseModel" "values" "[I", Cond.methodLink RX3 54 yX3_isFull, Cond.instanceMethod yX3_isFull, Cond.selects RX3 yX3_isFull yX3_isFull, Cond.initialized RX3, Cond.code yX3_isFull cX3_isFull 2 (some .boolean), Cond.fieldLink RX3 41 "MapsByUseModel" "pairs" "I", Cond.methodLink RX3 48 yX3_at, Cond.instanceMethod yX3_at, Cond.selects RX3 yX3_at yX3_at, Cond.code yX3_at cX3_at 2 (some .int), Cond.fieldLink RX3 7 "MapsByUseModel" "keys" "[I", Cond.methodLink RX3 44 yX3_find, Cond.static yX3_find, Cond.code yX3_find cX3_find 5 (some .int), Cond.methodLink RX3 58 yX3_fails, Cond.instanceMethod yX3_fails, Cond.selects RX3 yX3_fails yX3_fails, Cond.code yX3_fails cX3_fails 2 (some .boolean), Cond.fieldLink RX3 38 "MapsByUseModel" "code" "I", Cond.methodLink RX3 65 yX3_lays, Cond.instanceMethod yX3_lays, Cond.selects RX3 yX3_lays yX3_lays, Cond.code yX3_lays cX3_lays 4 none]
def wsX3_merge_r2 : List Cond := [Cond.methodLink RX3 61 yX3_now, Cond.instanceMethod yX3_now, Cond.selects RX3 yX3_now yX3_now, Cond.code yX3_now cX3_now 2 (some .long), Cond.constantLong RX3 52 (4294967296), Cond.methodLink RX3 69 yX3_drops, Cond.instanceMethod yX3_drops, Cond.selects RX3 yX3_drops yX3_drops, Cond.code yX3_drops cX3_drops 2 none]
def wsX3_merge : List Cond := .code yX3_merge cX3_merge 4 (some .long) :: ((wsX3_merge_r1 ++ wsX3_merge_r2) ++ wsX30)
def wsX3_computeIfAbsent_r1 : List Cond := [Cond.methodLink RX3 54 yX3_isFull, Cond.instanceMethod yX3_isFull, Cond.selects RX3 yX3_isFull yX3_isFull, Cond.initialized RX3, Cond.code yX3_isFull cX3_isFull 2 (some .boolean), Cond.fieldLink RX3 41 "MapsByUseModel" "pairs" "I", Cond.methodLink RX3 48 yX3_at, Cond.instanceMethod yX3_at, Cond.selects RX3 yX3_at yX3_at, Cond.code yX3_at cX3_at 2 (some .int), Cond.fieldLink RX3 7 "MapsByUseModel" "keys" "[I", Cond.methodLink RX3 44 yX3_find, Cond.static yX3_find, Cond.code yX3_find cX3_find 5 (some .int), Cond.methodLink RX3 58 yX3_fails, Cond.instanceMethod yX3_fails, Cond.selects RX3 yX3_fails yX3_fails, Cond.code yX3_fails cX3_fails 2 (some .boolean), Cond.fieldLink RX3 38 "MapsByUseModel" "code" "I", Cond.methodLink RX3 65 yX3_lays, Cond.instanceMethod yX3_lays, Cond.selects RX3 yX3_lays yX3_lays, Cond.code yX3_lays cX3_lays 4 none, Cond.fieldLink RX3 13 "MapsByUseModel" "values" "[I"]
def wsX3_computeIfAbsent_r2 : List Cond := [Cond.methodLink RX3 61 yX3_now, Cond.instanceMethod yX3_now, Cond.selects RX3 yX3_now yX3_now, Cond.code yX3_now cX3_now 2 (some .long), Cond.constantLong RX3 52 (4294967296)]
def wsX3_computeIfAbsent : List Cond := .code yX3_computeIfAbsent cX3_computeIfAbsent 2 (some .long) :: ((wsX3_computeIfAbsent_r1 ++ wsX3_computeIfAbsent_r2) ++ wsX30)
def wsX3_computeIfPresent_r1 : List Cond := [Cond.fieldLink RX3 38 "MapsByUseModel" "code" "I", Cond.constantLong RX3 52 (4294967296), Cond.fieldLink RX3 13 "MapsByUseModel" "values" "[I", Cond.methodLink RX3 48 yX3_at, Cond.instanceMethod yX3_at, Cond.selects RX3 yX3_at yX3_at, Cond.initialized RX3, Cond.code yX3_at cX3_at 2 (some .int), Cond.fieldLink RX3 7 "MapsByUseModel" "keys" "[I", Cond.fieldLink RX3 41 "MapsByUseModel" "pairs" "I", Cond.methodLink RX3 44 yX3_find, Cond.static yX3_find, Cond.code yX3_find cX3_find 5 (some .int), Cond.methodLink RX3 69 yX3_drops, Cond.instanceMethod yX3_drops, Cond.selects RX3 yX3_drops yX3_drops, Cond.code yX3_drops cX3_drops 2 none, Cond.methodLink RX3 65 yX3_lays, Cond.instanceMethod yX3_lays, Cond.selects RX3 yX3_lays yX3_lays, Cond.code yX3_lays cX3_lays 4 none, Cond.methodLink RX3 61 yX3_now, Cond.instanceMethod yX3_now, Cond.selects RX3 yX3_now yX3_now]
def wsX3_computeIfPresent_r2 : List Cond := [Cond.code yX3_now cX3_now 2 (some .long)]
def wsX3_computeIfPresent : List Cond := .code yX3_computeIfPresent cX3_computeIfPresent 4 (some .long) :: ((wsX3_computeIfPresent_r1 ++ wsX3_computeIfPresent_r2) ++ wsX30)
def wsX3_lacking : List Cond := .code yX3_lacking cX3_lacking 8 (some .int) :: ([.methodLink RX3 48 yX3_at, .instanceMethod yX3_at, .selects RX3 yX3_at yX3_at, .initialized RX3, .code yX3_at cX3_at 2 (some .int), .fieldLink RX3 7 "MapsByUseModel" "keys" "[I", .fieldLink RX3 41 "MapsByUseModel" "pairs" "I", .methodLink RX3 44 yX3_find, .static yX3_find, .code yX3_find cX3_find 5 (some .int)] ++ wsX30)
def wsX3_fill_r1 : List Cond := [Cond.fieldLink RX3 41 "MapsByUseModel" "pairs" "I", Cond.methodLink RX3 73 yX3_in, Cond.static yX3_in, Cond.initialized RX3, Cond.code yX3_in cX3_in 3 (some .boolean), Cond.methodLink RX3 77 yX3_lacking, Cond.instanceMethod yX3_lacking, Cond.selects RX3 yX3_lacking yX3_lacking, Cond.code yX3_lacking cX3_lacking 8 (some .int), Cond.methodLink RX3 48 yX3_at, Cond.instanceMethod yX3_at, Cond.selects RX3 yX3_at yX3_at, Cond.code yX3_at cX3_at 2 (some .int), Cond.fieldLink RX3 7 "MapsByUseModel" "keys" "[I", Cond.methodLink RX3 44 yX3_find, Cond.static yX3_find, Cond.code yX3_find cX3_find 5 (some .int), Cond.methodLink RX3 58 yX3_fails, Cond.instanceMethod yX3_fails, Cond.selects RX3 yX3_fails yX3_fails, Cond.code yX3_fails cX3_fails 2 (some .boolean), Cond.fieldLink RX3 38 "MapsByUseModel" "code" "I", Cond.methodLink RX3 65 yX3_lays, Cond.instanceMethod yX3_lays]
def wsX3_fill_r2 : List Cond := [Cond.selects RX3 yX3_lays yX3_lays, Cond.code yX3_lays cX3_lays 4 none, Cond.fieldLink RX3 13 "MapsByUseModel" "values" "[I"]
def wsX3_fill : List Cond := .code yX3_fill cX3_fill 5 (some .int) :: ((wsX3_fill_r1 ++ wsX3_fill_r2) ++ wsX30)
def wsX3_addToAll : List Cond := .code yX3_addToAll cX3_addToAll 3 (some .int) :: ([.fieldLink RX3 38 "MapsByUseModel" "code" "I", .fieldLink RX3 41 "MapsByUseModel" "pairs" "I", .fieldLink RX3 13 "MapsByUseModel" "values" "[I"] ++ wsX30)
def wsX3_dropBelow : List Cond := .code yX3_dropBelow cX3_dropBelow 4 (some .int) :: ([.fieldLink RX3 38 "MapsByUseModel" "code" "I", .fieldLink RX3 41 "MapsByUseModel" "pairs" "I", .fieldLink RX3 13 "MapsByUseModel" "values" "[I", .methodLink RX3 69 yX3_drops, .instanceMethod yX3_drops, .selects RX3 yX3_drops yX3_drops, .initialized RX3, .code yX3_drops cX3_drops 2 none, .fieldLink RX3 7 "MapsByUseModel" "keys" "[I"] ++ wsX30)
def wsX3_putShelf : List Cond := .code yX3_putShelf cX3_putShelf 3 (some .int) :: ([.fieldLink RX3 81 "MapsByUseModel" "laid" "I", .fieldLink RX3 25 "MapsByUseModel" "laidKeys" "[I", .fieldLink RX3 41 "MapsByUseModel" "pairs" "I", .fieldLink RX3 28 "MapsByUseModel" "laidValues" "[I", .methodLink RX3 48 yX3_at, .instanceMethod yX3_at, .selects RX3 yX3_at yX3_at, .initialized RX3, .code yX3_at cX3_at 2 (some .int), .fieldLink RX3 7 "MapsByUseModel" "keys" "[I", .methodLink RX3 44 yX3_find, .static yX3_find, .code yX3_find cX3_find 5 (some .int), .methodLink RX3 58 yX3_fails, .instanceMethod yX3_fails, .selects RX3 yX3_fails yX3_fails, .code yX3_fails cX3_fails 2 (some .boolean), .fieldLink RX3 38 "MapsByUseModel" "code" "I", .methodLink RX3 65 yX3_lays, .instanceMethod yX3_lays, .selects RX3 yX3_lays yX3_lays, .code yX3_lays cX3_lays 4 none, .fieldLink RX3 13 "MapsByUseModel" "values" "[I"] ++ wsX30)
def wsX3_size : List Cond := .code yX3_size cX3_size 1 (some .int) :: ([.fieldLink RX3 38 "MapsByUseModel" "code" "I", .fieldLink RX3 41 "MapsByUseModel" "pairs" "I"] ++ wsX30)
def wsX3_clear : List Cond := .code yX3_clear cX3_clear 2 (some .int) :: ([.fieldLink RX3 38 "MapsByUseModel" "code" "I", .fieldLink RX3 41 "MapsByUseModel" "pairs" "I"] ++ wsX30)
def wsX3_sumOfKeys : List Cond := .code yX3_sumOfKeys cX3_sumOfKeys 4 (some .long) :: ([.fieldLink RX3 38 "MapsByUseModel" "code" "I", .fieldLink RX3 41 "MapsByUseModel" "pairs" "I", .fieldLink RX3 7 "MapsByUseModel" "keys" "[I"] ++ wsX30)
def wsX3_sumOfValues : List Cond := .code yX3_sumOfValues cX3_sumOfValues 4 (some .long) :: ([.fieldLink RX3 38 "MapsByUseModel" "code" "I", .fieldLink RX3 41 "MapsByUseModel" "pairs" "I", .fieldLink RX3 13 "MapsByUseModel" "values" "[I"] ++ wsX30)
def wsX3_sum : List Cond := .code yX3_sum cX3_sum 4 (some .long) :: ([.fieldLink RX3 38 "MapsByUseModel" "code" "I", .fieldLink RX3 41 "MapsByUseModel" "pairs" "I", .constantLong RX3 84 (1000003), .fieldLink RX3 7 "MapsByUseModel" "keys" "[I", .fieldLink RX3 13 "MapsByUseModel" "values" "[I", .constantLong RX3 86 (7)] ++ wsX30)
def wsX3_count : List Cond := .code yX3_count cX3_count 3 (some .int) :: ([.fieldLink RX3 16 "MapsByUseModel" "told" "[I", .fieldLink RX3 88 "MapsByUseModel" "many" "I", .fieldLink RX3 19 "MapsByUseModel" "often" "[I", .methodLink RX3 44 yX3_find, .static yX3_find, .initialized RX3, .code yX3_find cX3_find 5 (some .int), .methodLink RX3 73 yX3_in, .static yX3_in, .code yX3_in cX3_in 3 (some .boolean), .methodLink RX3 58 yX3_fails, .instanceMethod yX3_fails, .selects RX3 yX3_fails yX3_fails, .code yX3_fails cX3_fails 2 (some .boolean), .fieldLink RX3 38 "MapsByUseModel" "code" "I"] ++ wsX30)
def wsX3_timesOf : List Cond := .code yX3_timesOf cX3_timesOf 3 (some .int) :: ([.fieldLink RX3 16 "MapsByUseModel" "told" "[I", .fieldLink RX3 88 "MapsByUseModel" "many" "I", .fieldLink RX3 19 "MapsByUseModel" "often" "[I", .methodLink RX3 44 yX3_find, .static yX3_find, .initialized RX3, .code yX3_find cX3_find 5 (some .int)] ++ wsX30)
def wsX3_times : List Cond := .code yX3_times cX3_times 2 (some .int) :: ([.methodLink RX3 73 yX3_in, .static yX3_in, .initialized RX3, .code yX3_in cX3_in 3 (some .boolean), .methodLink RX3 58 yX3_fails, .instanceMethod yX3_fails, .selects RX3 yX3_fails yX3_fails, .code yX3_fails cX3_fails 2 (some .boolean), .fieldLink RX3 38 "MapsByUseModel" "code" "I", .methodLink RX3 91 yX3_timesOf, .instanceMethod yX3_timesOf, .selects RX3 yX3_timesOf yX3_timesOf, .code yX3_timesOf cX3_timesOf 3 (some .int), .fieldLink RX3 16 "MapsByUseModel" "told" "[I", .fieldLink RX3 88 "MapsByUseModel" "many" "I", .fieldLink RX3 19 "MapsByUseModel" "often" "[I", .methodLink RX3 44 yX3_find, .static yX3_find, .code yX3_find cX3_find 5 (some .int)] ++ wsX30)
def wsX3_forget : List Cond := .code yX3_forget cX3_forget 4 (some .int) :: ([.fieldLink RX3 16 "MapsByUseModel" "told" "[I", .fieldLink RX3 88 "MapsByUseModel" "many" "I", .fieldLink RX3 19 "MapsByUseModel" "often" "[I", .methodLink RX3 73 yX3_in, .static yX3_in, .initialized RX3, .code yX3_in cX3_in 3 (some .boolean), .methodLink RX3 58 yX3_fails, .instanceMethod yX3_fails, .selects RX3 yX3_fails yX3_fails, .code yX3_fails cX3_fails 2 (some .boolean), .fieldLink RX3 38 "MapsByUseModel" "code" "I", .methodLink RX3 91 yX3_timesOf, .instanceMethod yX3_timesOf, .selects RX3 yX3_timesOf yX3_timesOf, .code yX3_timesOf cX3_timesOf 3 (some .int), .methodLink RX3 44 yX3_find, .static yX3_find, .code yX3_find cX3_find 5 (some .int)] ++ wsX30)
def wsX3_words : List Cond := .code yX3_words cX3_words 1 (some .int) :: ([.fieldLink RX3 38 "MapsByUseModel" "code" "I", .fieldLink RX3 88 "MapsByUseModel" "many" "I"] ++ wsX30)
def wsX3_mostOften : List Cond := .code yX3_mostOften cX3_mostOften 3 (some .int) :: ([.fieldLink RX3 88 "MapsByUseModel" "many" "I", .fieldLink RX3 19 "MapsByUseModel" "often" "[I", .fieldLink RX3 16 "MapsByUseModel" "told" "[I", .methodLink RX3 58 yX3_fails, .instanceMethod yX3_fails, .selects RX3 yX3_fails yX3_fails, .initialized RX3, .code yX3_fails cX3_fails 2 (some .boolean), .fieldLink RX3 38 "MapsByUseModel" "code" "I"] ++ wsX30)
def wsX3_markAt : List Cond := .code yX3_markAt cX3_markAt 2 (some .int) :: ([.fieldLink RX3 22 "MapsByUseModel" "marks" "[I", .fieldLink RX3 94 "MapsByUseModel" "markMany" "I", .methodLink RX3 44 yX3_find, .static yX3_find, .initialized RX3, .code yX3_find cX3_find 5 (some .int)] ++ wsX30)
def wsX3_marks : List Cond := .code yX3_marks cX3_marks 2 none :: ([.fieldLink RX3 22 "MapsByUseModel" "marks" "[I", .fieldLink RX3 94 "MapsByUseModel" "markMany" "I", .methodLink RX3 97 yX3_markAt, .instanceMethod yX3_markAt, .selects RX3 yX3_markAt yX3_markAt, .initialized RX3, .code yX3_markAt cX3_markAt 2 (some .int), .methodLink RX3 44 yX3_find, .static yX3_find, .code yX3_find cX3_find 5 (some .int)] ++ wsX30)
def wsX3_unmarks : List Cond := .code yX3_unmarks cX3_unmarks 2 none :: ([.fieldLink RX3 94 "MapsByUseModel" "markMany" "I", .fieldLink RX3 22 "MapsByUseModel" "marks" "[I"] ++ wsX30)
def wsX3_mark : List Cond := .code yX3_mark cX3_mark 3 (some .boolean) :: ([.fieldLink RX3 94 "MapsByUseModel" "markMany" "I", .methodLink RX3 97 yX3_markAt, .instanceMethod yX3_markAt, .selects RX3 yX3_markAt yX3_markAt, .initialized RX3, .code yX3_markAt cX3_markAt 2 (some .int), .fieldLink RX3 22 "MapsByUseModel" "marks" "[I", .methodLink RX3 44 yX3_find, .static yX3_find, .code yX3_find cX3_find 5 (some .int), .methodLink RX3 58 yX3_fails, .instanceMethod yX3_fails, .selects RX3 yX3_fails yX3_fails, .code yX3_fails cX3_fails 2 (some .boolean), .fieldLink RX3 38 "MapsByUseModel" "code" "I", .methodLink RX3 100 yX3_marks, .instanceMethod yX3_marks, .selects RX3 yX3_marks yX3_marks, .code yX3_marks cX3_marks 2 none] ++ wsX30)
def wsX3_unmark : List Cond := .code yX3_unmark cX3_unmark 3 (some .boolean) :: ([.fieldLink RX3 38 "MapsByUseModel" "code" "I", .methodLink RX3 97 yX3_markAt, .instanceMethod yX3_markAt, .selects RX3 yX3_markAt yX3_markAt, .initialized RX3, .code yX3_markAt cX3_markAt 2 (some .int), .fieldLink RX3 22 "MapsByUseModel" "marks" "[I", .fieldLink RX3 94 "MapsByUseModel" "markMany" "I", .methodLink RX3 44 yX3_find, .static yX3_find, .code yX3_find cX3_find 5 (some .int), .methodLink RX3 102 yX3_unmarks, .instanceMethod yX3_unmarks, .selects RX3 yX3_unmarks yX3_unmarks, .code yX3_unmarks cX3_unmarks 2 none] ++ wsX30)
def wsX3_isMarked : List Cond := .code yX3_isMarked cX3_isMarked 2 (some .boolean) :: ([.fieldLink RX3 38 "MapsByUseModel" "code" "I", .methodLink RX3 97 yX3_markAt, .instanceMethod yX3_markAt, .selects RX3 yX3_markAt yX3_markAt, .initialized RX3, .code yX3_markAt cX3_markAt 2 (some .int), .fieldLink RX3 22 "MapsByUseModel" "marks" "[I", .fieldLink RX3 94 "MapsByUseModel" "markMany" "I", .methodLink RX3 44 yX3_find, .static yX3_find, .code yX3_find cX3_find 5 (some .int)] ++ wsX30)
def wsX3_marked : List Cond := .code yX3_marked cX3_marked 1 (some .int) :: ([.fieldLink RX3 38 "MapsByUseModel" "code" "I", .fieldLink RX3 94 "MapsByUseModel" "markMany" "I"] ++ wsX30)
def wsX3_markKeys : List Cond := .code yX3_markKeys cX3_markKeys 3 (some .int) :: ([.fieldLink RX3 41 "MapsByUseModel" "pairs" "I", .fieldLink RX3 7 "MapsByUseModel" "keys" "[I", .fieldLink RX3 94 "MapsByUseModel" "markMany" "I", .methodLink RX3 97 yX3_markAt, .instanceMethod yX3_markAt, .selects RX3 yX3_markAt yX3_markAt, .initialized RX3, .code yX3_markAt cX3_markAt 2 (some .int), .fieldLink RX3 22 "MapsByUseModel" "marks" "[I", .methodLink RX3 44 yX3_find, .static yX3_find, .code yX3_find cX3_find 5 (some .int), .methodLink RX3 58 yX3_fails, .instanceMethod yX3_fails, .selects RX3 yX3_fails yX3_fails, .code yX3_fails cX3_fails 2 (some .boolean), .fieldLink RX3 38 "MapsByUseModel" "code" "I", .methodLink RX3 100 yX3_marks, .instanceMethod yX3_marks, .selects RX3 yX3_marks yX3_marks, .code yX3_marks cX3_marks 2 none] ++ wsX30)
def wsX3_unmarkOthers : List Cond := .code yX3_unmarkOthers cX3_unmarkOthers 3 (some .int) :: ([.fieldLink RX3 38 "MapsByUseModel" "code" "I", .fieldLink RX3 94 "MapsByUseModel" "markMany" "I", .fieldLink RX3 22 "MapsByUseModel" "marks" "[I", .methodLink RX3 48 yX3_at, .instanceMethod yX3_at, .selects RX3 yX3_at yX3_at, .initialized RX3, .code yX3_at cX3_at 2 (some .int), .fieldLink RX3 7 "MapsByUseModel" "keys" "[I", .fieldLink RX3 41 "MapsByUseModel" "pairs" "I", .methodLink RX3 44 yX3_find, .static yX3_find, .code yX3_find cX3_find 5 (some .int), .methodLink RX3 102 yX3_unmarks, .instanceMethod yX3_unmarks, .selects RX3 yX3_unmarks yX3_unmarks, .code yX3_unmarks cX3_unmarks 2 none] ++ wsX30)
def wsX3_dropMarked : List Cond := .code yX3_dropMarked cX3_dropMarked 3 (some .int) :: ([.fieldLink RX3 38 "MapsByUseModel" "code" "I", .fieldLink RX3 41 "MapsByUseModel" "pairs" "I", .fieldLink RX3 7 "MapsByUseModel" "keys" "[I", .methodLink RX3 97 yX3_markAt, .instanceMethod yX3_markAt, .selects RX3 yX3_markAt yX3_markAt, .initialized RX3, .code yX3_markAt cX3_markAt 2 (some .int), .fieldLink RX3 22 "MapsByUseModel" "marks" "[I", .fieldLink RX3 94 "MapsByUseModel" "markMany" "I", .methodLink RX3 44 yX3_find, .static yX3_find, .code yX3_find cX3_find 5 (some .int), .methodLink RX3 69 yX3_drops, .instanceMethod yX3_drops, .selects RX3 yX3_drops yX3_drops, .code yX3_drops cX3_drops 2 none, .fieldLink RX3 13 "MapsByUseModel" "values" "[I"] ++ wsX30)
def wsX3_shelfAt : List Cond := .code yX3_shelfAt cX3_shelfAt 2 (some .int) :: ([.fieldLink RX3 25 "MapsByUseModel" "laidKeys" "[I", .fieldLink RX3 81 "MapsByUseModel" "laid" "I", .methodLink RX3 44 yX3_find, .static yX3_find, .initialized RX3, .code yX3_find cX3_find 5 (some .int)] ++ wsX30)
def wsX3_onShelf : List Cond := .code yX3_onShelf cX3_onShelf 2 (some .long) :: ([.constantLong RX3 52 (4294967296), .fieldLink RX3 28 "MapsByUseModel" "laidValues" "[I", .methodLink RX3 105 yX3_shelfAt, .instanceMethod yX3_shelfAt, .selects RX3 yX3_shelfAt yX3_shelfAt, .initialized RX3, .code yX3_shelfAt cX3_shelfAt 2 (some .int), .fieldLink RX3 25 "MapsByUseModel" "laidKeys" "[I", .fieldLink RX3 81 "MapsByUseModel" "laid" "I", .methodLink RX3 44 yX3_find, .static yX3_find, .code yX3_find cX3_find 5 (some .int)] ++ wsX30)
def wsX3_takes : List Cond := .code yX3_takes cX3_takes 2 none :: ([.fieldLink RX3 81 "MapsByUseModel" "laid" "I", .fieldLink RX3 25 "MapsByUseModel" "laidKeys" "[I", .fieldLink RX3 28 "MapsByUseModel" "laidValues" "[I", .fieldLink RX3 31 "MapsByUseModel" "laidUses" "[I"] ++ wsX30)
def wsX3_inPlace : List Cond := .code yX3_inPlace cX3_inPlace 6 (some .int) :: ([.fieldLink RX3 81 "MapsByUseModel" "laid" "I", .fieldLink RX3 31 "MapsByUseModel" "laidUses" "[I"] ++ wsX30)
def wsX3_uses : List Cond := .code yX3_uses cX3_uses 2 none :: ([.fieldLink RX3 108 "MapsByUseModel" "uses" "I", .fieldLink RX3 31 "MapsByUseModel" "laidUses" "[I"] ++ wsX30)
def wsX3_crowded : List Cond := .code yX3_crowded cX3_crowded 2 (some .int) :: ([.fieldLink RX3 81 "MapsByUseModel" "laid" "I", .fieldLink RX3 34 "MapsByUseModel" "room" "I", .fieldLink RX3 117 "MapsByUseModel" "away" "I", .methodLink RX3 111 yX3_inPlace, .instanceMethod yX3_inPlace, .selects RX3 yX3_inPlace yX3_inPlace, .initialized RX3, .code yX3_inPlace cX3_inPlace 6 (some .int), .fieldLink RX3 31 "MapsByUseModel" "laidUses" "[I", .methodLink RX3 114 yX3_takes, .instanceMethod yX3_takes, .selects RX3 yX3_takes yX3_takes, .code yX3_takes cX3_takes 2 none, .fieldLink RX3 25 "MapsByUseModel" "laidKeys" "[I", .fieldLink RX3 28 "MapsByUseModel" "laidValues" "[I"] ++ wsX30)
def wsX3_laysOn_r1 : List Cond := [Cond.fieldLink RX3 81 "MapsByUseModel" "laid" "I", Cond.fieldLink RX3 25 "MapsByUseModel" "laidKeys" "[I", Cond.fieldLink RX3 28 "MapsByUseModel" "laidValues" "[I", Cond.methodLink RX3 105 yX3_shelfAt, Cond.instanceMethod yX3_shelfAt, Cond.selects RX3 yX3_shelfAt yX3_shelfAt, Cond.initialized RX3, Cond.code yX3_shelfAt cX3_shelfAt 2 (some .int), Cond.methodLink RX3 44 yX3_find, Cond.static yX3_find, Cond.code yX3_find cX3_find 5 (some .int), Cond.methodLink RX3 120 yX3_uses, Cond.instanceMethod yX3_uses, Cond.selects RX3 yX3_uses yX3_uses, Cond.code yX3_uses cX3_uses 2 none, Cond.fieldLink RX3 108 "MapsByUseModel" "uses" "I", Cond.fieldLink RX3 31 "MapsByUseModel" "laidUses" "[I", Cond.methodLink RX3 122 yX3_crowded, Cond.instanceMethod yX3_crowded, Cond.selects RX3 yX3_crowded yX3_crowded, Cond.code yX3_crowded cX3_crowded 2 (some .int), Cond.fieldLink RX3 34 "MapsByUseModel" "room" "I", Cond.fieldLink RX3 117 "MapsByUseModel" "away" "I", Cond.methodLink RX3 111 yX3_inPlace]
def wsX3_laysOn_r2 : List Cond := [Cond.instanceMethod yX3_inPlace, Cond.selects RX3 yX3_inPlace yX3_inPlace, Cond.code yX3_inPlace cX3_inPlace 6 (some .int), Cond.methodLink RX3 114 yX3_takes, Cond.instanceMethod yX3_takes, Cond.selects RX3 yX3_takes yX3_takes, Cond.code yX3_takes cX3_takes 2 none]
def wsX3_laysOn : List Cond := .code yX3_laysOn cX3_laysOn 5 none :: ((wsX3_laysOn_r1 ++ wsX3_laysOn_r2) ++ wsX30)
def wsX3_room_r1 : List Cond := [Cond.fieldLink RX3 34 "MapsByUseModel" "room" "I", Cond.methodLink RX3 73 yX3_in, Cond.static yX3_in, Cond.initialized RX3, Cond.code yX3_in cX3_in 3 (some .boolean), Cond.methodLink RX3 58 yX3_fails, Cond.instanceMethod yX3_fails, Cond.selects RX3 yX3_fails yX3_fails, Cond.code yX3_fails cX3_fails 2 (some .boolean), Cond.fieldLink RX3 38 "MapsByUseModel" "code" "I", Cond.methodLink RX3 122 yX3_crowded, Cond.instanceMethod yX3_crowded, Cond.selects RX3 yX3_crowded yX3_crowded, Cond.code yX3_crowded cX3_crowded 2 (some .int), Cond.fieldLink RX3 81 "MapsByUseModel" "laid" "I", Cond.fieldLink RX3 117 "MapsByUseModel" "away" "I", Cond.methodLink RX3 111 yX3_inPlace, Cond.instanceMethod yX3_inPlace, Cond.selects RX3 yX3_inPlace yX3_inPlace, Cond.code yX3_inPlace cX3_inPlace 6 (some .int), Cond.fieldLink RX3 31 "MapsByUseModel" "laidUses" "[I", Cond.methodLink RX3 114 yX3_takes, Cond.instanceMethod yX3_takes, Cond.selects RX3 yX3_takes yX3_takes]
def wsX3_room_r2 : List Cond := [Cond.code yX3_takes cX3_takes 2 none, Cond.fieldLink RX3 25 "MapsByUseModel" "laidKeys" "[I", Cond.fieldLink RX3 28 "MapsByUseModel" "laidValues" "[I"]
def wsX3_room : List Cond := .code yX3_room cX3_room 2 (some .int) :: ((wsX3_room_r1 ++ wsX3_room_r2) ++ wsX30)
def wsX3_lay_r1 : List Cond := [Cond.fieldLink RX3 38 "MapsByUseModel" "code" "I", Cond.methodLink RX3 126 yX3_onShelf, Cond.instanceMethod yX3_onShelf, Cond.selects RX3 yX3_onShelf yX3_onShelf, Cond.initialized RX3, Cond.code yX3_onShelf cX3_onShelf 2 (some .long), Cond.constantLong RX3 52 (4294967296), Cond.fieldLink RX3 28 "MapsByUseModel" "laidValues" "[I", Cond.methodLink RX3 105 yX3_shelfAt, Cond.instanceMethod yX3_shelfAt, Cond.selects RX3 yX3_shelfAt yX3_shelfAt, Cond.code yX3_shelfAt cX3_shelfAt 2 (some .int), Cond.fieldLink RX3 25 "MapsByUseModel" "laidKeys" "[I", Cond.fieldLink RX3 81 "MapsByUseModel" "laid" "I", Cond.methodLink RX3 44 yX3_find, Cond.static yX3_find, Cond.code yX3_find cX3_find 5 (some .int), Cond.methodLink RX3 129 yX3_laysOn, Cond.instanceMethod yX3_laysOn, Cond.selects RX3 yX3_laysOn yX3_laysOn, Cond.code yX3_laysOn cX3_laysOn 5 none, Cond.methodLink RX3 120 yX3_uses, Cond.instanceMethod yX3_uses, Cond.selects RX3 yX3_uses yX3_uses]
def wsX3_lay_r2 : List Cond := [Cond.code yX3_uses cX3_uses 2 none, Cond.fieldLink RX3 108 "MapsByUseModel" "uses" "I", Cond.fieldLink RX3 31 "MapsByUseModel" "laidUses" "[I", Cond.methodLink RX3 122 yX3_crowded, Cond.instanceMethod yX3_crowded, Cond.selects RX3 yX3_crowded yX3_crowded, Cond.code yX3_crowded cX3_crowded 2 (some .int), Cond.fieldLink RX3 34 "MapsByUseModel" "room" "I", Cond.fieldLink RX3 117 "MapsByUseModel" "away" "I", Cond.methodLink RX3 111 yX3_inPlace, Cond.instanceMethod yX3_inPlace, Cond.selects RX3 yX3_inPlace yX3_inPlace, Cond.code yX3_inPlace cX3_inPlace 6 (some .int), Cond.methodLink RX3 114 yX3_takes, Cond.instanceMethod yX3_takes, Cond.selects RX3 yX3_takes yX3_takes, Cond.code yX3_takes cX3_takes 2 none]
def wsX3_lay : List Cond := .code yX3_lay cX3_lay 5 (some .long) :: ((wsX3_lay_r1 ++ wsX3_lay_r2) ++ wsX30)
def wsX3_layIfAbsent_r1 : List Cond := [Cond.fieldLink RX3 38 "MapsByUseModel" "code" "I", Cond.constantLong RX3 52 (4294967296), Cond.methodLink RX3 126 yX3_onShelf, Cond.instanceMethod yX3_onShelf, Cond.selects RX3 yX3_onShelf yX3_onShelf, Cond.initialized RX3, Cond.code yX3_onShelf cX3_onShelf 2 (some .long), Cond.fieldLink RX3 28 "MapsByUseModel" "laidValues" "[I", Cond.methodLink RX3 105 yX3_shelfAt, Cond.instanceMethod yX3_shelfAt, Cond.selects RX3 yX3_shelfAt yX3_shelfAt, Cond.code yX3_shelfAt cX3_shelfAt 2 (some .int), Cond.fieldLink RX3 25 "MapsByUseModel" "laidKeys" "[I", Cond.fieldLink RX3 81 "MapsByUseModel" "laid" "I", Cond.methodLink RX3 44 yX3_find, Cond.static yX3_find, Cond.code yX3_find cX3_find 5 (some .int), Cond.methodLink RX3 129 yX3_laysOn, Cond.instanceMethod yX3_laysOn, Cond.selects RX3 yX3_laysOn yX3_laysOn, Cond.code yX3_laysOn cX3_laysOn 5 none, Cond.methodLink RX3 120 yX3_uses, Cond.instanceMethod yX3_uses, Cond.selects RX3 yX3_uses yX3_uses]
def wsX3_layIfAbsent_r2 : List Cond := [Cond.code yX3_uses cX3_uses 2 none, Cond.fieldLink RX3 108 "MapsByUseModel" "uses" "I", Cond.fieldLink RX3 31 "MapsByUseModel" "laidUses" "[I", Cond.methodLink RX3 122 yX3_crowded, Cond.instanceMethod yX3_crowded, Cond.selects RX3 yX3_crowded yX3_crowded, Cond.code yX3_crowded cX3_crowded 2 (some .int), Cond.fieldLink RX3 34 "MapsByUseModel" "room" "I", Cond.fieldLink RX3 117 "MapsByUseModel" "away" "I", Cond.methodLink RX3 111 yX3_inPlace, Cond.instanceMethod yX3_inPlace, Cond.selects RX3 yX3_inPlace yX3_inPlace, Cond.code yX3_inPlace cX3_inPlace 6 (some .int), Cond.methodLink RX3 114 yX3_takes, Cond.instanceMethod yX3_takes, Cond.selects RX3 yX3_takes yX3_takes, Cond.code yX3_takes cX3_takes 2 none]
def wsX3_layIfAbsent : List Cond := .code yX3_layIfAbsent cX3_layIfAbsent 5 (some .long) :: ((wsX3_layIfAbsent_r1 ++ wsX3_layIfAbsent_r2) ++ wsX30)
def wsX3_use : List Cond := .code yX3_use cX3_use 2 (some .long) :: ([.fieldLink RX3 38 "MapsByUseModel" "code" "I", .methodLink RX3 105 yX3_shelfAt, .instanceMethod yX3_shelfAt, .selects RX3 yX3_shelfAt yX3_shelfAt, .initialized RX3, .code yX3_shelfAt cX3_shelfAt 2 (some .int), .fieldLink RX3 25 "MapsByUseModel" "laidKeys" "[I", .fieldLink RX3 81 "MapsByUseModel" "laid" "I", .methodLink RX3 44 yX3_find, .static yX3_find, .code yX3_find cX3_find 5 (some .int), .methodLink RX3 120 yX3_uses, .instanceMethod yX3_uses, .selects RX3 yX3_uses yX3_uses, .code yX3_uses cX3_uses 2 none, .fieldLink RX3 108 "MapsByUseModel" "uses" "I", .fieldLink RX3 31 "MapsByUseModel" "laidUses" "[I", .methodLink RX3 126 yX3_onShelf, .instanceMethod yX3_onShelf, .selects RX3 yX3_onShelf yX3_onShelf, .code yX3_onShelf cX3_onShelf 2 (some .long), .constantLong RX3 52 (4294967296), .fieldLink RX3 28 "MapsByUseModel" "laidValues" "[I"] ++ wsX30)
def wsX3_useOrDefault : List Cond := .code yX3_useOrDefault cX3_useOrDefault 3 (some .int) :: ([.fieldLink RX3 38 "MapsByUseModel" "code" "I", .methodLink RX3 105 yX3_shelfAt, .instanceMethod yX3_shelfAt, .selects RX3 yX3_shelfAt yX3_shelfAt, .initialized RX3, .code yX3_shelfAt cX3_shelfAt 2 (some .int), .fieldLink RX3 25 "MapsByUseModel" "laidKeys" "[I", .fieldLink RX3 81 "MapsByUseModel" "laid" "I", .methodLink RX3 44 yX3_find, .static yX3_find, .code yX3_find cX3_find 5 (some .int), .methodLink RX3 120 yX3_uses, .instanceMethod yX3_uses, .selects RX3 yX3_uses yX3_uses, .code yX3_uses cX3_uses 2 none, .fieldLink RX3 108 "MapsByUseModel" "uses" "I", .fieldLink RX3 31 "MapsByUseModel" "laidUses" "[I", .methodLink RX3 126 yX3_onShelf, .instanceMethod yX3_onShelf, .selects RX3 yX3_onShelf yX3_onShelf, .code yX3_onShelf cX3_onShelf 2 (some .long), .constantLong RX3 52 (4294967296), .fieldLink RX3 28 "MapsByUseModel" "laidValues" "[I"] ++ wsX30)
def wsX3_look : List Cond := .code yX3_look cX3_look 2 (some .boolean) :: ([.fieldLink RX3 38 "MapsByUseModel" "code" "I", .methodLink RX3 105 yX3_shelfAt, .instanceMethod yX3_shelfAt, .selects RX3 yX3_shelfAt yX3_shelfAt, .initialized RX3, .code yX3_shelfAt cX3_shelfAt 2 (some .int), .fieldLink RX3 25 "MapsByUseModel" "laidKeys" "[I", .fieldLink RX3 81 "MapsByUseModel" "laid" "I", .methodLink RX3 44 yX3_find, .static yX3_find, .code yX3_find cX3_find 5 (some .int)] ++ wsX30)
def wsX3_take : List Cond := .code yX3_take cX3_take 4 (some .long) :: ([.fieldLink RX3 38 "MapsByUseModel" "code" "I", .constantLong RX3 52 (4294967296), .methodLink RX3 126 yX3_onShelf, .instanceMethod yX3_onShelf, .selects RX3 yX3_onShelf yX3_onShelf, .initialized RX3, .code yX3_onShelf cX3_onShelf 2 (some .long), .fieldLink RX3 28 "MapsByUseModel" "laidValues" "[I", .methodLink RX3 105 yX3_shelfAt, .instanceMethod yX3_shelfAt, .selects RX3 yX3_shelfAt yX3_shelfAt, .code yX3_shelfAt cX3_shelfAt 2 (some .int), .fieldLink RX3 25 "MapsByUseModel" "laidKeys" "[I", .fieldLink RX3 81 "MapsByUseModel" "laid" "I", .methodLink RX3 44 yX3_find, .static yX3_find, .code yX3_find cX3_find 5 (some .int), .methodLink RX3 114 yX3_takes, .instanceMethod yX3_takes, .selects RX3 yX3_takes yX3_takes, .code yX3_takes cX3_takes 2 none, .fieldLink RX3 31 "MapsByUseModel" "laidUses" "[I"] ++ wsX30)
def wsX3_keyAt : List Cond := .code yX3_keyAt cX3_keyAt 2 (some .int) :: ([.fieldLink RX3 81 "MapsByUseModel" "laid" "I", .fieldLink RX3 25 "MapsByUseModel" "laidKeys" "[I", .methodLink RX3 73 yX3_in, .static yX3_in, .initialized RX3, .code yX3_in cX3_in 3 (some .boolean), .methodLink RX3 58 yX3_fails, .instanceMethod yX3_fails, .selects RX3 yX3_fails yX3_fails, .code yX3_fails cX3_fails 2 (some .boolean), .fieldLink RX3 38 "MapsByUseModel" "code" "I", .methodLink RX3 111 yX3_inPlace, .instanceMethod yX3_inPlace, .selects RX3 yX3_inPlace yX3_inPlace, .code yX3_inPlace cX3_inPlace 6 (some .int), .fieldLink RX3 31 "MapsByUseModel" "laidUses" "[I"] ++ wsX30)
def wsX3_valueAt : List Cond := .code yX3_valueAt cX3_valueAt 2 (some .int) :: ([.fieldLink RX3 81 "MapsByUseModel" "laid" "I", .fieldLink RX3 28 "MapsByUseModel" "laidValues" "[I", .methodLink RX3 73 yX3_in, .static yX3_in, .initialized RX3, .code yX3_in cX3_in 3 (some .boolean), .methodLink RX3 58 yX3_fails, .instanceMethod yX3_fails, .selects RX3 yX3_fails yX3_fails, .code yX3_fails cX3_fails 2 (some .boolean), .fieldLink RX3 38 "MapsByUseModel" "code" "I", .methodLink RX3 111 yX3_inPlace, .instanceMethod yX3_inPlace, .selects RX3 yX3_inPlace yX3_inPlace, .code yX3_inPlace cX3_inPlace 6 (some .int), .fieldLink RX3 31 "MapsByUseModel" "laidUses" "[I"] ++ wsX30)
def wsX3_usedAt : List Cond := .code yX3_usedAt cX3_usedAt 2 (some .int) :: ([.fieldLink RX3 38 "MapsByUseModel" "code" "I", .fieldLink RX3 31 "MapsByUseModel" "laidUses" "[I", .methodLink RX3 105 yX3_shelfAt, .instanceMethod yX3_shelfAt, .selects RX3 yX3_shelfAt yX3_shelfAt, .initialized RX3, .code yX3_shelfAt cX3_shelfAt 2 (some .int), .fieldLink RX3 25 "MapsByUseModel" "laidKeys" "[I", .fieldLink RX3 81 "MapsByUseModel" "laid" "I", .methodLink RX3 44 yX3_find, .static yX3_find, .code yX3_find cX3_find 5 (some .int)] ++ wsX30)
def wsX3_length : List Cond := .code yX3_length cX3_length 1 (some .int) :: ([.fieldLink RX3 38 "MapsByUseModel" "code" "I", .fieldLink RX3 81 "MapsByUseModel" "laid" "I"] ++ wsX30)
def wsX3_wipe : List Cond := .code yX3_wipe cX3_wipe 2 (some .int) :: ([.fieldLink RX3 38 "MapsByUseModel" "code" "I", .fieldLink RX3 81 "MapsByUseModel" "laid" "I"] ++ wsX30)
def wsX3_dropped : List Cond := .code yX3_dropped cX3_dropped 1 (some .int) :: ([.fieldLink RX3 38 "MapsByUseModel" "code" "I", .fieldLink RX3 117 "MapsByUseModel" "away" "I"] ++ wsX30)
def wsX3_walk : List Cond := .code yX3_walk cX3_walk 4 (some .long) :: ([.fieldLink RX3 38 "MapsByUseModel" "code" "I", .constantLong RX3 86 (7), .fieldLink RX3 81 "MapsByUseModel" "laid" "I", .constantLong RX3 132 (31), .fieldLink RX3 25 "MapsByUseModel" "laidKeys" "[I", .fieldLink RX3 28 "MapsByUseModel" "laidValues" "[I", .methodLink RX3 111 yX3_inPlace, .instanceMethod yX3_inPlace, .selects RX3 yX3_inPlace yX3_inPlace, .initialized RX3, .code yX3_inPlace cX3_inPlace 6 (some .int), .fieldLink RX3 31 "MapsByUseModel" "laidUses" "[I"] ++ wsX30)
def wsX3_isTrue : List Cond := .code yX3_isTrue cX3_isTrue 1 (some .boolean) :: ([.fieldLink RX3 38 "MapsByUseModel" "code" "I", .fieldLink RX3 81 "MapsByUseModel" "laid" "I", .fieldLink RX3 34 "MapsByUseModel" "room" "I"] ++ wsX30)
theorem dX3_init_0 : decode cX3_init 0 = .ok (.aload_n 0, 1) := by decide +kernel
theorem dX3_init_1 : decode cX3_init 1 = .ok (.invokespecial 1, 3) := by decide +kernel
theorem dX3_init_4 : decode cX3_init 4 = .ok (.aload_n 0, 1) := by decide +kernel
theorem dX3_init_5 : decode cX3_init 5 = .ok (.sipush 200, 3) := by decide +kernel
theorem dX3_init_8 : decode cX3_init 8 = .ok (.newarray .int, 2) := by decide +kernel
theorem dX3_init_10 : decode cX3_init 10 = .ok (.putfield 7, 3) := by decide +kernel
theorem dX3_init_13 : decode cX3_init 13 = .ok (.aload_n 0, 1) := by decide +kernel
theorem dX3_init_14 : decode cX3_init 14 = .ok (.sipush 200, 3) := by decide +kernel
theorem dX3_init_17 : decode cX3_init 17 = .ok (.newarray .int, 2) := by decide +kernel
theorem dX3_init_19 : decode cX3_init 19 = .ok (.putfield 13, 3) := by decide +kernel
theorem dX3_init_22 : decode cX3_init 22 = .ok (.aload_n 0, 1) := by decide +kernel
theorem dX3_init_23 : decode cX3_init 23 = .ok (.sipush 200, 3) := by decide +kernel
theorem dX3_init_26 : decode cX3_init 26 = .ok (.newarray .int, 2) := by decide +kernel
theorem dX3_init_28 : decode cX3_init 28 = .ok (.putfield 16, 3) := by decide +kernel
theorem dX3_init_31 : decode cX3_init 31 = .ok (.aload_n 0, 1) := by decide +kernel
theorem dX3_init_32 : decode cX3_init 32 = .ok (.sipush 200, 3) := by decide +kernel
theorem dX3_init_35 : decode cX3_init 35 = .ok (.newarray .int, 2) := by decide +kernel
theorem dX3_init_37 : decode cX3_init 37 = .ok (.putfield 19, 3) := by decide +kernel
theorem dX3_init_40 : decode cX3_init 40 = .ok (.aload_n 0, 1) := by decide +kernel
theorem dX3_init_41 : decode cX3_init 41 = .ok (.sipush 200, 3) := by decide +kernel
theorem dX3_init_44 : decode cX3_init 44 = .ok (.newarray .int, 2) := by decide +kernel
theorem dX3_init_46 : decode cX3_init 46 = .ok (.putfield 22, 3) := by decide +kernel
theorem dX3_init_49 : decode cX3_init 49 = .ok (.aload_n 0, 1) := by decide +kernel
theorem dX3_init_50 : decode cX3_init 50 = .ok (.bipush 61, 2) := by decide +kernel
theorem dX3_init_52 : decode cX3_init 52 = .ok (.newarray .int, 2) := by decide +kernel
theorem dX3_init_54 : decode cX3_init 54 = .ok (.putfield 25, 3) := by decide +kernel
theorem dX3_init_57 : decode cX3_init 57 = .ok (.aload_n 0, 1) := by decide +kernel
theorem dX3_init_58 : decode cX3_init 58 = .ok (.bipush 61, 2) := by decide +kernel
theorem dX3_init_60 : decode cX3_init 60 = .ok (.newarray .int, 2) := by decide +kernel
theorem dX3_init_62 : decode cX3_init 62 = .ok (.putfield 28, 3) := by decide +kernel
theorem dX3_init_65 : decode cX3_init 65 = .ok (.aload_n 0, 1) := by decide +kernel
theorem dX3_init_66 : decode cX3_init 66 = .ok (.bipush 61, 2) := by decide +kernel
theorem dX3_init_68 : decode cX3_init 68 = .ok (.newarray .int, 2) := by decide +kernel
theorem dX3_init_70 : decode cX3_init 70 = .ok (.putfield 31, 3) := by decide +kernel
theorem dX3_init_73 : decode cX3_init 73 = .ok (.aload_n 0, 1) := by decide +kernel
theorem dX3_init_74 : decode cX3_init 74 = .ok (.iconst 4, 1) := by decide +kernel
theorem dX3_init_75 : decode cX3_init 75 = .ok (.putfield 34, 3) := by decide +kernel
theorem dX3_init_78 : decode cX3_init 78 = .ok (.return_, 1) := by decide +kernel
theorem dX3_thrown_0 : decode cX3_thrown 0 = .ok (.aload_n 0, 1) := by decide +kernel
theorem dX3_thrown_1 : decode cX3_thrown 1 = .ok (.getfield 38, 3) := by decide +kernel
theorem dX3_thrown_4 : decode cX3_thrown 4 = .ok (.ireturn, 1) := by decide +kernel
theorem dX3_fails_0 : decode cX3_fails 0 = .ok (.aload_n 0, 1) := by decide +kernel
theorem dX3_fails_1 : decode cX3_fails 1 = .ok (.iload_n 1, 1) := by decide +kernel
theorem dX3_fails_2 : decode cX3_fails 2 = .ok (.putfield 38, 3) := by decide +kernel
theorem dX3_fails_5 : decode cX3_fails 5 = .ok (.iload_n 1, 1) := by decide +kernel
theorem dX3_fails_6 : decode cX3_fails 6 = .ok (.ifCond .le 7, 3) := by decide +kernel
theorem dX3_fails_9 : decode cX3_fails 9 = .ok (.iconst 1, 1) := by decide +kernel
theorem dX3_fails_10 : decode cX3_fails 10 = .ok (.goto 4, 3) := by decide +kernel
theorem dX3_fails_13 : decode cX3_fails 13 = .ok (.iconst 0, 1) := by decide +kernel
theorem dX3_fails_14 : decode cX3_fails 14 = .ok (.ireturn, 1) := by decide +kernel
theorem dX3_in_0 : decode cX3_in 0 = .ok (.iload_n 0, 1) := by decide +kernel
theorem dX3_in_1 : decode cX3_in 1 = .ok (.iload_n 1, 1) := by decide +kernel
theorem dX3_in_2 : decode cX3_in 2 = .ok (.if_icmp .lt 12, 3) := by decide +kernel
theorem dX3_in_5 : decode cX3_in 5 = .ok (.iload_n 0, 1) := by decide +kernel
theorem dX3_in_6 : decode cX3_in 6 = .ok (.iload_n 2, 1) := by decide +kernel
theorem dX3_in_7 : decode cX3_in 7 = .ok (.if_icmp .gt 7, 3) := by decide +kernel
theorem dX3_in_10 : decode cX3_in 10 = .ok (.iconst 1, 1) := by decide +kernel
theorem dX3_in_11 : decode cX3_in 11 = .ok (.goto 4, 3) := by decide +kernel
theorem dX3_in_14 : decode cX3_in 14 = .ok (.iconst 0, 1) := by decide +kernel
theorem dX3_in_15 : decode cX3_in 15 = .ok (.ireturn, 1) := by decide +kernel
theorem dX3_find_0 : decode cX3_find 0 = .ok (.iconst (-1), 1) := by decide +kernel
theorem dX3_find_1 : decode cX3_find 1 = .ok (.istore_n 3, 1) := by decide +kernel
theorem dX3_find_2 : decode cX3_find 2 = .ok (.iconst 0, 1) := by decide +kernel
theorem dX3_find_3 : decode cX3_find 3 = .ok (.istore 4, 2) := by decide +kernel
theorem dX3_find_5 : decode cX3_find 5 = .ok (.iload 4, 2) := by decide +kernel
theorem dX3_find_7 : decode cX3_find 7 = .ok (.iload_n 1, 1) := by decide +kernel
theorem dX3_find_8 : decode cX3_find 8 = .ok (.if_icmp .ge 24, 3) := by decide +kernel
theorem dX3_find_11 : decode cX3_find 11 = .ok (.aload_n 0, 1) := by decide +kernel
theorem dX3_find_12 : decode cX3_find 12 = .ok (.iload 4, 2) := by decide +kernel
theorem dX3_find_14 : decode cX3_find 14 = .ok (.iaload, 1) := by decide +kernel
theorem dX3_find_15 : decode cX3_find 15 = .ok (.iload_n 2, 1) := by decide +kernel
theorem dX3_find_16 : decode cX3_find 16 = .ok (.if_icmp .ne 8, 3) := by decide +kernel
theorem dX3_find_19 : decode cX3_find 19 = .ok (.iload 4, 2) := by decide +kernel
theorem dX3_find_21 : decode cX3_find 21 = .ok (.goto 4, 3) := by decide +kernel
theorem dX3_find_24 : decode cX3_find 24 = .ok (.iload_n 3, 1) := by decide +kernel
theorem dX3_find_25 : decode cX3_find 25 = .ok (.istore_n 3, 1) := by decide +kernel
theorem dX3_find_26 : decode cX3_find 26 = .ok (.iinc 4 1, 3) := by decide +kernel
theorem dX3_find_29 : decode cX3_find 29 = .ok (.goto (-24), 3) := by decide +kernel
theorem dX3_find_32 : decode cX3_find 32 = .ok (.iload_n 3, 1) := by decide +kernel
theorem dX3_find_33 : decode cX3_find 33 = .ok (.ireturn, 1) := by decide +kernel
set_option maxRecDepth 20000 in
theorem ggX3_at_X3_find : GoodIn wsX3_at wsX3_find := goodIn_r _ [6] (by decide +kernel) (by decide +kernel)
set_option maxRecDepth 20000 in
theorem gX3_at_X3_find : GoodIn wsX3_at (va_wsS RX3 44 yX3_find wsX3_find) := goodIn_app (goodIn_of _ (by decide +kernel)) ggX3_at_X3_find
theorem dX3_at_0 : decode cX3_at 0 = .ok (.aload_n 0, 1) := by decide +kernel
theorem dX3_at_1 : decode cX3_at 1 = .ok (.getfield 7, 3) := by decide +kernel
theorem dX3_at_4 : decode cX3_at 4 = .ok (.aload_n 0, 1) := by decide +kernel
theorem dX3_at_5 : decode cX3_at 5 = .ok (.getfield 41, 3) := by decide +kernel
theorem dX3_at_8 : decode cX3_at 8 = .ok (.iload_n 1, 1) := by decide +kernel
theorem dX3_at_9 : decode cX3_at 9 = .ok (.invokestatic 44, 3) := by decide +kernel
theorem dX3_at_12 : decode cX3_at 12 = .ok (.ireturn, 1) := by decide +kernel
set_option maxRecDepth 20000 in
theorem ggX3_lays_X3_at : GoodIn wsX3_lays wsX3_at := goodIn_r _ [8, 2, 1, 9, 10, 7, 11, 12, 13, 14, 15, 16, 17, 18, 19, 20, 21, 22, 23, 24, 25, 26, 27] (by decide +kernel) (by decide +kernel)
set_option maxRecDepth 20000 in
theorem gX3_lays_X3_at : GoodIn wsX3_lays (wsV RX3 48 RX3 yX3_at wsX3_at) := goodIn_app (goodIn_of _ (by decide +kernel)) ggX3_lays_X3_at
theorem dX3_lays_0 : decode cX3_lays 0 = .ok (.aload_n 0, 1) := by decide +kernel
theorem dX3_lays_1 : decode cX3_lays 1 = .ok (.iload_n 1, 1) := by decide +kernel
theorem dX3_lays_2 : decode cX3_lays 2 = .ok (.invokevirtual 48, 3) := by decide +kernel
theorem dX3_lays_5 : decode cX3_lays 5 = .ok (.istore_n 3, 1) := by decide +kernel
theorem dX3_lays_6 : decode cX3_lays 6 = .ok (.iload_n 3, 1) := by decide +kernel
theorem dX3_lays_7 : decode cX3_lays 7 = .ok (.ifCond .ge 25, 3) := by decide +kernel
theorem dX3_lays_10 : decode cX3_lays 10 = .ok (.aload_n 0, 1) := by decide +kernel
theorem dX3_lays_11 : decode cX3_lays 11 = .ok (.getfield 41, 3) := by decide +kernel
theorem dX3_lays_14 : decode cX3_lays 14 = .ok (.istore_n 3, 1) := by decide +kernel
theorem dX3_lays_15 : decode cX3_lays 15 = .ok (.aload_n 0, 1) := by decide +kernel
theorem dX3_lays_16 : decode cX3_lays 16 = .ok (.getfield 7, 3) := by decide +kernel
theorem dX3_lays_19 : decode cX3_lays 19 = .ok (.iload_n 3, 1) := by decide +kernel
theorem dX3_lays_20 : decode cX3_lays 20 = .ok (.iload_n 1, 1) := by decide +kernel
theorem dX3_lays_21 : decode cX3_lays 21 = .ok (.iastore, 1) := by decide +kernel
theorem dX3_lays_22 : decode cX3_lays 22 = .ok (.aload_n 0, 1) := by decide +kernel
theorem dX3_lays_23 : decode cX3_lays 23 = .ok (.dup, 1) := by decide +kernel
theorem dX3_lays_24 : decode cX3_lays 24 = .ok (.getfield 41, 3) := by decide +kernel
theorem dX3_lays_27 : decode cX3_lays 27 = .ok (.iconst 1, 1) := by decide +kernel
theorem dX3_lays_28 : decode cX3_lays 28 = .ok (.iadd, 1) := by decide +kernel
theorem dX3_lays_29 : decode cX3_lays 29 = .ok (.putfield 41, 3) := by decide +kernel
theorem dX3_lays_32 : decode cX3_lays 32 = .ok (.aload_n 0, 1) := by decide +kernel
theorem dX3_lays_33 : decode cX3_lays 33 = .ok (.getfield 13, 3) := by decide +kernel
theorem dX3_lays_36 : decode cX3_lays 36 = .ok (.iload_n 3, 1) := by decide +kernel
theorem dX3_lays_37 : decode cX3_lays 37 = .ok (.iload_n 2, 1) := by decide +kernel
theorem dX3_lays_38 : decode cX3_lays 38 = .ok (.iastore, 1) := by decide +kernel
theorem dX3_lays_39 : decode cX3_lays 39 = .ok (.return_, 1) := by decide +kernel
theorem dX3_drops_0 : decode cX3_drops 0 = .ok (.aload_n 0, 1) := by decide +kernel
theorem dX3_drops_1 : decode cX3_drops 1 = .ok (.dup, 1) := by decide +kernel
theorem dX3_drops_2 : decode cX3_drops 2 = .ok (.getfield 41, 3) := by decide +kernel
theorem dX3_drops_5 : decode cX3_drops 5 = .ok (.iconst 1, 1) := by decide +kernel
theorem dX3_drops_6 : decode cX3_drops 6 = .ok (.isub, 1) := by decide +kernel
theorem dX3_drops_7 : decode cX3_drops 7 = .ok (.putfield 41, 3) := by decide +kernel
theorem dX3_drops_10 : decode cX3_drops 10 = .ok (.aload_n 0, 1) := by decide +kernel
theorem dX3_drops_11 : decode cX3_drops 11 = .ok (.getfield 7, 3) := by decide +kernel
theorem dX3_drops_14 : decode cX3_drops 14 = .ok (.iload_n 1, 1) := by decide +kernel
theorem dX3_drops_15 : decode cX3_drops 15 = .ok (.aload_n 0, 1) := by decide +kernel
theorem dX3_drops_16 : decode cX3_drops 16 = .ok (.getfield 7, 3) := by decide +kernel
theorem dX3_drops_19 : decode cX3_drops 19 = .ok (.aload_n 0, 1) := by decide +kernel
theorem dX3_drops_20 : decode cX3_drops 20 = .ok (.getfield 41, 3) := by decide +kernel
theorem dX3_drops_23 : decode cX3_drops 23 = .ok (.iaload, 1) := by decide +kernel
theorem dX3_drops_24 : decode cX3_drops 24 = .ok (.iastore, 1) := by decide +kernel
theorem dX3_drops_25 : decode cX3_drops 25 = .ok (.aload_n 0, 1) := by decide +kernel
theorem dX3_drops_26 : decode cX3_drops 26 = .ok (.getfield 13, 3) := by decide +kernel
theorem dX3_drops_29 : decode cX3_drops 29 = .ok (.iload_n 1, 1) := by decide +kernel
theorem dX3_drops_30 : decode cX3_drops 30 = .ok (.aload_n 0, 1) := by decide +kernel
theorem dX3_drops_31 : decode cX3_drops 31 = .ok (.getfield 13, 3) := by decide +kernel
theorem dX3_drops_34 : decode cX3_drops 34 = .ok (.aload_n 0, 1) := by decide +kernel
theorem dX3_drops_35 : decode cX3_drops 35 = .ok (.getfield 41, 3) := by decide +kernel
theorem dX3_drops_38 : decode cX3_drops 38 = .ok (.iaload, 1) := by decide +kernel
theorem dX3_drops_39 : decode cX3_drops 39 = .ok (.iastore, 1) := by decide +kernel
theorem dX3_drops_40 : decode cX3_drops 40 = .ok (.return_, 1) := by decide +kernel
set_option maxRecDepth 20000 in
theorem ggX3_isFull_X3_at : GoodIn wsX3_isFull wsX3_at := goodIn_r _ [6, 7, 1, 8, 9, 5, 10, 11, 12, 13, 14, 15, 16, 17, 18, 19, 20, 21, 22, 23, 24, 25, 26] (by decide +kernel) (by decide +kernel)
set_option maxRecDepth 20000 in
theorem gX3_isFull_X3_at : GoodIn wsX3_isFull (wsV RX3 48 RX3 yX3_at wsX3_at) := goodIn_app (goodIn_of _ (by decide +kernel)) ggX3_isFull_X3_at
theorem dX3_isFull_0 : decode cX3_isFull 0 = .ok (.aload_n 0, 1) := by decide +kernel
theorem dX3_isFull_1 : decode cX3_isFull 1 = .ok (.iload_n 1, 1) := by decide +kernel
theorem dX3_isFull_2 : decode cX3_isFull 2 = .ok (.invokevirtual 48, 3) := by decide +kernel
theorem dX3_isFull_5 : decode cX3_isFull 5 = .ok (.ifCond .ge 17, 3) := by decide +kernel
theorem dX3_isFull_8 : decode cX3_isFull 8 = .ok (.aload_n 0, 1) := by decide +kernel
theorem dX3_isFull_9 : decode cX3_isFull 9 = .ok (.getfield 41, 3) := by decide +kernel
theorem dX3_isFull_12 : decode cX3_isFull 12 = .ok (.sipush 200, 3) := by decide +kernel
theorem dX3_isFull_15 : decode cX3_isFull 15 = .ok (.if_icmp .ne 7, 3) := by decide +kernel
theorem dX3_isFull_18 : decode cX3_isFull 18 = .ok (.iconst 1, 1) := by decide +kernel
theorem dX3_isFull_19 : decode cX3_isFull 19 = .ok (.goto 4, 3) := by decide +kernel
theorem dX3_isFull_22 : decode cX3_isFull 22 = .ok (.iconst 0, 1) := by decide +kernel
theorem dX3_isFull_23 : decode cX3_isFull 23 = .ok (.ireturn, 1) := by decide +kernel
set_option maxRecDepth 20000 in
theorem ggX3_now_X3_at : GoodIn wsX3_now wsX3_at := goodIn_r _ [7, 8, 9, 10, 11, 6, 12, 13, 14, 15, 16, 17, 18, 19, 20, 21, 22, 23, 24, 25, 26, 27, 28] (by decide +kernel) (by decide +kernel)
set_option maxRecDepth 20000 in
theorem gX3_now_X3_at : GoodIn wsX3_now (wsV RX3 48 RX3 yX3_at wsX3_at) := goodIn_app (goodIn_of _ (by decide +kernel)) ggX3_now_X3_at
theorem dX3_now_0 : decode cX3_now 0 = .ok (.aload_n 0, 1) := by decide +kernel
theorem dX3_now_1 : decode cX3_now 1 = .ok (.iload_n 1, 1) := by decide +kernel
theorem dX3_now_2 : decode cX3_now 2 = .ok (.invokevirtual 48, 3) := by decide +kernel
theorem dX3_now_5 : decode cX3_now 5 = .ok (.ifCond .ge 9, 3) := by decide +kernel
theorem dX3_now_8 : decode cX3_now 8 = .ok (.ldc2_w 52, 3) := by decide +kernel
theorem dX3_now_11 : decode cX3_now 11 = .ok (.goto 14, 3) := by decide +kernel
theorem dX3_now_14 : decode cX3_now 14 = .ok (.aload_n 0, 1) := by decide +kernel
theorem dX3_now_15 : decode cX3_now 15 = .ok (.getfield 13, 3) := by decide +kernel
theorem dX3_now_18 : decode cX3_now 18 = .ok (.aload_n 0, 1) := by decide +kernel
theorem dX3_now_19 : decode cX3_now 19 = .ok (.iload_n 1, 1) := by decide +kernel
theorem dX3_now_20 : decode cX3_now 20 = .ok (.invokevirtual 48, 3) := by decide +kernel
theorem dX3_now_23 : decode cX3_now 23 = .ok (.iaload, 1) := by decide +kernel
theorem dX3_now_24 : decode cX3_now 24 = .ok (.i2l, 1) := by decide +kernel
theorem dX3_now_25 : decode cX3_now 25 = .ok (.lreturn, 1) := by decide +kernel
set_option maxRecDepth 20000 in
theorem ggX3_put_X3_isFull : GoodIn wsX3_put wsX3_isFull := goodIn_r _ [5, 6, 7, 8, 9, 4, 10, 11, 12, 13, 14, 30, 31, 32, 33, 34, 35, 36, 37, 38, 39, 40, 41, 42, 43, 44, 45] (by decide +kernel) (by decide +kernel)
set_option maxRecDepth 20000 in
theorem gX3_put_X3_isFull : GoodIn wsX3_put (wsV RX3 54 RX3 yX3_isFull wsX3_isFull) := goodIn_app (goodIn_of _ (by decide +kernel)) ggX3_put_X3_isFull
set_option maxRecDepth 20000 in
theorem ggX3_put_X3_fails : GoodIn wsX3_put wsX3_fails := goodIn_r _ [18, 19, 30, 31, 32, 33, 34, 35, 36, 37, 38, 39, 40, 41, 42, 43, 44, 45] (by decide +kernel) (by decide +kernel)
set_option maxRecDepth 20000 in
theorem gX3_put_X3_fails : GoodIn wsX3_put (wsV RX3 58 RX3 yX3_fails wsX3_fails) := goodIn_app (goodIn_of _ (by decide +kernel)) ggX3_put_X3_fails
set_option maxRecDepth 20000 in
theorem ggX3_put_X3_now : GoodIn wsX3_put wsX3_now := goodIn_r _ [23, 24, 25, 7, 8, 9, 4, 10, 11, 6, 12, 13, 14, 30, 31, 32, 33, 34, 35, 36, 37, 38, 39, 40, 41, 42, 43, 44, 45] (by decide +kernel) (by decide +kernel)
set_option maxRecDepth 20000 in
theorem gX3_put_X3_now : GoodIn wsX3_put (wsV RX3 61 RX3 yX3_now wsX3_now) := goodIn_app (goodIn_of _ (by decide +kernel)) ggX3_put_X3_now
set_option maxRecDepth 20000 in
theorem ggX3_put_X3_lays : GoodIn wsX3_put wsX3_lays := goodIn_r _ [29, 6, 11, 25, 7, 8, 9, 4, 10, 12, 13, 14, 30, 31, 32, 33, 34, 35, 36, 37, 38, 39, 40, 41, 42, 43, 44, 45] (by decide +kernel) (by decide +kernel)
set_option maxRecDepth 20000 in
theorem gX3_put_X3_lays : GoodIn wsX3_put (wsV RX3 65 RX3 yX3_lays wsX3_lays) := goodIn_app (goodIn_of _ (by decide +kernel)) ggX3_put_X3_lays
theorem dX3_put_0 : decode cX3_put 0 = .ok (.aload_n 0, 1) := by decide +kernel
theorem dX3_put_1 : decode cX3_put 1 = .ok (.aload_n 0, 1) := by decide +kernel
theorem dX3_put_2 : decode cX3_put 2 = .ok (.iload_n 1, 1) := by decide +kernel
theorem dX3_put_3 : decode cX3_put 3 = .ok (.invokevirtual 54, 3) := by decide +kernel
theorem dX3_put_6 : decode cX3_put 6 = .ok (.ifCond .eq 7, 3) := by decide +kernel
theorem dX3_put_9 : decode cX3_put 9 = .ok (.iconst 1, 1) := by decide +kernel
theorem dX3_put_10 : decode cX3_put 10 = .ok (.goto 4, 3) := by decide +kernel
theorem dX3_put_13 : decode cX3_put 13 = .ok (.iconst 0, 1) := by decide +kernel
theorem dX3_put_14 : decode cX3_put 14 = .ok (.invokevirtual 58, 3) := by decide +kernel
theorem dX3_put_17 : decode cX3_put 17 = .ok (.ifCond .eq 5, 3) := by decide +kernel
theorem dX3_put_20 : decode cX3_put 20 = .ok (.lconst 0, 1) := by decide +kernel
theorem dX3_put_21 : decode cX3_put 21 = .ok (.lreturn, 1) := by decide +kernel
theorem dX3_put_22 : decode cX3_put 22 = .ok (.aload_n 0, 1) := by decide +kernel
theorem dX3_put_23 : decode cX3_put 23 = .ok (.iload_n 1, 1) := by decide +kernel
theorem dX3_put_24 : decode cX3_put 24 = .ok (.invokevirtual 61, 3) := by decide +kernel
theorem dX3_put_27 : decode cX3_put 27 = .ok (.lstore_n 3, 1) := by decide +kernel
theorem dX3_put_28 : decode cX3_put 28 = .ok (.aload_n 0, 1) := by decide +kernel
theorem dX3_put_29 : decode cX3_put 29 = .ok (.iload_n 1, 1) := by decide +kernel
theorem dX3_put_30 : decode cX3_put 30 = .ok (.iload_n 2, 1) := by decide +kernel
theorem dX3_put_31 : decode cX3_put 31 = .ok (.invokevirtual 65, 3) := by decide +kernel
theorem dX3_put_34 : decode cX3_put 34 = .ok (.lload_n 3, 1) := by decide +kernel
theorem dX3_put_35 : decode cX3_put 35 = .ok (.lreturn, 1) := by decide +kernel
set_option maxRecDepth 20000 in
theorem ggX3_putIfAbsent_X3_isFull : GoodIn wsX3_putIfAbsent wsX3_isFull := goodIn_r _ [6, 7, 8, 9, 10, 5, 11, 12, 13, 14, 15, 30, 31, 32, 33, 34, 35, 36, 37, 38, 39, 40, 41, 42, 43, 44, 45] (by decide +kernel) (by decide +kernel)
set_option maxRecDepth 20000 in
theorem gX3_putIfAbsent_X3_isFull : GoodIn wsX3_putIfAbsent (wsV RX3 54 RX3 yX3_isFull wsX3_isFull) := goodIn_app (goodIn_of _ (by decide +kernel)) ggX3_putIfAbsent_X3_isFull
set_option maxRecDepth 20000 in
theorem ggX3_putIfAbsent_X3_fails : GoodIn wsX3_putIfAbsent wsX3_fails := goodIn_r _ [19, 20, 30, 31, 32, 33, 34, 35, 36, 37, 38, 39, 40, 41, 42, 43, 44, 45] (by decide +kernel) (by decide +kernel)
set_option maxRecDepth 20000 in
theorem gX3_putIfAbsent_X3_fails : GoodIn wsX3_putIfAbsent (wsV RX3 58 RX3 yX3_fails wsX3_fails) := goodIn_app (goodIn_of _ (by decide +kernel)) ggX3_putIfAbsent_X3_fails
set_option maxRecDepth 20000 in
theorem ggX3_putIfAbsent_X3_now : GoodIn wsX3_putIfAbsent wsX3_now := goodIn_r _ [24, 1, 25, 8, 9, 10, 5, 11, 12, 7, 13, 14, 15, 30, 31, 32, 33, 34, 35, 36, 37, 38, 39, 40, 41, 42, 43, 44, 45] (by decide +kernel) (by decide +kernel)
set_option maxRecDepth 20000 in
theorem gX3_putIfAbsent_X3_now : GoodIn wsX3_putIfAbsent (wsV RX3 61 RX3 yX3_now wsX3_now) := goodIn_app (goodIn_of _ (by decide +kernel)) ggX3_putIfAbsent_X3_now
set_option maxRecDepth 20000 in
theorem ggX3_putIfAbsent_X3_lays : GoodIn wsX3_putIfAbsent wsX3_lays := goodIn_r _ [29, 7, 12, 25, 8, 9, 10, 5, 11, 13, 14, 15, 30, 31, 32, 33, 34, 35, 36, 37, 38, 39, 40, 41, 42, 43, 44, 45] (by decide +kernel) (by decide +kernel)
set_option maxRecDepth 20000 in
theorem gX3_putIfAbsent_X3_lays : GoodIn wsX3_putIfAbsent (wsV RX3 65 RX3 yX3_lays wsX3_lays) := goodIn_app (goodIn_of _ (by decide +kernel)) ggX3_putIfAbsent_X3_lays
theorem dX3_putIfAbsent_0 : decode cX3_putIfAbsent 0 = .ok (.aload_n 0, 1) := by decide +kernel
theorem dX3_putIfAbsent_1 : decode cX3_putIfAbsent 1 = .ok (.aload_n 0, 1) := by decide +kernel
theorem dX3_putIfAbsent_2 : decode cX3_putIfAbsent 2 = .ok (.iload_n 1, 1) := by decide +kernel
theorem dX3_putIfAbsent_3 : decode cX3_putIfAbsent 3 = .ok (.invokevirtual 54, 3) := by decide +kernel
theorem dX3_putIfAbsent_6 : decode cX3_putIfAbsent 6 = .ok (.ifCond .eq 7, 3) := by decide +kernel
theorem dX3_putIfAbsent_9 : decode cX3_putIfAbsent 9 = .ok (.iconst 1, 1) := by decide +kernel
theorem dX3_putIfAbsent_10 : decode cX3_putIfAbsent 10 = .ok (.goto 4, 3) := by decide +kernel
theorem dX3_putIfAbsent_13 : decode cX3_putIfAbsent 13 = .ok (.iconst 0, 1) := by decide +kernel
theorem dX3_putIfAbsent_14 : decode cX3_putIfAbsent 14 = .ok (.invokevirtual 58, 3) := by decide +kernel
theorem dX3_putIfAbsent_17 : decode cX3_putIfAbsent 17 = .ok (.ifCond .eq 5, 3) := by decide +kernel
theorem dX3_putIfAbsent_20 : decode cX3_putIfAbsent 20 = .ok (.lconst 0, 1) := by decide +kernel
theorem dX3_putIfAbsent_21 : decode cX3_putIfAbsent 21 = .ok (.lreturn, 1) := by decide +kernel
theorem dX3_putIfAbsent_22 : decode cX3_putIfAbsent 22 = .ok (.aload_n 0, 1) := by decide +kernel
theorem dX3_putIfAbsent_23 : decode cX3_putIfAbsent 23 = .ok (.iload_n 1, 1) := by decide +kernel
theorem dX3_putIfAbsent_24 : decode cX3_putIfAbsent 24 = .ok (.invokevirtual 61, 3) := by decide +kernel
theorem dX3_putIfAbsent_27 : decode cX3_putIfAbsent 27 = .ok (.lstore_n 3, 1) := by decide +kernel
theorem dX3_putIfAbsent_28 : decode cX3_putIfAbsent 28 = .ok (.lload_n 3, 1) := by decide +kernel
theorem dX3_putIfAbsent_29 : decode cX3_putIfAbsent 29 = .ok (.ldc2_w 52, 3) := by decide +kernel
theorem dX3_putIfAbsent_32 : decode cX3_putIfAbsent 32 = .ok (.lcmp, 1) := by decide +kernel
theorem dX3_putIfAbsent_33 : decode cX3_putIfAbsent 33 = .ok (.ifCond .ne 9, 3) := by decide +kernel
theorem dX3_putIfAbsent_36 : decode cX3_putIfAbsent 36 = .ok (.aload_n 0, 1) := by decide +kernel
theorem dX3_putIfAbsent_37 : decode cX3_putIfAbsent 37 = .ok (.iload_n 1, 1) := by decide +kernel
theorem dX3_putIfAbsent_38 : decode cX3_putIfAbsent 38 = .ok (.iload_n 2, 1) := by decide +kernel
theorem dX3_putIfAbsent_39 : decode cX3_putIfAbsent 39 = .ok (.invokevirtual 65, 3) := by decide +kernel
theorem dX3_putIfAbsent_42 : decode cX3_putIfAbsent 42 = .ok (.lload_n 3, 1) := by decide +kernel
theorem dX3_putIfAbsent_43 : decode cX3_putIfAbsent 43 = .ok (.lreturn, 1) := by decide +kernel
set_option maxRecDepth 20000 in
theorem ggX3_get_X3_now : GoodIn wsX3_get wsX3_now := goodIn_r _ [6, 7, 8, 9, 10, 11, 5, 12, 13, 14, 15, 16, 17, 18, 19, 20, 21, 22, 23, 24, 25, 26, 27, 28, 29, 30, 31, 32, 33] (by decide +kernel) (by decide +kernel)
set_option maxRecDepth 20000 in
theorem gX3_get_X3_now : GoodIn wsX3_get (wsV RX3 61 RX3 yX3_now wsX3_now) := goodIn_app (goodIn_of _ (by decide +kernel)) ggX3_get_X3_now
theorem dX3_get_0 : decode cX3_get 0 = .ok (.aload_n 0, 1) := by decide +kernel
theorem dX3_get_1 : decode cX3_get 1 = .ok (.iconst 0, 1) := by decide +kernel
theorem dX3_get_2 : decode cX3_get 2 = .ok (.putfield 38, 3) := by decide +kernel
theorem dX3_get_5 : decode cX3_get 5 = .ok (.aload_n 0, 1) := by decide +kernel
theorem dX3_get_6 : decode cX3_get 6 = .ok (.iload_n 1, 1) := by decide +kernel
theorem dX3_get_7 : decode cX3_get 7 = .ok (.invokevirtual 61, 3) := by decide +kernel
theorem dX3_get_10 : decode cX3_get 10 = .ok (.lreturn, 1) := by decide +kernel
set_option maxRecDepth 20000 in
theorem ggX3_getOrDefault_X3_now : GoodIn wsX3_getOrDefault wsX3_now := goodIn_r _ [7, 2, 8, 9, 10, 11, 6, 12, 13, 14, 15, 16, 17, 18, 19, 20, 21, 22, 23, 24, 25, 26, 27, 28, 29, 30, 31, 32, 33] (by decide +kernel) (by decide +kernel)
set_option maxRecDepth 20000 in
theorem gX3_getOrDefault_X3_now : GoodIn wsX3_getOrDefault (wsV RX3 61 RX3 yX3_now wsX3_now) := goodIn_app (goodIn_of _ (by decide +kernel)) ggX3_getOrDefault_X3_now
theorem dX3_getOrDefault_0 : decode cX3_getOrDefault 0 = .ok (.aload_n 0, 1) := by decide +kernel
theorem dX3_getOrDefault_1 : decode cX3_getOrDefault 1 = .ok (.iconst 0, 1) := by decide +kernel
theorem dX3_getOrDefault_2 : decode cX3_getOrDefault 2 = .ok (.putfield 38, 3) := by decide +kernel
theorem dX3_getOrDefault_5 : decode cX3_getOrDefault 5 = .ok (.aload_n 0, 1) := by decide +kernel
theorem dX3_getOrDefault_6 : decode cX3_getOrDefault 6 = .ok (.iload_n 1, 1) := by decide +kernel
theorem dX3_getOrDefault_7 : decode cX3_getOrDefault 7 = .ok (.invokevirtual 61, 3) := by decide +kernel
theorem dX3_getOrDefault_10 : decode cX3_getOrDefault 10 = .ok (.ldc2_w 52, 3) := by decide +kernel
theorem dX3_getOrDefault_13 : decode cX3_getOrDefault 13 = .ok (.lcmp, 1) := by decide +kernel
theorem dX3_getOrDefault_14 : decode cX3_getOrDefault 14 = .ok (.ifCond .ne 7, 3) := by decide +kernel
theorem dX3_getOrDefault_17 : decode cX3_getOrDefault 17 = .ok (.iload_n 2, 1) := by decide +kernel
theorem dX3_getOrDefault_18 : decode cX3_getOrDefault 18 = .ok (.goto 9, 3) := by decide +kernel
theorem dX3_getOrDefault_21 : decode cX3_getOrDefault 21 = .ok (.aload_n 0, 1) := by decide +kernel
theorem dX3_getOrDefault_22 : decode cX3_getOrDefault 22 = .ok (.iload_n 1, 1) := by decide +kernel
theorem dX3_getOrDefault_23 : decode cX3_getOrDefault 23 = .ok (.invokevirtual 61, 3) := by decide +kernel
theorem dX3_getOrDefault_26 : decode cX3_getOrDefault 26 = .ok (.l2i, 1) := by decide +kernel
theorem dX3_getOrDefault_27 : decode cX3_getOrDefault 27 = .ok (.ireturn, 1) := by decide +kernel
set_option maxRecDepth 20000 in
theorem ggX3_replace_X3_now : GoodIn wsX3_replace wsX3_now := goodIn_r _ [7, 2, 8, 9, 10, 11, 6, 12, 13, 14, 15, 16, 17, 22, 23, 24, 25, 26, 27, 28, 29, 30, 31, 32, 33, 34, 35, 36, 37] (by decide +kernel) (by decide +kernel)
set_option maxRecDepth 20000 in
theorem gX3_replace_X3_now : GoodIn wsX3_replace (wsV RX3 61 RX3 yX3_now wsX3_now) := goodIn_app (goodIn_of _ (by decide +kernel)) ggX3_replace_X3_now
set_option maxRecDepth 20000 in
theorem ggX3_replace_X3_lays : GoodIn wsX3_replace wsX3_lays := goodIn_r _ [21, 14, 13, 8, 9, 10, 11, 6, 12, 15, 16, 17, 22, 23, 24, 25, 26, 27, 28, 29, 30, 31, 32, 33, 34, 35, 36, 37] (by decide +kernel) (by decide +kernel)
set_option maxRecDepth 20000 in
theorem gX3_replace_X3_lays : GoodIn wsX3_replace (wsV RX3 65 RX3 yX3_lays wsX3_lays) := goodIn_app (goodIn_of _ (by decide +kernel)) ggX3_replace_X3_lays
theorem dX3_replace_0 : decode cX3_replace 0 = .ok (.aload_n 0, 1) := by decide +kernel
theorem dX3_replace_1 : decode cX3_replace 1 = .ok (.iconst 0, 1) := by decide +kernel
theorem dX3_replace_2 : decode cX3_replace 2 = .ok (.putfield 38, 3) := by decide +kernel
theorem dX3_replace_5 : decode cX3_replace 5 = .ok (.aload_n 0, 1) := by decide +kernel
theorem dX3_replace_6 : decode cX3_replace 6 = .ok (.iload_n 1, 1) := by decide +kernel
theorem dX3_replace_7 : decode cX3_replace 7 = .ok (.invokevirtual 61, 3) := by decide +kernel
theorem dX3_replace_10 : decode cX3_replace 10 = .ok (.lstore_n 3, 1) := by decide +kernel
theorem dX3_replace_11 : decode cX3_replace 11 = .ok (.lload_n 3, 1) := by decide +kernel
theorem dX3_replace_12 : decode cX3_replace 12 = .ok (.ldc2_w 52, 3) := by decide +kernel
theorem dX3_replace_15 : decode cX3_replace 15 = .ok (.lcmp, 1) := by decide +kernel
theorem dX3_replace_16 : decode cX3_replace 16 = .ok (.ifCond .eq 9, 3) := by decide +kernel
theorem dX3_replace_19 : decode cX3_replace 19 = .ok (.aload_n 0, 1) := by decide +kernel
theorem dX3_replace_20 : decode cX3_replace 20 = .ok (.iload_n 1, 1) := by decide +kernel
theorem dX3_replace_21 : decode cX3_replace 21 = .ok (.iload_n 2, 1) := by decide +kernel
theorem dX3_replace_22 : decode cX3_replace 22 = .ok (.invokevirtual 65, 3) := by decide +kernel
theorem dX3_replace_25 : decode cX3_replace 25 = .ok (.lload_n 3, 1) := by decide +kernel
theorem dX3_replace_26 : decode cX3_replace 26 = .ok (.lreturn, 1) := by decide +kernel
set_option maxRecDepth 20000 in
theorem ggX3_replaceTold_X3_now : GoodIn wsX3_replaceTold wsX3_now := goodIn_r _ [6, 7, 8, 9, 10, 11, 5, 12, 13, 14, 15, 16, 17, 22, 23, 24, 25, 26, 27, 28, 29, 30, 31, 32, 33, 34, 35, 36, 37] (by decide +kernel) (by decide +kernel)
set_option maxRecDepth 20000 in
theorem gX3_replaceTold_X3_now : GoodIn wsX3_replaceTold (wsV RX3 61 RX3 yX3_now wsX3_now) := goodIn_app (goodIn_of _ (by decide +kernel)) ggX3_replaceTold_X3_now
set_option maxRecDepth 20000 in
theorem ggX3_replaceTold_X3_lays : GoodIn wsX3_replaceTold wsX3_lays := goodIn_r _ [21, 14, 13, 8, 9, 10, 11, 5, 12, 15, 16, 17, 22, 23, 24, 25, 26, 27, 28, 29, 30, 31, 32, 33, 34, 35, 36, 37] (by decide +kernel) (by decide +kernel)
set_option maxRecDepth 20000 in
theorem gX3_replaceTold_X3_lays : GoodIn wsX3_replaceTold (wsV RX3 65 RX3 yX3_lays wsX3_lays) := goodIn_app (goodIn_of _ (by decide +kernel)) ggX3_replaceTold_X3_lays
theorem dX3_replaceTold_0 : decode cX3_replaceTold 0 = .ok (.aload_n 0, 1) := by decide +kernel
theorem dX3_replaceTold_1 : decode cX3_replaceTold 1 = .ok (.iconst 0, 1) := by decide +kernel
theorem dX3_replaceTold_2 : decode cX3_replaceTold 2 = .ok (.putfield 38, 3) := by decide +kernel
theorem dX3_replaceTold_5 : decode cX3_replaceTold 5 = .ok (.aload_n 0, 1) := by decide +kernel
theorem dX3_replaceTold_6 : decode cX3_replaceTold 6 = .ok (.iload_n 1, 1) := by decide +kernel
theorem dX3_replaceTold_7 : decode cX3_replaceTold 7 = .ok (.invokevirtual 61, 3) := by decide +kernel
theorem dX3_replaceTold_10 : decode cX3_replaceTold 10 = .ok (.iload_n 2, 1) := by decide +kernel
theorem dX3_replaceTold_11 : decode cX3_replaceTold 11 = .ok (.i2l, 1) := by decide +kernel
theorem dX3_replaceTold_12 : decode cX3_replaceTold 12 = .ok (.lcmp, 1) := by decide +kernel
theorem dX3_replaceTold_13 : decode cX3_replaceTold 13 = .ok (.ifCond .ne 7, 3) := by decide +kernel
theorem dX3_replaceTold_16 : decode cX3_replaceTold 16 = .ok (.iconst 1, 1) := by decide +kernel
theorem dX3_replaceTold_17 : decode cX3_replaceTold 17 = .ok (.goto 4, 3) := by decide +kernel
theorem dX3_replaceTold_20 : decode cX3_replaceTold 20 = .ok (.iconst 0, 1) := by decide +kernel
theorem dX3_replaceTold_21 : decode cX3_replaceTold 21 = .ok (.istore 4, 2) := by decide +kernel
theorem dX3_replaceTold_23 : decode cX3_replaceTold 23 = .ok (.iload 4, 2) := by decide +kernel
theorem dX3_replaceTold_25 : decode cX3_replaceTold 25 = .ok (.ifCond .eq 9, 3) := by decide +kernel
theorem dX3_replaceTold_28 : decode cX3_replaceTold 28 = .ok (.aload_n 0, 1) := by decide +kernel
theorem dX3_replaceTold_29 : decode cX3_replaceTold 29 = .ok (.iload_n 1, 1) := by decide +kernel
theorem dX3_replaceTold_30 : decode cX3_replaceTold 30 = .ok (.iload_n 3, 1) := by decide +kernel
theorem dX3_replaceTold_31 : decode cX3_replaceTold 31 = .ok (.invokevirtual 65, 3) := by decide +kernel
theorem dX3_replaceTold_34 : decode cX3_replaceTold 34 = .ok (.iload 4, 2) := by decide +kernel
theorem dX3_replaceTold_36 : decode cX3_replaceTold 36 = .ok (.ireturn, 1) := by decide +kernel
set_option maxRecDepth 20000 in
theorem ggX3_remove_X3_now : GoodIn wsX3_remove wsX3_now := goodIn_r _ [7, 2, 8, 9, 10, 11, 6, 12, 13, 14, 15, 16, 17, 22, 23, 24, 25, 26, 27, 28, 29, 30, 31, 32, 33, 34, 35, 36, 37] (by decide +kernel) (by decide +kernel)
set_option maxRecDepth 20000 in
theorem gX3_remove_X3_now : GoodIn wsX3_remove (wsV RX3 61 RX3 yX3_now wsX3_now) := goodIn_app (goodIn_of _ (by decide +kernel)) ggX3_remove_X3_now
set_option maxRecDepth 20000 in
theorem ggX3_remove_X3_at : GoodIn wsX3_remove wsX3_at := goodIn_r _ [12, 13, 14, 15, 16, 6, 17, 22, 23, 24, 25, 26, 27, 28, 29, 30, 31, 32, 33, 34, 35, 36, 37] (by decide +kernel) (by decide +kernel)
set_option maxRecDepth 20000 in
theorem gX3_remove_X3_at : GoodIn wsX3_remove (wsV RX3 48 RX3 yX3_at wsX3_at) := goodIn_app (goodIn_of _ (by decide +kernel)) ggX3_remove_X3_at
set_option maxRecDepth 20000 in
theorem ggX3_remove_X3_drops : GoodIn wsX3_remove wsX3_drops := goodIn_r _ [21, 14, 13, 8, 22, 23, 24, 25, 26, 27, 28, 29, 30, 31, 32, 33, 34, 35, 36, 37] (by decide +kernel) (by decide +kernel)
set_option maxRecDepth 20000 in
theorem gX3_remove_X3_drops : GoodIn wsX3_remove (wsV RX3 69 RX3 yX3_drops wsX3_drops) := goodIn_app (goodIn_of _ (by decide +kernel)) ggX3_remove_X3_drops
theorem dX3_remove_0 : decode cX3_remove 0 = .ok (.aload_n 0, 1) := by decide +kernel
theorem dX3_remove_1 : decode cX3_remove 1 = .ok (.iconst 0, 1) := by decide +kernel
theorem dX3_remove_2 : decode cX3_remove 2 = .ok (.putfield 38, 3) := by decide +kernel
theorem dX3_remove_5 : decode cX3_remove 5 = .ok (.aload_n 0, 1) := by decide +kernel
theorem dX3_remove_6 : decode cX3_remove 6 = .ok (.iload_n 1, 1) := by decide +kernel
theorem dX3_remove_7 : decode cX3_remove 7 = .ok (.invokevirtual 61, 3) := by decide +kernel
theorem dX3_remove_10 : decode cX3_remove 10 = .ok (.lstore_n 2, 1) := by decide +kernel
theorem dX3_remove_11 : decode cX3_remove 11 = .ok (.lload_n 2, 1) := by decide +kernel
theorem dX3_remove_12 : decode cX3_remove 12 = .ok (.ldc2_w 52, 3) := by decide +kernel
theorem dX3_remove_15 : decode cX3_remove 15 = .ok (.lcmp, 1) := by decide +kernel
theorem dX3_remove_16 : decode cX3_remove 16 = .ok (.ifCond .eq 12, 3) := by decide +kernel
theorem dX3_remove_19 : decode cX3_remove 19 = .ok (.aload_n 0, 1) := by decide +kernel
theorem dX3_remove_20 : decode cX3_remove 20 = .ok (.aload_n 0, 1) := by decide +kernel
theorem dX3_remove_21 : decode cX3_remove 21 = .ok (.iload_n 1, 1) := by decide +kernel
theorem dX3_remove_22 : decode cX3_remove 22 = .ok (.invokevirtual 48, 3) := by decide +kernel
theorem dX3_remove_25 : decode cX3_remove 25 = .ok (.invokevirtual 69, 3) := by decide +kernel
theorem dX3_remove_28 : decode cX3_remove 28 = .ok (.lload_n 2, 1) := by decide +kernel
theorem dX3_remove_29 : decode cX3_remove 29 = .ok (.lreturn, 1) := by decide +kernel
set_option maxRecDepth 20000 in
theorem ggX3_removeTold_X3_now : GoodIn wsX3_removeTold wsX3_now := goodIn_r _ [6, 7, 8, 9, 10, 11, 5, 12, 13, 14, 15, 16, 17, 22, 23, 24, 25, 26, 27, 28, 29, 30, 31, 32, 33, 34, 35, 36, 37] (by decide +kernel) (by decide +kernel)
set_option maxRecDepth 20000 in
theorem gX3_removeTold_X3_now : GoodIn wsX3_removeTold (wsV RX3 61 RX3 yX3_now wsX3_now) := goodIn_app (goodIn_of _ (by decide +kernel)) ggX3_removeTold_X3_now
set_option maxRecDepth 20000 in
theorem ggX3_removeTold_X3_at : GoodIn wsX3_removeTold wsX3_at := goodIn_r _ [12, 13, 14, 15, 16, 5, 17, 22, 23, 24, 25, 26, 27, 28, 29, 30, 31, 32, 33, 34, 35, 36, 37] (by decide +kernel) (by decide +kernel)
set_option maxRecDepth 20000 in
theorem gX3_removeTold_X3_at : GoodIn wsX3_removeTold (wsV RX3 48 RX3 yX3_at wsX3_at) := goodIn_app (goodIn_of _ (by decide +kernel)) ggX3_removeTold_X3_at
set_option maxRecDepth 20000 in
theorem ggX3_removeTold_X3_drops : GoodIn wsX3_removeTold wsX3_drops := goodIn_r _ [21, 14, 13, 8, 22, 23, 24, 25, 26, 27, 28, 29, 30, 31, 32, 33, 34, 35, 36, 37] (by decide +kernel) (by decide +kernel)
set_option maxRecDepth 20000 in
theorem gX3_removeTold_X3_drops : GoodIn wsX3_removeTold (wsV RX3 69 RX3 yX3_drops wsX3_drops) := goodIn_app (goodIn_of _ (by decide +kernel)) ggX3_removeTold_X3_drops
theorem dX3_removeTold_0 : decode cX3_removeTold 0 = .ok (.aload_n 0, 1) := by decide +kernel
theorem dX3_removeTold_1 : decode cX3_removeTold 1 = .ok (.iconst 0, 1) := by decide +kernel
theorem dX3_removeTold_2 : decode cX3_removeTold 2 = .ok (.putfield 38, 3) := by decide +kernel
theorem dX3_removeTold_5 : decode cX3_removeTold 5 = .ok (.aload_n 0, 1) := by decide +kernel
theorem dX3_removeTold_6 : decode cX3_removeTold 6 = .ok (.iload_n 1, 1) := by decide +kernel
theorem dX3_removeTold_7 : decode cX3_removeTold 7 = .ok (.invokevirtual 61, 3) := by decide +kernel
theorem dX3_removeTold_10 : decode cX3_removeTold 10 = .ok (.iload_n 2, 1) := by decide +kernel
theorem dX3_removeTold_11 : decode cX3_removeTold 11 = .ok (.i2l, 1) := by decide +kernel
theorem dX3_removeTold_12 : decode cX3_removeTold 12 = .ok (.lcmp, 1) := by decide +kernel
theorem dX3_removeTold_13 : decode cX3_removeTold 13 = .ok (.ifCond .ne 7, 3) := by decide +kernel
theorem dX3_removeTold_16 : decode cX3_removeTold 16 = .ok (.iconst 1, 1) := by decide +kernel
theorem dX3_removeTold_17 : decode cX3_removeTold 17 = .ok (.goto 4, 3) := by decide +kernel
theorem dX3_removeTold_20 : decode cX3_removeTold 20 = .ok (.iconst 0, 1) := by decide +kernel
theorem dX3_removeTold_21 : decode cX3_removeTold 21 = .ok (.istore_n 3, 1) := by decide +kernel
theorem dX3_removeTold_22 : decode cX3_removeTold 22 = .ok (.iload_n 3, 1) := by decide +kernel
theorem dX3_removeTold_23 : decode cX3_removeTold 23 = .ok (.ifCond .eq 12, 3) := by decide +kernel
theorem dX3_removeTold_26 : decode cX3_removeTold 26 = .ok (.aload_n 0, 1) := by decide +kernel
theorem dX3_removeTold_27 : decode cX3_removeTold 27 = .ok (.aload_n 0, 1) := by decide +kernel
theorem dX3_removeTold_28 : decode cX3_removeTold 28 = .ok (.iload_n 1, 1) := by decide +kernel
theorem dX3_removeTold_29 : decode cX3_removeTold 29 = .ok (.invokevirtual 48, 3) := by decide +kernel
theorem dX3_removeTold_32 : decode cX3_removeTold 32 = .ok (.invokevirtual 69, 3) := by decide +kernel
theorem dX3_removeTold_35 : decode cX3_removeTold 35 = .ok (.iload_n 3, 1) := by decide +kernel
theorem dX3_removeTold_36 : decode cX3_removeTold 36 = .ok (.ireturn, 1) := by decide +kernel
set_option maxRecDepth 20000 in
theorem ggX3_containsKey_X3_at : GoodIn wsX3_containsKey wsX3_at := goodIn_r _ [6, 7, 8, 9, 10, 5, 11, 12, 13, 14, 15, 16, 17, 18, 19, 20, 21, 22, 23, 24, 25, 26, 27] (by decide +kernel) (by decide +kernel)
set_option maxRecDepth 20000 in
theorem gX3_containsKey_X3_at : GoodIn wsX3_containsKey (wsV RX3 48 RX3 yX3_at wsX3_at) := goodIn_app (goodIn_of _ (by decide +kernel)) ggX3_containsKey_X3_at
theorem dX3_containsKey_0 : decode cX3_containsKey 0 = .ok (.aload_n 0, 1) := by decide +kernel
theorem dX3_containsKey_1 : decode cX3_containsKey 1 = .ok (.iconst 0, 1) := by decide +kernel
theorem dX3_containsKey_2 : decode cX3_containsKey 2 = .ok (.putfield 38, 3) := by decide +kernel
theorem dX3_containsKey_5 : decode cX3_containsKey 5 = .ok (.aload_n 0, 1) := by decide +kernel
theorem dX3_containsKey_6 : decode cX3_containsKey 6 = .ok (.iload_n 1, 1) := by decide +kernel
theorem dX3_containsKey_7 : decode cX3_containsKey 7 = .ok (.invokevirtual 48, 3) := by decide +kernel
theorem dX3_containsKey_10 : decode cX3_containsKey 10 = .ok (.ifCond .lt 7, 3) := by decide +kernel
theorem dX3_containsKey_13 : decode cX3_containsKey 13 = .ok (.iconst 1, 1) := by decide +kernel
theorem dX3_containsKey_14 : decode cX3_containsKey 14 = .ok (.goto 4, 3) := by decide +kernel
theorem dX3_containsKey_17 : decode cX3_containsKey 17 = .ok (.iconst 0, 1) := by decide +kernel
theorem dX3_containsKey_18 : decode cX3_containsKey 18 = .ok (.ireturn, 1) := by decide +kernel
set_option maxRecDepth 20000 in
theorem ggX3_containsValue_X3_find : GoodIn wsX3_containsValue wsX3_find := goodIn_r _ [7] (by decide +kernel) (by decide +kernel)
set_option maxRecDepth 20000 in
theorem gX3_containsValue_X3_find : GoodIn wsX3_containsValue (va_wsS RX3 44 yX3_find wsX3_find) := goodIn_app (goodIn_of _ (by decide +kernel)) ggX3_containsValue_X3_find
theorem dX3_containsValue_0 : decode cX3_containsValue 0 = .ok (.aload_n 0, 1) := by decide +kernel
theorem dX3_containsValue_1 : decode cX3_containsValue 1 = .ok (.iconst 0, 1) := by decide +kernel
theorem dX3_containsValue_2 : decode cX3_containsValue 2 = .ok (.putfield 38, 3) := by decide +kernel
theorem dX3_containsValue_5 : decode cX3_containsValue 5 = .ok (.aload_n 0, 1) := by decide +kernel
theorem dX3_containsValue_6 : decode cX3_containsValue 6 = .ok (.getfield 13, 3) := by decide +kernel
theorem dX3_containsValue_9 : decode cX3_containsValue 9 = .ok (.aload_n 0, 1) := by decide +kernel
theorem dX3_containsValue_10 : decode cX3_containsValue 10 = .ok (.getfield 41, 3) := by decide +kernel
theorem dX3_containsValue_13 : decode cX3_containsValue 13 = .ok (.iload_n 1, 1) := by decide +kernel
theorem dX3_containsValue_14 : decode cX3_containsValue 14 = .ok (.invokestatic 44, 3) := by decide +kernel
theorem dX3_containsValue_17 : decode cX3_containsValue 17 = .ok (.ifCond .lt 7, 3) := by decide +kernel
theorem dX3_containsValue_20 : decode cX3_containsValue 20 = .ok (.iconst 1, 1) := by decide +kernel
theorem dX3_containsValue_21 : decode cX3_containsValue 21 = .ok (.goto 4, 3) := by decide +kernel
theorem dX3_containsValue_24 : decode cX3_containsValue 24 = .ok (.iconst 0, 1) := by decide +kernel
theorem dX3_containsValue_25 : decode cX3_containsValue 25 = .ok (.ireturn, 1) := by decide +kernel
set_option maxRecDepth 20000 in
theorem ggX3_merge_X3_isFull : GoodIn wsX3_merge wsX3_isFull := goodIn_r _ [6, 7, 8, 9, 10, 5, 11, 12, 13, 14, 15, 34, 35, 36, 37, 38, 39, 40, 41, 42, 43, 44, 45, 46, 47, 48, 49] (by decide +kernel) (by decide +kernel)
set_option maxRecDepth 20000 in
theorem gX3_merge_X3_isFull : GoodIn wsX3_merge (wsV RX3 54 RX3 yX3_isFull wsX3_isFull) := goodIn_app (goodIn_of _ (by decide +kernel)) ggX3_merge_X3_isFull
set_option maxRecDepth 20000 in
theorem ggX3_merge_X3_fails : GoodIn wsX3_merge wsX3_fails := goodIn_r _ [19, 20, 34, 35, 36, 37, 38, 39, 40, 41, 42, 43, 44, 45, 46, 47, 48, 49] (by decide +kernel) (by decide +kernel)
set_option maxRecDepth 20000 in
theorem gX3_merge_X3_fails : GoodIn wsX3_merge (wsV RX3 58 RX3 yX3_fails wsX3_fails) := goodIn_app (goodIn_of _ (by decide +kernel)) ggX3_merge_X3_fails
set_option maxRecDepth 20000 in
theorem ggX3_merge_X3_at : GoodIn wsX3_merge wsX3_at := goodIn_r _ [11, 12, 7, 13, 14, 5, 15, 34, 35, 36, 37, 38, 39, 40, 41, 42, 43, 44, 45, 46, 47, 48, 49] (by decide +kernel) (by decide +kernel)
set_option maxRecDepth 20000 in
theorem gX3_merge_X3_at : GoodIn wsX3_merge (wsV RX3 48 RX3 yX3_at wsX3_at) := goodIn_app (goodIn_of _ (by decide +kernel)) ggX3_merge_X3_at
set_option maxRecDepth 20000 in
theorem ggX3_merge_X3_lays : GoodIn wsX3_merge wsX3_lays := goodIn_r _ [24, 7, 12, 1, 8, 9, 10, 5, 11, 13, 14, 15, 34, 35, 36, 37, 38, 39, 40, 41, 42, 43, 44, 45, 46, 47, 48, 49] (by decide +kernel) (by decide +kernel)
set_option maxRecDepth 20000 in
theorem gX3_merge_X3_lays : GoodIn wsX3_merge (wsV RX3 65 RX3 yX3_lays wsX3_lays) := goodIn_app (goodIn_of _ (by decide +kernel)) ggX3_merge_X3_lays
set_option maxRecDepth 20000 in
theorem ggX3_merge_X3_now : GoodIn wsX3_merge wsX3_now := goodIn_r _ [28, 29, 1, 8, 9, 10, 5, 11, 12, 7, 13, 14, 15, 34, 35, 36, 37, 38, 39, 40, 41, 42, 43, 44, 45, 46, 47, 48, 49] (by decide +kernel) (by decide +kernel)
set_option maxRecDepth 20000 in
theorem gX3_merge_X3_now : GoodIn wsX3_merge (wsV RX3 61 RX3 yX3_now wsX3_now) := goodIn_app (goodIn_of _ (by decide +kernel)) ggX3_merge_X3_now
set_option maxRecDepth 20000 in
theorem ggX3_merge_X3_drops : GoodIn wsX3_merge wsX3_drops := goodIn_r _ [33, 7, 12, 1, 34, 35, 36, 37, 38, 39, 40, 41, 42, 43, 44, 45, 46, 47, 48, 49] (by decide +kernel) (by decide +kernel)
set_option maxRecDepth 20000 in
theorem gX3_merge_X3_drops : GoodIn wsX3_merge (wsV RX3 69 RX3 yX3_drops wsX3_drops) := goodIn_app (goodIn_of _ (by decide +kernel)) ggX3_merge_X3_drops
theorem dX3_merge_0 : decode cX3_merge 0 = .ok (.aload_n 0, 1) := by decide +kernel
theorem dX3_merge_1 : decode cX3_merge 1 = .ok (.aload_n 0, 1) := by decide +kernel
theorem dX3_merge_2 : decode cX3_merge 2 = .ok (.iload_n 1, 1) := by decide +kernel
theorem dX3_merge_3 : decode cX3_merge 3 = .ok (.invokevirtual 54, 3) := by decide +kernel
theorem dX3_merge_6 : decode cX3_merge 6 = .ok (.ifCond .eq 7, 3) := by decide +kernel
theorem dX3_merge_9 : decode cX3_merge 9 = .ok (.iconst 1, 1) := by decide +kernel
theorem dX3_merge_10 : decode cX3_merge 10 = .ok (.goto 4, 3) := by decide +kernel
theorem dX3_merge_13 : decode cX3_merge 13 = .ok (.iconst 0, 1) := by decide +kernel
theorem dX3_merge_14 : decode cX3_merge 14 = .ok (.invokevirtual 58, 3) := by decide +kernel
theorem dX3_merge_17 : decode cX3_merge 17 = .ok (.ifCond .eq 5, 3) := by decide +kernel
theorem dX3_merge_20 : decode cX3_merge 20 = .ok (.lconst 0, 1) := by decide +kernel
theorem dX3_merge_21 : decode cX3_merge 21 = .ok (.lreturn, 1) := by decide +kernel
theorem dX3_merge_22 : decode cX3_merge 22 = .ok (.aload_n 0, 1) := by decide +kernel
theorem dX3_merge_23 : decode cX3_merge 23 = .ok (.iload_n 1, 1) := by decide +kernel
theorem dX3_merge_24 : decode cX3_merge 24 = .ok (.invokevirtual 48, 3) := by decide +kernel
theorem dX3_merge_27 : decode cX3_merge 27 = .ok (.ifCond .lt 7, 3) := by decide +kernel
theorem dX3_merge_30 : decode cX3_merge 30 = .ok (.iconst 1, 1) := by decide +kernel
theorem dX3_merge_31 : decode cX3_merge 31 = .ok (.goto 4, 3) := by decide +kernel
theorem dX3_merge_34 : decode cX3_merge 34 = .ok (.iconst 0, 1) := by decide +kernel
theorem dX3_merge_35 : decode cX3_merge 35 = .ok (.istore_n 3, 1) := by decide +kernel
theorem dX3_merge_36 : decode cX3_merge 36 = .ok (.aload_n 0, 1) := by decide +kernel
theorem dX3_merge_37 : decode cX3_merge 37 = .ok (.iload_n 1, 1) := by decide +kernel
theorem dX3_merge_38 : decode cX3_merge 38 = .ok (.iload_n 3, 1) := by decide +kernel
theorem dX3_merge_39 : decode cX3_merge 39 = .ok (.ifCond .eq 18, 3) := by decide +kernel
theorem dX3_merge_42 : decode cX3_merge 42 = .ok (.aload_n 0, 1) := by decide +kernel
theorem dX3_merge_43 : decode cX3_merge 43 = .ok (.getfield 13, 3) := by decide +kernel
theorem dX3_merge_46 : decode cX3_merge 46 = .ok (.aload_n 0, 1) := by decide +kernel
theorem dX3_merge_47 : decode cX3_merge 47 = .ok (.iload_n 1, 1) := by decide +kernel
theorem dX3_merge_48 : decode cX3_merge 48 = .ok (.invokevirtual 48, 3) := by decide +kernel
theorem dX3_merge_51 : decode cX3_merge 51 = .ok (.iaload, 1) := by decide +kernel
theorem dX3_merge_52 : decode cX3_merge 52 = .ok (.iload_n 2, 1) := by decide +kernel
theorem dX3_merge_53 : decode cX3_merge 53 = .ok (.iadd, 1) := by decide +kernel
theorem dX3_merge_54 : decode cX3_merge 54 = .ok (.goto 4, 3) := by decide +kernel
theorem dX3_merge_57 : decode cX3_merge 57 = .ok (.iload_n 2, 1) := by decide +kernel
theorem dX3_merge_58 : decode cX3_merge 58 = .ok (.invokevirtual 65, 3) := by decide +kernel
theorem dX3_merge_61 : decode cX3_merge 61 = .ok (.iload_n 3, 1) := by decide +kernel
theorem dX3_merge_62 : decode cX3_merge 62 = .ok (.ifCond .eq 22, 3) := by decide +kernel
theorem dX3_merge_65 : decode cX3_merge 65 = .ok (.aload_n 0, 1) := by decide +kernel
theorem dX3_merge_66 : decode cX3_merge 66 = .ok (.iload_n 1, 1) := by decide +kernel
theorem dX3_merge_67 : decode cX3_merge 67 = .ok (.invokevirtual 61, 3) := by decide +kernel
theorem dX3_merge_70 : decode cX3_merge 70 = .ok (.lconst 0, 1) := by decide +kernel
theorem dX3_merge_71 : decode cX3_merge 71 = .ok (.lcmp, 1) := by decide +kernel
theorem dX3_merge_72 : decode cX3_merge 72 = .ok (.ifCond .ne 12, 3) := by decide +kernel
theorem dX3_merge_75 : decode cX3_merge 75 = .ok (.aload_n 0, 1) := by decide +kernel
theorem dX3_merge_76 : decode cX3_merge 76 = .ok (.aload_n 0, 1) := by decide +kernel
theorem dX3_merge_77 : decode cX3_merge 77 = .ok (.iload_n 1, 1) := by decide +kernel
theorem dX3_merge_78 : decode cX3_merge 78 = .ok (.invokevirtual 48, 3) := by decide +kernel
theorem dX3_merge_81 : decode cX3_merge 81 = .ok (.invokevirtual 69, 3) := by decide +kernel
theorem dX3_merge_84 : decode cX3_merge 84 = .ok (.aload_n 0, 1) := by decide +kernel
theorem dX3_merge_85 : decode cX3_merge 85 = .ok (.iload_n 1, 1) := by decide +kernel
theorem dX3_merge_86 : decode cX3_merge 86 = .ok (.invokevirtual 61, 3) := by decide +kernel
theorem dX3_merge_89 : decode cX3_merge 89 = .ok (.lreturn, 1) := by decide +kernel
set_option maxRecDepth 20000 in
theorem ggX3_computeIfAbsent_X3_isFull : GoodIn wsX3_computeIfAbsent wsX3_isFull := goodIn_r _ [5, 6, 7, 8, 9, 4, 10, 11, 12, 13, 14, 30, 31, 32, 33, 34, 35, 36, 37, 38, 39, 40, 41, 42, 43, 44, 45] (by decide +kernel) (by decide +kernel)
set_option maxRecDepth 20000 in
theorem gX3_computeIfAbsent_X3_isFull : GoodIn wsX3_computeIfAbsent (wsV RX3 54 RX3 yX3_isFull wsX3_isFull) := goodIn_app (goodIn_of _ (by decide +kernel)) ggX3_computeIfAbsent_X3_isFull
set_option maxRecDepth 20000 in
theorem ggX3_computeIfAbsent_X3_fails : GoodIn wsX3_computeIfAbsent wsX3_fails := goodIn_r _ [18, 19, 30, 31, 32, 33, 34, 35, 36, 37, 38, 39, 40, 41, 42, 43, 44, 45] (by decide +kernel) (by decide +kernel)
set_option maxRecDepth 20000 in
theorem gX3_computeIfAbsent_X3_fails : GoodIn wsX3_computeIfAbsent (wsV RX3 58 RX3 yX3_fails wsX3_fails) := goodIn_app (goodIn_of _ (by decide +kernel)) ggX3_computeIfAbsent_X3_fails
set_option maxRecDepth 20000 in
theorem ggX3_computeIfAbsent_X3_at : GoodIn wsX3_computeIfAbsent wsX3_at := goodIn_r _ [10, 11, 6, 12, 13, 4, 14, 30, 31, 32, 33, 34, 35, 36, 37, 38, 39, 40, 41, 42, 43, 44, 45] (by decide +kernel) (by decide +kernel)
set_option maxRecDepth 20000 in
theorem gX3_computeIfAbsent_X3_at : GoodIn wsX3_computeIfAbsent (wsV RX3 48 RX3 yX3_at wsX3_at) := goodIn_app (goodIn_of _ (by decide +kernel)) ggX3_computeIfAbsent_X3_at
set_option maxRecDepth 20000 in
theorem ggX3_computeIfAbsent_X3_lays : GoodIn wsX3_computeIfAbsent wsX3_lays := goodIn_r _ [23, 6, 11, 24, 7, 8, 9, 4, 10, 12, 13, 14, 30, 31, 32, 33, 34, 35, 36, 37, 38, 39, 40, 41, 42, 43, 44, 45] (by decide +kernel) (by decide +kernel)
set_option maxRecDepth 20000 in
theorem gX3_computeIfAbsent_X3_lays : GoodIn wsX3_computeIfAbsent (wsV RX3 65 RX3 yX3_lays wsX3_lays) := goodIn_app (goodIn_of _ (by decide +kernel)) ggX3_computeIfAbsent_X3_lays
set_option maxRecDepth 20000 in
theorem ggX3_computeIfAbsent_X3_now : GoodIn wsX3_computeIfAbsent wsX3_now := goodIn_r _ [28, 29, 24, 7, 8, 9, 4, 10, 11, 6, 12, 13, 14, 30, 31, 32, 33, 34, 35, 36, 37, 38, 39, 40, 41, 42, 43, 44, 45] (by decide +kernel) (by decide +kernel)
set_option maxRecDepth 20000 in
theorem gX3_computeIfAbsent_X3_now : GoodIn wsX3_computeIfAbsent (wsV RX3 61 RX3 yX3_now wsX3_now) := goodIn_app (goodIn_of _ (by decide +kernel)) ggX3_computeIfAbsent_X3_now
theorem dX3_computeIfAbsent_0 : decode cX3_computeIfAbsent 0 = .ok (.aload_n 0, 1) := by decide +kernel
theorem dX3_computeIfAbsent_1 : decode cX3_computeIfAbsent 1 = .ok (.aload_n 0, 1) := by decide +kernel
theorem dX3_computeIfAbsent_2 : decode cX3_computeIfAbsent 2 = .ok (.iload_n 1, 1) := by decide +kernel
theorem dX3_computeIfAbsent_3 : decode cX3_computeIfAbsent 3 = .ok (.invokevirtual 54, 3) := by decide +kernel
theorem dX3_computeIfAbsent_6 : decode cX3_computeIfAbsent 6 = .ok (.ifCond .eq 7, 3) := by decide +kernel
theorem dX3_computeIfAbsent_9 : decode cX3_computeIfAbsent 9 = .ok (.iconst 1, 1) := by decide +kernel
theorem dX3_computeIfAbsent_10 : decode cX3_computeIfAbsent 10 = .ok (.goto 4, 3) := by decide +kernel
theorem dX3_computeIfAbsent_13 : decode cX3_computeIfAbsent 13 = .ok (.iconst 0, 1) := by decide +kernel
theorem dX3_computeIfAbsent_14 : decode cX3_computeIfAbsent 14 = .ok (.invokevirtual 58, 3) := by decide +kernel
theorem dX3_computeIfAbsent_17 : decode cX3_computeIfAbsent 17 = .ok (.ifCond .eq 5, 3) := by decide +kernel
theorem dX3_computeIfAbsent_20 : decode cX3_computeIfAbsent 20 = .ok (.lconst 0, 1) := by decide +kernel
theorem dX3_computeIfAbsent_21 : decode cX3_computeIfAbsent 21 = .ok (.lreturn, 1) := by decide +kernel
theorem dX3_computeIfAbsent_22 : decode cX3_computeIfAbsent 22 = .ok (.aload_n 0, 1) := by decide +kernel
theorem dX3_computeIfAbsent_23 : decode cX3_computeIfAbsent 23 = .ok (.iload_n 1, 1) := by decide +kernel
theorem dX3_computeIfAbsent_24 : decode cX3_computeIfAbsent 24 = .ok (.invokevirtual 48, 3) := by decide +kernel
theorem dX3_computeIfAbsent_27 : decode cX3_computeIfAbsent 27 = .ok (.ifCond .ge 20, 3) := by decide +kernel
theorem dX3_computeIfAbsent_30 : decode cX3_computeIfAbsent 30 = .ok (.iload_n 1, 1) := by decide +kernel
theorem dX3_computeIfAbsent_31 : decode cX3_computeIfAbsent 31 = .ok (.bipush 7, 2) := by decide +kernel
theorem dX3_computeIfAbsent_33 : decode cX3_computeIfAbsent 33 = .ok (.irem, 1) := by decide +kernel
theorem dX3_computeIfAbsent_34 : decode cX3_computeIfAbsent 34 = .ok (.ifCond .eq 13, 3) := by decide +kernel
theorem dX3_computeIfAbsent_37 : decode cX3_computeIfAbsent 37 = .ok (.aload_n 0, 1) := by decide +kernel
theorem dX3_computeIfAbsent_38 : decode cX3_computeIfAbsent 38 = .ok (.iload_n 1, 1) := by decide +kernel
theorem dX3_computeIfAbsent_39 : decode cX3_computeIfAbsent 39 = .ok (.iconst 3, 1) := by decide +kernel
theorem dX3_computeIfAbsent_40 : decode cX3_computeIfAbsent 40 = .ok (.iload_n 1, 1) := by decide +kernel
theorem dX3_computeIfAbsent_41 : decode cX3_computeIfAbsent 41 = .ok (.imul, 1) := by decide +kernel
theorem dX3_computeIfAbsent_42 : decode cX3_computeIfAbsent 42 = .ok (.iconst 1, 1) := by decide +kernel
theorem dX3_computeIfAbsent_43 : decode cX3_computeIfAbsent 43 = .ok (.iadd, 1) := by decide +kernel
theorem dX3_computeIfAbsent_44 : decode cX3_computeIfAbsent 44 = .ok (.invokevirtual 65, 3) := by decide +kernel
theorem dX3_computeIfAbsent_47 : decode cX3_computeIfAbsent 47 = .ok (.aload_n 0, 1) := by decide +kernel
theorem dX3_computeIfAbsent_48 : decode cX3_computeIfAbsent 48 = .ok (.iload_n 1, 1) := by decide +kernel
theorem dX3_computeIfAbsent_49 : decode cX3_computeIfAbsent 49 = .ok (.invokevirtual 61, 3) := by decide +kernel
theorem dX3_computeIfAbsent_52 : decode cX3_computeIfAbsent 52 = .ok (.lreturn, 1) := by decide +kernel
set_option maxRecDepth 20000 in
theorem ggX3_computeIfPresent_X3_at : GoodIn wsX3_computeIfPresent wsX3_at := goodIn_r _ [8, 9, 10, 11, 12, 7, 13, 26, 27, 28, 29, 30, 31, 32, 33, 34, 35, 36, 37, 38, 39, 40, 41] (by decide +kernel) (by decide +kernel)
set_option maxRecDepth 20000 in
theorem gX3_computeIfPresent_X3_at : GoodIn wsX3_computeIfPresent (wsV RX3 48 RX3 yX3_at wsX3_at) := goodIn_app (goodIn_of _ (by decide +kernel)) ggX3_computeIfPresent_X3_at
set_option maxRecDepth 20000 in
theorem ggX3_computeIfPresent_X3_drops : GoodIn wsX3_computeIfPresent wsX3_drops := goodIn_r _ [17, 10, 9, 3, 26, 27, 28, 29, 30, 31, 32, 33, 34, 35, 36, 37, 38, 39, 40, 41] (by decide +kernel) (by decide +kernel)
set_option maxRecDepth 20000 in
theorem gX3_computeIfPresent_X3_drops : GoodIn wsX3_computeIfPresent (wsV RX3 69 RX3 yX3_drops wsX3_drops) := goodIn_app (goodIn_of _ (by decide +kernel)) ggX3_computeIfPresent_X3_drops
set_option maxRecDepth 20000 in
theorem ggX3_computeIfPresent_X3_lays : GoodIn wsX3_computeIfPresent wsX3_lays := goodIn_r _ [21, 10, 9, 3, 4, 5, 6, 7, 8, 11, 12, 13, 26, 27, 28, 29, 30, 31, 32, 33, 34, 35, 36, 37, 38, 39, 40, 41] (by decide +kernel) (by decide +kernel)
set_option maxRecDepth 20000 in
theorem gX3_computeIfPresent_X3_lays : GoodIn wsX3_computeIfPresent (wsV RX3 65 RX3 yX3_lays wsX3_lays) := goodIn_app (goodIn_of _ (by decide +kernel)) ggX3_computeIfPresent_X3_lays
set_option maxRecDepth 20000 in
theorem ggX3_computeIfPresent_X3_now : GoodIn wsX3_computeIfPresent wsX3_now := goodIn_r _ [25, 2, 3, 4, 5, 6, 7, 8, 9, 10, 11, 12, 13, 26, 27, 28, 29, 30, 31, 32, 33, 34, 35, 36, 37, 38, 39, 40, 41] (by decide +kernel) (by decide +kernel)
set_option maxRecDepth 20000 in
theorem gX3_computeIfPresent_X3_now : GoodIn wsX3_computeIfPresent (wsV RX3 61 RX3 yX3_now wsX3_now) := goodIn_app (goodIn_of _ (by decide +kernel)) ggX3_computeIfPresent_X3_now
theorem dX3_computeIfPresent_0 : decode cX3_computeIfPresent 0 = .ok (.aload_n 0, 1) := by decide +kernel
theorem dX3_computeIfPresent_1 : decode cX3_computeIfPresent 1 = .ok (.iconst 0, 1) := by decide +kernel
theorem dX3_computeIfPresent_2 : decode cX3_computeIfPresent 2 = .ok (.putfield 38, 3) := by decide +kernel
theorem dX3_computeIfPresent_5 : decode cX3_computeIfPresent 5 = .ok (.aload_n 0, 1) := by decide +kernel
theorem dX3_computeIfPresent_6 : decode cX3_computeIfPresent 6 = .ok (.iload_n 1, 1) := by decide +kernel
theorem dX3_computeIfPresent_7 : decode cX3_computeIfPresent 7 = .ok (.invokevirtual 48, 3) := by decide +kernel
theorem dX3_computeIfPresent_10 : decode cX3_computeIfPresent 10 = .ok (.ifCond .ge 7, 3) := by decide +kernel
theorem dX3_computeIfPresent_13 : decode cX3_computeIfPresent 13 = .ok (.ldc2_w 52, 3) := by decide +kernel
theorem dX3_computeIfPresent_16 : decode cX3_computeIfPresent 16 = .ok (.lreturn, 1) := by decide +kernel
theorem dX3_computeIfPresent_17 : decode cX3_computeIfPresent 17 = .ok (.iconst 2, 1) := by decide +kernel
theorem dX3_computeIfPresent_18 : decode cX3_computeIfPresent 18 = .ok (.aload_n 0, 1) := by decide +kernel
theorem dX3_computeIfPresent_19 : decode cX3_computeIfPresent 19 = .ok (.getfield 13, 3) := by decide +kernel
theorem dX3_computeIfPresent_22 : decode cX3_computeIfPresent 22 = .ok (.aload_n 0, 1) := by decide +kernel
theorem dX3_computeIfPresent_23 : decode cX3_computeIfPresent 23 = .ok (.iload_n 1, 1) := by decide +kernel
theorem dX3_computeIfPresent_24 : decode cX3_computeIfPresent 24 = .ok (.invokevirtual 48, 3) := by decide +kernel
theorem dX3_computeIfPresent_27 : decode cX3_computeIfPresent 27 = .ok (.iaload, 1) := by decide +kernel
theorem dX3_computeIfPresent_28 : decode cX3_computeIfPresent 28 = .ok (.imul, 1) := by decide +kernel
theorem dX3_computeIfPresent_29 : decode cX3_computeIfPresent 29 = .ok (.iload_n 2, 1) := by decide +kernel
theorem dX3_computeIfPresent_30 : decode cX3_computeIfPresent 30 = .ok (.isub, 1) := by decide +kernel
theorem dX3_computeIfPresent_31 : decode cX3_computeIfPresent 31 = .ok (.istore_n 3, 1) := by decide +kernel
theorem dX3_computeIfPresent_32 : decode cX3_computeIfPresent 32 = .ok (.iload_n 3, 1) := by decide +kernel
theorem dX3_computeIfPresent_33 : decode cX3_computeIfPresent 33 = .ok (.bipush 10, 2) := by decide +kernel
theorem dX3_computeIfPresent_35 : decode cX3_computeIfPresent 35 = .ok (.irem, 1) := by decide +kernel
theorem dX3_computeIfPresent_36 : decode cX3_computeIfPresent 36 = .ok (.ifCond .ne 15, 3) := by decide +kernel
theorem dX3_computeIfPresent_39 : decode cX3_computeIfPresent 39 = .ok (.aload_n 0, 1) := by decide +kernel
theorem dX3_computeIfPresent_40 : decode cX3_computeIfPresent 40 = .ok (.aload_n 0, 1) := by decide +kernel
theorem dX3_computeIfPresent_41 : decode cX3_computeIfPresent 41 = .ok (.iload_n 1, 1) := by decide +kernel
theorem dX3_computeIfPresent_42 : decode cX3_computeIfPresent 42 = .ok (.invokevirtual 48, 3) := by decide +kernel
theorem dX3_computeIfPresent_45 : decode cX3_computeIfPresent 45 = .ok (.invokevirtual 69, 3) := by decide +kernel
theorem dX3_computeIfPresent_48 : decode cX3_computeIfPresent 48 = .ok (.goto 9, 3) := by decide +kernel
theorem dX3_computeIfPresent_51 : decode cX3_computeIfPresent 51 = .ok (.aload_n 0, 1) := by decide +kernel
theorem dX3_computeIfPresent_52 : decode cX3_computeIfPresent 52 = .ok (.iload_n 1, 1) := by decide +kernel
theorem dX3_computeIfPresent_53 : decode cX3_computeIfPresent 53 = .ok (.iload_n 3, 1) := by decide +kernel
theorem dX3_computeIfPresent_54 : decode cX3_computeIfPresent 54 = .ok (.invokevirtual 65, 3) := by decide +kernel
theorem dX3_computeIfPresent_57 : decode cX3_computeIfPresent 57 = .ok (.aload_n 0, 1) := by decide +kernel
theorem dX3_computeIfPresent_58 : decode cX3_computeIfPresent 58 = .ok (.iload_n 1, 1) := by decide +kernel
theorem dX3_computeIfPresent_59 : decode cX3_computeIfPresent 59 = .ok (.invokevirtual 61, 3) := by decide +kernel
theorem dX3_computeIfPresent_62 : decode cX3_computeIfPresent 62 = .ok (.lreturn, 1) := by decide +kernel
set_option maxRecDepth 20000 in
theorem ggX3_lacking_X3_at : GoodIn wsX3_lacking wsX3_at := goodIn_r _ [5, 6, 7, 8, 9, 4, 10, 11, 12, 13, 14, 15, 16, 17, 18, 19, 20, 21, 22, 23, 24, 25, 26] (by decide +kernel) (by decide +kernel)
set_option maxRecDepth 20000 in
theorem gX3_lacking_X3_at : GoodIn wsX3_lacking (wsV RX3 48 RX3 yX3_at wsX3_at) := goodIn_app (goodIn_of _ (by decide +kernel)) ggX3_lacking_X3_at
theorem dX3_lacking_0 : decode cX3_lacking 0 = .ok (.iconst 0, 1) := by decide +kernel
theorem dX3_lacking_1 : decode cX3_lacking 1 = .ok (.istore 4, 2) := by decide +kernel
theorem dX3_lacking_3 : decode cX3_lacking 3 = .ok (.iconst 0, 1) := by decide +kernel
theorem dX3_lacking_4 : decode cX3_lacking 4 = .ok (.istore 5, 2) := by decide +kernel
theorem dX3_lacking_6 : decode cX3_lacking 6 = .ok (.iload 5, 2) := by decide +kernel
theorem dX3_lacking_8 : decode cX3_lacking 8 = .ok (.iload_n 3, 1) := by decide +kernel
theorem dX3_lacking_9 : decode cX3_lacking 9 = .ok (.if_icmp .ge 85, 3) := by decide +kernel
theorem dX3_lacking_12 : decode cX3_lacking 12 = .ok (.aload_n 0, 1) := by decide +kernel
theorem dX3_lacking_13 : decode cX3_lacking 13 = .ok (.iload_n 1, 1) := by decide +kernel
theorem dX3_lacking_14 : decode cX3_lacking 14 = .ok (.iload 5, 2) := by decide +kernel
theorem dX3_lacking_16 : decode cX3_lacking 16 = .ok (.iload_n 2, 1) := by decide +kernel
theorem dX3_lacking_17 : decode cX3_lacking 17 = .ok (.imul, 1) := by decide +kernel
theorem dX3_lacking_18 : decode cX3_lacking 18 = .ok (.iadd, 1) := by decide +kernel
theorem dX3_lacking_19 : decode cX3_lacking 19 = .ok (.invokevirtual 48, 3) := by decide +kernel
theorem dX3_lacking_22 : decode cX3_lacking 22 = .ok (.ifCond .ge 7, 3) := by decide +kernel
theorem dX3_lacking_25 : decode cX3_lacking 25 = .ok (.iconst 1, 1) := by decide +kernel
theorem dX3_lacking_26 : decode cX3_lacking 26 = .ok (.goto 4, 3) := by decide +kernel
theorem dX3_lacking_29 : decode cX3_lacking 29 = .ok (.iconst 0, 1) := by decide +kernel
theorem dX3_lacking_30 : decode cX3_lacking 30 = .ok (.istore 6, 2) := by decide +kernel
theorem dX3_lacking_32 : decode cX3_lacking 32 = .ok (.iconst 0, 1) := by decide +kernel
theorem dX3_lacking_33 : decode cX3_lacking 33 = .ok (.istore 7, 2) := by decide +kernel
theorem dX3_lacking_35 : decode cX3_lacking 35 = .ok (.iload 7, 2) := by decide +kernel
theorem dX3_lacking_37 : decode cX3_lacking 37 = .ok (.iload 5, 2) := by decide +kernel
theorem dX3_lacking_39 : decode cX3_lacking 39 = .ok (.if_icmp .ge 34, 3) := by decide +kernel
theorem dX3_lacking_42 : decode cX3_lacking 42 = .ok (.iload 6, 2) := by decide +kernel
theorem dX3_lacking_44 : decode cX3_lacking 44 = .ok (.iload_n 1, 1) := by decide +kernel
theorem dX3_lacking_45 : decode cX3_lacking 45 = .ok (.iload 7, 2) := by decide +kernel
theorem dX3_lacking_47 : decode cX3_lacking 47 = .ok (.iload_n 2, 1) := by decide +kernel
theorem dX3_lacking_48 : decode cX3_lacking 48 = .ok (.imul, 1) := by decide +kernel
theorem dX3_lacking_49 : decode cX3_lacking 49 = .ok (.iadd, 1) := by decide +kernel
theorem dX3_lacking_50 : decode cX3_lacking 50 = .ok (.iload_n 1, 1) := by decide +kernel
theorem dX3_lacking_51 : decode cX3_lacking 51 = .ok (.iload 5, 2) := by decide +kernel
theorem dX3_lacking_53 : decode cX3_lacking 53 = .ok (.iload_n 2, 1) := by decide +kernel
theorem dX3_lacking_54 : decode cX3_lacking 54 = .ok (.imul, 1) := by decide +kernel
theorem dX3_lacking_55 : decode cX3_lacking 55 = .ok (.iadd, 1) := by decide +kernel
theorem dX3_lacking_56 : decode cX3_lacking 56 = .ok (.if_icmp .eq 7, 3) := by decide +kernel
theorem dX3_lacking_59 : decode cX3_lacking 59 = .ok (.iconst 1, 1) := by decide +kernel
theorem dX3_lacking_60 : decode cX3_lacking 60 = .ok (.goto 4, 3) := by decide +kernel
theorem dX3_lacking_63 : decode cX3_lacking 63 = .ok (.iconst 0, 1) := by decide +kernel
theorem dX3_lacking_64 : decode cX3_lacking 64 = .ok (.iand, 1) := by decide +kernel
theorem dX3_lacking_65 : decode cX3_lacking 65 = .ok (.istore 6, 2) := by decide +kernel
theorem dX3_lacking_67 : decode cX3_lacking 67 = .ok (.iinc 7 1, 3) := by decide +kernel
theorem dX3_lacking_70 : decode cX3_lacking 70 = .ok (.goto (-35), 3) := by decide +kernel
theorem dX3_lacking_73 : decode cX3_lacking 73 = .ok (.iload 4, 2) := by decide +kernel
theorem dX3_lacking_75 : decode cX3_lacking 75 = .ok (.iload 6, 2) := by decide +kernel
theorem dX3_lacking_77 : decode cX3_lacking 77 = .ok (.ifCond .eq 7, 3) := by decide +kernel
theorem dX3_lacking_80 : decode cX3_lacking 80 = .ok (.iconst 1, 1) := by decide +kernel
theorem dX3_lacking_81 : decode cX3_lacking 81 = .ok (.goto 4, 3) := by decide +kernel
theorem dX3_lacking_84 : decode cX3_lacking 84 = .ok (.iconst 0, 1) := by decide +kernel
theorem dX3_lacking_85 : decode cX3_lacking 85 = .ok (.iadd, 1) := by decide +kernel
theorem dX3_lacking_86 : decode cX3_lacking 86 = .ok (.istore 4, 2) := by decide +kernel
theorem dX3_lacking_88 : decode cX3_lacking 88 = .ok (.iinc 5 1, 3) := by decide +kernel
theorem dX3_lacking_91 : decode cX3_lacking 91 = .ok (.goto (-85), 3) := by decide +kernel
theorem dX3_lacking_94 : decode cX3_lacking 94 = .ok (.iload 4, 2) := by decide +kernel
theorem dX3_lacking_96 : decode cX3_lacking 96 = .ok (.ireturn, 1) := by decide +kernel
set_option maxRecDepth 20000 in
theorem ggX3_fill_X3_in : GoodIn wsX3_fill wsX3_in := goodIn_r _ [5] (by decide +kernel) (by decide +kernel)
set_option maxRecDepth 20000 in
theorem gX3_fill_X3_in : GoodIn wsX3_fill (va_wsS RX3 73 yX3_in wsX3_in) := goodIn_app (goodIn_of _ (by decide +kernel)) ggX3_fill_X3_in
set_option maxRecDepth 20000 in
theorem ggX3_fill_X3_lacking : GoodIn wsX3_fill wsX3_lacking := goodIn_r _ [9, 10, 11, 12, 4, 13, 14, 1, 15, 16, 17, 28, 29, 30, 31, 32, 33, 34, 35, 36, 37, 38, 39, 40, 41, 42, 43] (by decide +kernel) (by decide +kernel)
set_option maxRecDepth 20000 in
theorem gX3_fill_X3_lacking : GoodIn wsX3_fill (wsV RX3 77 RX3 yX3_lacking wsX3_lacking) := goodIn_app (goodIn_of _ (by decide +kernel)) ggX3_fill_X3_lacking
set_option maxRecDepth 20000 in
theorem ggX3_fill_X3_fails : GoodIn wsX3_fill wsX3_fails := goodIn_r _ [21, 22, 28, 29, 30, 31, 32, 33, 34, 35, 36, 37, 38, 39, 40, 41, 42, 43] (by decide +kernel) (by decide +kernel)
set_option maxRecDepth 20000 in
theorem gX3_fill_X3_fails : GoodIn wsX3_fill (wsV RX3 58 RX3 yX3_fails wsX3_fails) := goodIn_app (goodIn_of _ (by decide +kernel)) ggX3_fill_X3_fails
set_option maxRecDepth 20000 in
theorem ggX3_fill_X3_lays : GoodIn wsX3_fill wsX3_lays := goodIn_r _ [26, 1, 14, 27, 10, 11, 12, 4, 13, 15, 16, 17, 28, 29, 30, 31, 32, 33, 34, 35, 36, 37, 38, 39, 40, 41, 42, 43] (by decide +kernel) (by decide +kernel)
set_option maxRecDepth 20000 in
theorem gX3_fill_X3_lays : GoodIn wsX3_fill (wsV RX3 65 RX3 yX3_lays wsX3_lays) := goodIn_app (goodIn_of _ (by decide +kernel)) ggX3_fill_X3_lays
theorem dX3_fill_0 : decode cX3_fill 0 = .ok (.aload_n 0, 1) := by decide +kernel
theorem dX3_fill_1 : decode cX3_fill 1 = .ok (.iload_n 3, 1) := by decide +kernel
theorem dX3_fill_2 : decode cX3_fill 2 = .ok (.iconst 0, 1) := by decide +kernel
theorem dX3_fill_3 : decode cX3_fill 3 = .ok (.bipush 64, 2) := by decide +kernel
theorem dX3_fill_5 : decode cX3_fill 5 = .ok (.invokestatic 73, 3) := by decide +kernel
theorem dX3_fill_8 : decode cX3_fill 8 = .ok (.ifCond .ne 7, 3) := by decide +kernel
theorem dX3_fill_11 : decode cX3_fill 11 = .ok (.iconst 1, 1) := by decide +kernel
theorem dX3_fill_12 : decode cX3_fill 12 = .ok (.goto 26, 3) := by decide +kernel
theorem dX3_fill_15 : decode cX3_fill 15 = .ok (.aload_n 0, 1) := by decide +kernel
theorem dX3_fill_16 : decode cX3_fill 16 = .ok (.getfield 41, 3) := by decide +kernel
theorem dX3_fill_19 : decode cX3_fill 19 = .ok (.aload_n 0, 1) := by decide +kernel
theorem dX3_fill_20 : decode cX3_fill 20 = .ok (.iload_n 1, 1) := by decide +kernel
theorem dX3_fill_21 : decode cX3_fill 21 = .ok (.iload_n 2, 1) := by decide +kernel
theorem dX3_fill_22 : decode cX3_fill 22 = .ok (.iload_n 3, 1) := by decide +kernel
theorem dX3_fill_23 : decode cX3_fill 23 = .ok (.invokevirtual 77, 3) := by decide +kernel
theorem dX3_fill_26 : decode cX3_fill 26 = .ok (.iadd, 1) := by decide +kernel
theorem dX3_fill_27 : decode cX3_fill 27 = .ok (.sipush 200, 3) := by decide +kernel
theorem dX3_fill_30 : decode cX3_fill 30 = .ok (.if_icmp .le 7, 3) := by decide +kernel
theorem dX3_fill_33 : decode cX3_fill 33 = .ok (.iconst 2, 1) := by decide +kernel
theorem dX3_fill_34 : decode cX3_fill 34 = .ok (.goto 4, 3) := by decide +kernel
theorem dX3_fill_37 : decode cX3_fill 37 = .ok (.iconst 0, 1) := by decide +kernel
theorem dX3_fill_38 : decode cX3_fill 38 = .ok (.invokevirtual 58, 3) := by decide +kernel
theorem dX3_fill_41 : decode cX3_fill 41 = .ok (.ifCond .eq 5, 3) := by decide +kernel
theorem dX3_fill_44 : decode cX3_fill 44 = .ok (.iconst 0, 1) := by decide +kernel
theorem dX3_fill_45 : decode cX3_fill 45 = .ok (.ireturn, 1) := by decide +kernel
theorem dX3_fill_46 : decode cX3_fill 46 = .ok (.iconst 0, 1) := by decide +kernel
theorem dX3_fill_47 : decode cX3_fill 47 = .ok (.istore 4, 2) := by decide +kernel
theorem dX3_fill_49 : decode cX3_fill 49 = .ok (.iload 4, 2) := by decide +kernel
theorem dX3_fill_51 : decode cX3_fill 51 = .ok (.iload_n 3, 1) := by decide +kernel
theorem dX3_fill_52 : decode cX3_fill 52 = .ok (.if_icmp .ge 21, 3) := by decide +kernel
theorem dX3_fill_55 : decode cX3_fill 55 = .ok (.aload_n 0, 1) := by decide +kernel
theorem dX3_fill_56 : decode cX3_fill 56 = .ok (.iload_n 1, 1) := by decide +kernel
theorem dX3_fill_57 : decode cX3_fill 57 = .ok (.iload 4, 2) := by decide +kernel
theorem dX3_fill_59 : decode cX3_fill 59 = .ok (.iload_n 2, 1) := by decide +kernel
theorem dX3_fill_60 : decode cX3_fill 60 = .ok (.imul, 1) := by decide +kernel
theorem dX3_fill_61 : decode cX3_fill 61 = .ok (.iadd, 1) := by decide +kernel
theorem dX3_fill_62 : decode cX3_fill 62 = .ok (.iload 4, 2) := by decide +kernel
theorem dX3_fill_64 : decode cX3_fill 64 = .ok (.invokevirtual 65, 3) := by decide +kernel
theorem dX3_fill_67 : decode cX3_fill 67 = .ok (.iinc 4 1, 3) := by decide +kernel
theorem dX3_fill_70 : decode cX3_fill 70 = .ok (.goto (-21), 3) := by decide +kernel
theorem dX3_fill_73 : decode cX3_fill 73 = .ok (.aload_n 0, 1) := by decide +kernel
theorem dX3_fill_74 : decode cX3_fill 74 = .ok (.getfield 41, 3) := by decide +kernel
theorem dX3_fill_77 : decode cX3_fill 77 = .ok (.ireturn, 1) := by decide +kernel
theorem dX3_addToAll_0 : decode cX3_addToAll 0 = .ok (.aload_n 0, 1) := by decide +kernel
theorem dX3_addToAll_1 : decode cX3_addToAll 1 = .ok (.iconst 0, 1) := by decide +kernel
theorem dX3_addToAll_2 : decode cX3_addToAll 2 = .ok (.putfield 38, 3) := by decide +kernel
theorem dX3_addToAll_5 : decode cX3_addToAll 5 = .ok (.iconst 0, 1) := by decide +kernel
theorem dX3_addToAll_6 : decode cX3_addToAll 6 = .ok (.istore_n 2, 1) := by decide +kernel
theorem dX3_addToAll_7 : decode cX3_addToAll 7 = .ok (.iload_n 2, 1) := by decide +kernel
theorem dX3_addToAll_8 : decode cX3_addToAll 8 = .ok (.aload_n 0, 1) := by decide +kernel
theorem dX3_addToAll_9 : decode cX3_addToAll 9 = .ok (.getfield 41, 3) := by decide +kernel
theorem dX3_addToAll_12 : decode cX3_addToAll 12 = .ok (.if_icmp .ge 19, 3) := by decide +kernel
theorem dX3_addToAll_15 : decode cX3_addToAll 15 = .ok (.aload_n 0, 1) := by decide +kernel
theorem dX3_addToAll_16 : decode cX3_addToAll 16 = .ok (.getfield 13, 3) := by decide +kernel
theorem dX3_addToAll_19 : decode cX3_addToAll 19 = .ok (.iload_n 2, 1) := by decide +kernel
theorem dX3_addToAll_20 : decode cX3_addToAll 20 = .ok (.dup2, 1) := by decide +kernel
theorem dX3_addToAll_21 : decode cX3_addToAll 21 = .ok (.iaload, 1) := by decide +kernel
theorem dX3_addToAll_22 : decode cX3_addToAll 22 = .ok (.iload_n 1, 1) := by decide +kernel
theorem dX3_addToAll_23 : decode cX3_addToAll 23 = .ok (.iadd, 1) := by decide +kernel
theorem dX3_addToAll_24 : decode cX3_addToAll 24 = .ok (.iastore, 1) := by decide +kernel
theorem dX3_addToAll_25 : decode cX3_addToAll 25 = .ok (.iinc 2 1, 3) := by decide +kernel
theorem dX3_addToAll_28 : decode cX3_addToAll 28 = .ok (.goto (-21), 3) := by decide +kernel
theorem dX3_addToAll_31 : decode cX3_addToAll 31 = .ok (.aload_n 0, 1) := by decide +kernel
theorem dX3_addToAll_32 : decode cX3_addToAll 32 = .ok (.getfield 41, 3) := by decide +kernel
theorem dX3_addToAll_35 : decode cX3_addToAll 35 = .ok (.ireturn, 1) := by decide +kernel
set_option maxRecDepth 20000 in
theorem ggX3_dropBelow_X3_drops : GoodIn wsX3_dropBelow wsX3_drops := goodIn_r _ [8, 2, 9, 3, 10, 11, 12, 13, 14, 15, 16, 17, 18, 19, 20, 21, 22, 23, 24, 25] (by decide +kernel) (by decide +kernel)
set_option maxRecDepth 20000 in
theorem gX3_dropBelow_X3_drops : GoodIn wsX3_dropBelow (wsV RX3 69 RX3 yX3_drops wsX3_drops) := goodIn_app (goodIn_of _ (by decide +kernel)) ggX3_dropBelow_X3_drops
theorem dX3_dropBelow_0 : decode cX3_dropBelow 0 = .ok (.aload_n 0, 1) := by decide +kernel
theorem dX3_dropBelow_1 : decode cX3_dropBelow 1 = .ok (.iconst 0, 1) := by decide +kernel
theorem dX3_dropBelow_2 : decode cX3_dropBelow 2 = .ok (.putfield 38, 3) := by decide +kernel
theorem dX3_dropBelow_5 : decode cX3_dropBelow 5 = .ok (.aload_n 0, 1) := by decide +kernel
theorem dX3_dropBelow_6 : decode cX3_dropBelow 6 = .ok (.getfield 41, 3) := by decide +kernel
theorem dX3_dropBelow_9 : decode cX3_dropBelow 9 = .ok (.istore_n 2, 1) := by decide +kernel
theorem dX3_dropBelow_10 : decode cX3_dropBelow 10 = .ok (.aload_n 0, 1) := by decide +kernel
theorem dX3_dropBelow_11 : decode cX3_dropBelow 11 = .ok (.getfield 41, 3) := by decide +kernel
theorem dX3_dropBelow_14 : decode cX3_dropBelow 14 = .ok (.iconst 1, 1) := by decide +kernel
theorem dX3_dropBelow_15 : decode cX3_dropBelow 15 = .ok (.isub, 1) := by decide +kernel
theorem dX3_dropBelow_16 : decode cX3_dropBelow 16 = .ok (.istore_n 3, 1) := by decide +kernel
theorem dX3_dropBelow_17 : decode cX3_dropBelow 17 = .ok (.iload_n 3, 1) := by decide +kernel
theorem dX3_dropBelow_18 : decode cX3_dropBelow 18 = .ok (.ifCond .lt 24, 3) := by decide +kernel
theorem dX3_dropBelow_21 : decode cX3_dropBelow 21 = .ok (.aload_n 0, 1) := by decide +kernel
theorem dX3_dropBelow_22 : decode cX3_dropBelow 22 = .ok (.getfield 13, 3) := by decide +kernel
theorem dX3_dropBelow_25 : decode cX3_dropBelow 25 = .ok (.iload_n 3, 1) := by decide +kernel
theorem dX3_dropBelow_26 : decode cX3_dropBelow 26 = .ok (.iaload, 1) := by decide +kernel
theorem dX3_dropBelow_27 : decode cX3_dropBelow 27 = .ok (.iload_n 1, 1) := by decide +kernel
theorem dX3_dropBelow_28 : decode cX3_dropBelow 28 = .ok (.if_icmp .ge 8, 3) := by decide +kernel
theorem dX3_dropBelow_31 : decode cX3_dropBelow 31 = .ok (.aload_n 0, 1) := by decide +kernel
theorem dX3_dropBelow_32 : decode cX3_dropBelow 32 = .ok (.iload_n 3, 1) := by decide +kernel
theorem dX3_dropBelow_33 : decode cX3_dropBelow 33 = .ok (.invokevirtual 69, 3) := by decide +kernel
theorem dX3_dropBelow_36 : decode cX3_dropBelow 36 = .ok (.iinc 3 (-1), 3) := by decide +kernel
theorem dX3_dropBelow_39 : decode cX3_dropBelow 39 = .ok (.goto (-22), 3) := by decide +kernel
theorem dX3_dropBelow_42 : decode cX3_dropBelow 42 = .ok (.iload_n 2, 1) := by decide +kernel
theorem dX3_dropBelow_43 : decode cX3_dropBelow 43 = .ok (.aload_n 0, 1) := by decide +kernel
theorem dX3_dropBelow_44 : decode cX3_dropBelow 44 = .ok (.getfield 41, 3) := by decide +kernel
theorem dX3_dropBelow_47 : decode cX3_dropBelow 47 = .ok (.isub, 1) := by decide +kernel
theorem dX3_dropBelow_48 : decode cX3_dropBelow 48 = .ok (.ireturn, 1) := by decide +kernel
set_option maxRecDepth 20000 in
theorem ggX3_putShelf_X3_at : GoodIn wsX3_putShelf wsX3_at := goodIn_r _ [9, 10, 3, 11, 12, 8, 13, 24, 25, 26, 27, 28, 29, 30, 31, 32, 33, 34, 35, 36, 37, 38, 39] (by decide +kernel) (by decide +kernel)
set_option maxRecDepth 20000 in
theorem gX3_putShelf_X3_at : GoodIn wsX3_putShelf (wsV RX3 48 RX3 yX3_at wsX3_at) := goodIn_app (goodIn_of _ (by decide +kernel)) ggX3_putShelf_X3_at
set_option maxRecDepth 20000 in
theorem ggX3_putShelf_X3_fails : GoodIn wsX3_putShelf wsX3_fails := goodIn_r _ [17, 18, 24, 25, 26, 27, 28, 29, 30, 31, 32, 33, 34, 35, 36, 37, 38, 39] (by decide +kernel) (by decide +kernel)
set_option maxRecDepth 20000 in
theorem gX3_putShelf_X3_fails : GoodIn wsX3_putShelf (wsV RX3 58 RX3 yX3_fails wsX3_fails) := goodIn_app (goodIn_of _ (by decide +kernel)) ggX3_putShelf_X3_fails
set_option maxRecDepth 20000 in
theorem ggX3_putShelf_X3_lays : GoodIn wsX3_putShelf wsX3_lays := goodIn_r _ [22, 3, 10, 23, 5, 6, 7, 8, 9, 11, 12, 13, 24, 25, 26, 27, 28, 29, 30, 31, 32, 33, 34, 35, 36, 37, 38, 39] (by decide +kernel) (by decide +kernel)
set_option maxRecDepth 20000 in
theorem gX3_putShelf_X3_lays : GoodIn wsX3_putShelf (wsV RX3 65 RX3 yX3_lays wsX3_lays) := goodIn_app (goodIn_of _ (by decide +kernel)) ggX3_putShelf_X3_lays
theorem dX3_putShelf_0 : decode cX3_putShelf 0 = .ok (.iconst 0, 1) := by decide +kernel
theorem dX3_putShelf_1 : decode cX3_putShelf 1 = .ok (.istore_n 1, 1) := by decide +kernel
theorem dX3_putShelf_2 : decode cX3_putShelf 2 = .ok (.iconst 0, 1) := by decide +kernel
theorem dX3_putShelf_3 : decode cX3_putShelf 3 = .ok (.istore_n 2, 1) := by decide +kernel
theorem dX3_putShelf_4 : decode cX3_putShelf 4 = .ok (.iload_n 2, 1) := by decide +kernel
theorem dX3_putShelf_5 : decode cX3_putShelf 5 = .ok (.aload_n 0, 1) := by decide +kernel
theorem dX3_putShelf_6 : decode cX3_putShelf 6 = .ok (.getfield 81, 3) := by decide +kernel
theorem dX3_putShelf_9 : decode cX3_putShelf 9 = .ok (.if_icmp .ge 30, 3) := by decide +kernel
theorem dX3_putShelf_12 : decode cX3_putShelf 12 = .ok (.iload_n 1, 1) := by decide +kernel
theorem dX3_putShelf_13 : decode cX3_putShelf 13 = .ok (.aload_n 0, 1) := by decide +kernel
theorem dX3_putShelf_14 : decode cX3_putShelf 14 = .ok (.aload_n 0, 1) := by decide +kernel
theorem dX3_putShelf_15 : decode cX3_putShelf 15 = .ok (.getfield 25, 3) := by decide +kernel
theorem dX3_putShelf_18 : decode cX3_putShelf 18 = .ok (.iload_n 2, 1) := by decide +kernel
theorem dX3_putShelf_19 : decode cX3_putShelf 19 = .ok (.iaload, 1) := by decide +kernel
theorem dX3_putShelf_20 : decode cX3_putShelf 20 = .ok (.invokevirtual 48, 3) := by decide +kernel
theorem dX3_putShelf_23 : decode cX3_putShelf 23 = .ok (.ifCond .ge 7, 3) := by decide +kernel
theorem dX3_putShelf_26 : decode cX3_putShelf 26 = .ok (.iconst 1, 1) := by decide +kernel
theorem dX3_putShelf_27 : decode cX3_putShelf 27 = .ok (.goto 4, 3) := by decide +kernel
theorem dX3_putShelf_30 : decode cX3_putShelf 30 = .ok (.iconst 0, 1) := by decide +kernel
theorem dX3_putShelf_31 : decode cX3_putShelf 31 = .ok (.iadd, 1) := by decide +kernel
theorem dX3_putShelf_32 : decode cX3_putShelf 32 = .ok (.istore_n 1, 1) := by decide +kernel
theorem dX3_putShelf_33 : decode cX3_putShelf 33 = .ok (.iinc 2 1, 3) := by decide +kernel
theorem dX3_putShelf_36 : decode cX3_putShelf 36 = .ok (.goto (-32), 3) := by decide +kernel
theorem dX3_putShelf_39 : decode cX3_putShelf 39 = .ok (.aload_n 0, 1) := by decide +kernel
theorem dX3_putShelf_40 : decode cX3_putShelf 40 = .ok (.aload_n 0, 1) := by decide +kernel
theorem dX3_putShelf_41 : decode cX3_putShelf 41 = .ok (.getfield 41, 3) := by decide +kernel
theorem dX3_putShelf_44 : decode cX3_putShelf 44 = .ok (.iload_n 1, 1) := by decide +kernel
theorem dX3_putShelf_45 : decode cX3_putShelf 45 = .ok (.iadd, 1) := by decide +kernel
theorem dX3_putShelf_46 : decode cX3_putShelf 46 = .ok (.sipush 200, 3) := by decide +kernel
theorem dX3_putShelf_49 : decode cX3_putShelf 49 = .ok (.if_icmp .le 7, 3) := by decide +kernel
theorem dX3_putShelf_52 : decode cX3_putShelf 52 = .ok (.iconst 1, 1) := by decide +kernel
theorem dX3_putShelf_53 : decode cX3_putShelf 53 = .ok (.goto 4, 3) := by decide +kernel
theorem dX3_putShelf_56 : decode cX3_putShelf 56 = .ok (.iconst 0, 1) := by decide +kernel
theorem dX3_putShelf_57 : decode cX3_putShelf 57 = .ok (.invokevirtual 58, 3) := by decide +kernel
theorem dX3_putShelf_60 : decode cX3_putShelf 60 = .ok (.ifCond .eq 5, 3) := by decide +kernel
theorem dX3_putShelf_63 : decode cX3_putShelf 63 = .ok (.iconst 0, 1) := by decide +kernel
theorem dX3_putShelf_64 : decode cX3_putShelf 64 = .ok (.ireturn, 1) := by decide +kernel
theorem dX3_putShelf_65 : decode cX3_putShelf 65 = .ok (.iconst 0, 1) := by decide +kernel
theorem dX3_putShelf_66 : decode cX3_putShelf 66 = .ok (.istore_n 2, 1) := by decide +kernel
theorem dX3_putShelf_67 : decode cX3_putShelf 67 = .ok (.iload_n 2, 1) := by decide +kernel
theorem dX3_putShelf_68 : decode cX3_putShelf 68 = .ok (.aload_n 0, 1) := by decide +kernel
theorem dX3_putShelf_69 : decode cX3_putShelf 69 = .ok (.getfield 81, 3) := by decide +kernel
theorem dX3_putShelf_72 : decode cX3_putShelf 72 = .ok (.if_icmp .ge 25, 3) := by decide +kernel
theorem dX3_putShelf_75 : decode cX3_putShelf 75 = .ok (.aload_n 0, 1) := by decide +kernel
theorem dX3_putShelf_76 : decode cX3_putShelf 76 = .ok (.aload_n 0, 1) := by decide +kernel
theorem dX3_putShelf_77 : decode cX3_putShelf 77 = .ok (.getfield 25, 3) := by decide +kernel
theorem dX3_putShelf_80 : decode cX3_putShelf 80 = .ok (.iload_n 2, 1) := by decide +kernel
theorem dX3_putShelf_81 : decode cX3_putShelf 81 = .ok (.iaload, 1) := by decide +kernel
theorem dX3_putShelf_82 : decode cX3_putShelf 82 = .ok (.aload_n 0, 1) := by decide +kernel
theorem dX3_putShelf_83 : decode cX3_putShelf 83 = .ok (.getfield 28, 3) := by decide +kernel
theorem dX3_putShelf_86 : decode cX3_putShelf 86 = .ok (.iload_n 2, 1) := by decide +kernel
theorem dX3_putShelf_87 : decode cX3_putShelf 87 = .ok (.iaload, 1) := by decide +kernel
theorem dX3_putShelf_88 : decode cX3_putShelf 88 = .ok (.invokevirtual 65, 3) := by decide +kernel
theorem dX3_putShelf_91 : decode cX3_putShelf 91 = .ok (.iinc 2 1, 3) := by decide +kernel
theorem dX3_putShelf_94 : decode cX3_putShelf 94 = .ok (.goto (-27), 3) := by decide +kernel
theorem dX3_putShelf_97 : decode cX3_putShelf 97 = .ok (.aload_n 0, 1) := by decide +kernel
theorem dX3_putShelf_98 : decode cX3_putShelf 98 = .ok (.getfield 41, 3) := by decide +kernel
theorem dX3_putShelf_101 : decode cX3_putShelf 101 = .ok (.ireturn, 1) := by decide +kernel
theorem dX3_size_0 : decode cX3_size 0 = .ok (.aload_n 0, 1) := by decide +kernel
theorem dX3_size_1 : decode cX3_size 1 = .ok (.iconst 0, 1) := by decide +kernel
theorem dX3_size_2 : decode cX3_size 2 = .ok (.putfield 38, 3) := by decide +kernel
theorem dX3_size_5 : decode cX3_size 5 = .ok (.aload_n 0, 1) := by decide +kernel
theorem dX3_size_6 : decode cX3_size 6 = .ok (.getfield 41, 3) := by decide +kernel
theorem dX3_size_9 : decode cX3_size 9 = .ok (.ireturn, 1) := by decide +kernel
theorem dX3_clear_0 : decode cX3_clear 0 = .ok (.aload_n 0, 1) := by decide +kernel
theorem dX3_clear_1 : decode cX3_clear 1 = .ok (.iconst 0, 1) := by decide +kernel
theorem dX3_clear_2 : decode cX3_clear 2 = .ok (.putfield 38, 3) := by decide +kernel
theorem dX3_clear_5 : decode cX3_clear 5 = .ok (.aload_n 0, 1) := by decide +kernel
theorem dX3_clear_6 : decode cX3_clear 6 = .ok (.getfield 41, 3) := by decide +kernel
theorem dX3_clear_9 : decode cX3_clear 9 = .ok (.istore_n 1, 1) := by decide +kernel
theorem dX3_clear_10 : decode cX3_clear 10 = .ok (.aload_n 0, 1) := by decide +kernel
theorem dX3_clear_11 : decode cX3_clear 11 = .ok (.iconst 0, 1) := by decide +kernel
theorem dX3_clear_12 : decode cX3_clear 12 = .ok (.putfield 41, 3) := by decide +kernel
theorem dX3_clear_15 : decode cX3_clear 15 = .ok (.iload_n 1, 1) := by decide +kernel
theorem dX3_clear_16 : decode cX3_clear 16 = .ok (.ireturn, 1) := by decide +kernel
theorem dX3_sumOfKeys_0 : decode cX3_sumOfKeys 0 = .ok (.aload_n 0, 1) := by decide +kernel
theorem dX3_sumOfKeys_1 : decode cX3_sumOfKeys 1 = .ok (.iconst 0, 1) := by decide +kernel
theorem dX3_sumOfKeys_2 : decode cX3_sumOfKeys 2 = .ok (.putfield 38, 3) := by decide +kernel
theorem dX3_sumOfKeys_5 : decode cX3_sumOfKeys 5 = .ok (.lconst 0, 1) := by decide +kernel
theorem dX3_sumOfKeys_6 : decode cX3_sumOfKeys 6 = .ok (.lstore_n 1, 1) := by decide +kernel
theorem dX3_sumOfKeys_7 : decode cX3_sumOfKeys 7 = .ok (.iconst 0, 1) := by decide +kernel
theorem dX3_sumOfKeys_8 : decode cX3_sumOfKeys 8 = .ok (.istore_n 3, 1) := by decide +kernel
theorem dX3_sumOfKeys_9 : decode cX3_sumOfKeys 9 = .ok (.iload_n 3, 1) := by decide +kernel
theorem dX3_sumOfKeys_10 : decode cX3_sumOfKeys 10 = .ok (.aload_n 0, 1) := by decide +kernel
theorem dX3_sumOfKeys_11 : decode cX3_sumOfKeys 11 = .ok (.getfield 41, 3) := by decide +kernel
theorem dX3_sumOfKeys_14 : decode cX3_sumOfKeys 14 = .ok (.if_icmp .ge 19, 3) := by decide +kernel
theorem dX3_sumOfKeys_17 : decode cX3_sumOfKeys 17 = .ok (.lload_n 1, 1) := by decide +kernel
theorem dX3_sumOfKeys_18 : decode cX3_sumOfKeys 18 = .ok (.aload_n 0, 1) := by decide +kernel
theorem dX3_sumOfKeys_19 : decode cX3_sumOfKeys 19 = .ok (.getfield 7, 3) := by decide +kernel
theorem dX3_sumOfKeys_22 : decode cX3_sumOfKeys 22 = .ok (.iload_n 3, 1) := by decide +kernel
theorem dX3_sumOfKeys_23 : decode cX3_sumOfKeys 23 = .ok (.iaload, 1) := by decide +kernel
theorem dX3_sumOfKeys_24 : decode cX3_sumOfKeys 24 = .ok (.i2l, 1) := by decide +kernel
theorem dX3_sumOfKeys_25 : decode cX3_sumOfKeys 25 = .ok (.ladd, 1) := by decide +kernel
theorem dX3_sumOfKeys_26 : decode cX3_sumOfKeys 26 = .ok (.lstore_n 1, 1) := by decide +kernel
theorem dX3_sumOfKeys_27 : decode cX3_sumOfKeys 27 = .ok (.iinc 3 1, 3) := by decide +kernel
theorem dX3_sumOfKeys_30 : decode cX3_sumOfKeys 30 = .ok (.goto (-21), 3) := by decide +kernel
theorem dX3_sumOfKeys_33 : decode cX3_sumOfKeys 33 = .ok (.lload_n 1, 1) := by decide +kernel
theorem dX3_sumOfKeys_34 : decode cX3_sumOfKeys 34 = .ok (.lreturn, 1) := by decide +kernel
theorem dX3_sumOfValues_0 : decode cX3_sumOfValues 0 = .ok (.aload_n 0, 1) := by decide +kernel
theorem dX3_sumOfValues_1 : decode cX3_sumOfValues 1 = .ok (.iconst 0, 1) := by decide +kernel
theorem dX3_sumOfValues_2 : decode cX3_sumOfValues 2 = .ok (.putfield 38, 3) := by decide +kernel
theorem dX3_sumOfValues_5 : decode cX3_sumOfValues 5 = .ok (.lconst 0, 1) := by decide +kernel
theorem dX3_sumOfValues_6 : decode cX3_sumOfValues 6 = .ok (.lstore_n 1, 1) := by decide +kernel
theorem dX3_sumOfValues_7 : decode cX3_sumOfValues 7 = .ok (.iconst 0, 1) := by decide +kernel
theorem dX3_sumOfValues_8 : decode cX3_sumOfValues 8 = .ok (.istore_n 3, 1) := by decide +kernel
theorem dX3_sumOfValues_9 : decode cX3_sumOfValues 9 = .ok (.iload_n 3, 1) := by decide +kernel
theorem dX3_sumOfValues_10 : decode cX3_sumOfValues 10 = .ok (.aload_n 0, 1) := by decide +kernel
theorem dX3_sumOfValues_11 : decode cX3_sumOfValues 11 = .ok (.getfield 41, 3) := by decide +kernel
theorem dX3_sumOfValues_14 : decode cX3_sumOfValues 14 = .ok (.if_icmp .ge 19, 3) := by decide +kernel
theorem dX3_sumOfValues_17 : decode cX3_sumOfValues 17 = .ok (.lload_n 1, 1) := by decide +kernel
theorem dX3_sumOfValues_18 : decode cX3_sumOfValues 18 = .ok (.aload_n 0, 1) := by decide +kernel
theorem dX3_sumOfValues_19 : decode cX3_sumOfValues 19 = .ok (.getfield 13, 3) := by decide +kernel
theorem dX3_sumOfValues_22 : decode cX3_sumOfValues 22 = .ok (.iload_n 3, 1) := by decide +kernel
theorem dX3_sumOfValues_23 : decode cX3_sumOfValues 23 = .ok (.iaload, 1) := by decide +kernel
theorem dX3_sumOfValues_24 : decode cX3_sumOfValues 24 = .ok (.i2l, 1) := by decide +kernel
theorem dX3_sumOfValues_25 : decode cX3_sumOfValues 25 = .ok (.ladd, 1) := by decide +kernel
theorem dX3_sumOfValues_26 : decode cX3_sumOfValues 26 = .ok (.lstore_n 1, 1) := by decide +kernel
theorem dX3_sumOfValues_27 : decode cX3_sumOfValues 27 = .ok (.iinc 3 1, 3) := by decide +kernel
theorem dX3_sumOfValues_30 : decode cX3_sumOfValues 30 = .ok (.goto (-21), 3) := by decide +kernel
theorem dX3_sumOfValues_33 : decode cX3_sumOfValues 33 = .ok (.lload_n 1, 1) := by decide +kernel
theorem dX3_sumOfValues_34 : decode cX3_sumOfValues 34 = .ok (.lreturn, 1) := by decide +kernel
theorem dX3_sum_0 : decode cX3_sum 0 = .ok (.aload_n 0, 1) := by decide +kernel
theorem dX3_sum_1 : decode cX3_sum 1 = .ok (.iconst 0, 1) := by decide +kernel
theorem dX3_sum_2 : decode cX3_sum 2 = .ok (.putfield 38, 3) := by decide +kernel
theorem dX3_sum_5 : decode cX3_sum 5 = .ok (.lconst 0, 1) := by decide +kernel
theorem dX3_sum_6 : decode cX3_sum 6 = .ok (.lstore_n 1, 1) := by decide +kernel
theorem dX3_sum_7 : decode cX3_sum 7 = .ok (.iconst 0, 1) := by decide +kernel
theorem dX3_sum_8 : decode cX3_sum 8 = .ok (.istore_n 3, 1) := by decide +kernel
theorem dX3_sum_9 : decode cX3_sum 9 = .ok (.iload_n 3, 1) := by decide +kernel
theorem dX3_sum_10 : decode cX3_sum 10 = .ok (.aload_n 0, 1) := by decide +kernel
theorem dX3_sum_11 : decode cX3_sum 11 = .ok (.getfield 41, 3) := by decide +kernel
theorem dX3_sum_14 : decode cX3_sum 14 = .ok (.if_icmp .ge 43, 3) := by decide +kernel
theorem dX3_sum_17 : decode cX3_sum 17 = .ok (.lload_n 1, 1) := by decide +kernel
theorem dX3_sum_18 : decode cX3_sum 18 = .ok (.ldc2_w 84, 3) := by decide +kernel
theorem dX3_sum_21 : decode cX3_sum 21 = .ok (.aload_n 0, 1) := by decide +kernel
theorem dX3_sum_22 : decode cX3_sum 22 = .ok (.getfield 7, 3) := by decide +kernel
theorem dX3_sum_25 : decode cX3_sum 25 = .ok (.iload_n 3, 1) := by decide +kernel
theorem dX3_sum_26 : decode cX3_sum 26 = .ok (.iaload, 1) := by decide +kernel
theorem dX3_sum_27 : decode cX3_sum 27 = .ok (.i2l, 1) := by decide +kernel
theorem dX3_sum_28 : decode cX3_sum 28 = .ok (.lmul, 1) := by decide +kernel
theorem dX3_sum_29 : decode cX3_sum 29 = .ok (.aload_n 0, 1) := by decide +kernel
theorem dX3_sum_30 : decode cX3_sum 30 = .ok (.getfield 13, 3) := by decide +kernel
theorem dX3_sum_33 : decode cX3_sum 33 = .ok (.iload_n 3, 1) := by decide +kernel
theorem dX3_sum_34 : decode cX3_sum 34 = .ok (.iaload, 1) := by decide +kernel
theorem dX3_sum_35 : decode cX3_sum 35 = .ok (.i2l, 1) := by decide +kernel
theorem dX3_sum_36 : decode cX3_sum 36 = .ok (.ladd, 1) := by decide +kernel
theorem dX3_sum_37 : decode cX3_sum 37 = .ok (.aload_n 0, 1) := by decide +kernel
theorem dX3_sum_38 : decode cX3_sum 38 = .ok (.getfield 13, 3) := by decide +kernel
theorem dX3_sum_41 : decode cX3_sum 41 = .ok (.iload_n 3, 1) := by decide +kernel
theorem dX3_sum_42 : decode cX3_sum 42 = .ok (.iaload, 1) := by decide +kernel
theorem dX3_sum_43 : decode cX3_sum 43 = .ok (.i2l, 1) := by decide +kernel
theorem dX3_sum_44 : decode cX3_sum 44 = .ok (.ldc2_w 86, 3) := by decide +kernel
theorem dX3_sum_47 : decode cX3_sum 47 = .ok (.lsub, 1) := by decide +kernel
theorem dX3_sum_48 : decode cX3_sum 48 = .ok (.lmul, 1) := by decide +kernel
theorem dX3_sum_49 : decode cX3_sum 49 = .ok (.ladd, 1) := by decide +kernel
theorem dX3_sum_50 : decode cX3_sum 50 = .ok (.lstore_n 1, 1) := by decide +kernel
theorem dX3_sum_51 : decode cX3_sum 51 = .ok (.iinc 3 1, 3) := by decide +kernel
theorem dX3_sum_54 : decode cX3_sum 54 = .ok (.goto (-45), 3) := by decide +kernel
theorem dX3_sum_57 : decode cX3_sum 57 = .ok (.lload_n 1, 1) := by decide +kernel
theorem dX3_sum_58 : decode cX3_sum 58 = .ok (.lreturn, 1) := by decide +kernel
set_option maxRecDepth 20000 in
theorem ggX3_count_X3_find : GoodIn wsX3_count wsX3_find := goodIn_r _ [7] (by decide +kernel) (by decide +kernel)
set_option maxRecDepth 20000 in
theorem gX3_count_X3_find : GoodIn wsX3_count (va_wsS RX3 44 yX3_find wsX3_find) := goodIn_app (goodIn_of _ (by decide +kernel)) ggX3_count_X3_find
set_option maxRecDepth 20000 in
theorem ggX3_count_X3_in : GoodIn wsX3_count wsX3_in := goodIn_r _ [10] (by decide +kernel) (by decide +kernel)
set_option maxRecDepth 20000 in
theorem gX3_count_X3_in : GoodIn wsX3_count (va_wsS RX3 73 yX3_in wsX3_in) := goodIn_app (goodIn_of _ (by decide +kernel)) ggX3_count_X3_in
set_option maxRecDepth 20000 in
theorem ggX3_count_X3_fails : GoodIn wsX3_count wsX3_fails := goodIn_r _ [14, 15, 16, 17, 18, 19, 20, 21, 22, 23, 24, 25, 26, 27, 28, 29, 30, 31] (by decide +kernel) (by decide +kernel)
set_option maxRecDepth 20000 in
theorem gX3_count_X3_fails : GoodIn wsX3_count (wsV RX3 58 RX3 yX3_fails wsX3_fails) := goodIn_app (goodIn_of _ (by decide +kernel)) ggX3_count_X3_fails
theorem dX3_count_0 : decode cX3_count 0 = .ok (.aload_n 0, 1) := by decide +kernel
theorem dX3_count_1 : decode cX3_count 1 = .ok (.getfield 16, 3) := by decide +kernel
theorem dX3_count_4 : decode cX3_count 4 = .ok (.aload_n 0, 1) := by decide +kernel
theorem dX3_count_5 : decode cX3_count 5 = .ok (.getfield 88, 3) := by decide +kernel
theorem dX3_count_8 : decode cX3_count 8 = .ok (.iload_n 1, 1) := by decide +kernel
theorem dX3_count_9 : decode cX3_count 9 = .ok (.invokestatic 44, 3) := by decide +kernel
theorem dX3_count_12 : decode cX3_count 12 = .ok (.istore_n 2, 1) := by decide +kernel
theorem dX3_count_13 : decode cX3_count 13 = .ok (.aload_n 0, 1) := by decide +kernel
theorem dX3_count_14 : decode cX3_count 14 = .ok (.iload_n 1, 1) := by decide +kernel
theorem dX3_count_15 : decode cX3_count 15 = .ok (.iconst 0, 1) := by decide +kernel
theorem dX3_count_16 : decode cX3_count 16 = .ok (.sipush 18277, 3) := by decide +kernel
theorem dX3_count_19 : decode cX3_count 19 = .ok (.invokestatic 73, 3) := by decide +kernel
theorem dX3_count_22 : decode cX3_count 22 = .ok (.ifCond .ne 7, 3) := by decide +kernel
theorem dX3_count_25 : decode cX3_count 25 = .ok (.iconst 1, 1) := by decide +kernel
theorem dX3_count_26 : decode cX3_count 26 = .ok (.goto 22, 3) := by decide +kernel
theorem dX3_count_29 : decode cX3_count 29 = .ok (.iload_n 2, 1) := by decide +kernel
theorem dX3_count_30 : decode cX3_count 30 = .ok (.ifCond .ge 17, 3) := by decide +kernel
theorem dX3_count_33 : decode cX3_count 33 = .ok (.aload_n 0, 1) := by decide +kernel
theorem dX3_count_34 : decode cX3_count 34 = .ok (.getfield 88, 3) := by decide +kernel
theorem dX3_count_37 : decode cX3_count 37 = .ok (.sipush 200, 3) := by decide +kernel
theorem dX3_count_40 : decode cX3_count 40 = .ok (.if_icmp .ne 7, 3) := by decide +kernel
theorem dX3_count_43 : decode cX3_count 43 = .ok (.iconst 2, 1) := by decide +kernel
theorem dX3_count_44 : decode cX3_count 44 = .ok (.goto 4, 3) := by decide +kernel
theorem dX3_count_47 : decode cX3_count 47 = .ok (.iconst 0, 1) := by decide +kernel
theorem dX3_count_48 : decode cX3_count 48 = .ok (.invokevirtual 58, 3) := by decide +kernel
theorem dX3_count_51 : decode cX3_count 51 = .ok (.ifCond .eq 5, 3) := by decide +kernel
theorem dX3_count_54 : decode cX3_count 54 = .ok (.iconst 0, 1) := by decide +kernel
theorem dX3_count_55 : decode cX3_count 55 = .ok (.ireturn, 1) := by decide +kernel
theorem dX3_count_56 : decode cX3_count 56 = .ok (.iload_n 2, 1) := by decide +kernel
theorem dX3_count_57 : decode cX3_count 57 = .ok (.ifCond .ge 32, 3) := by decide +kernel
theorem dX3_count_60 : decode cX3_count 60 = .ok (.aload_n 0, 1) := by decide +kernel
theorem dX3_count_61 : decode cX3_count 61 = .ok (.getfield 88, 3) := by decide +kernel
theorem dX3_count_64 : decode cX3_count 64 = .ok (.istore_n 2, 1) := by decide +kernel
theorem dX3_count_65 : decode cX3_count 65 = .ok (.aload_n 0, 1) := by decide +kernel
theorem dX3_count_66 : decode cX3_count 66 = .ok (.getfield 16, 3) := by decide +kernel
theorem dX3_count_69 : decode cX3_count 69 = .ok (.iload_n 2, 1) := by decide +kernel
theorem dX3_count_70 : decode cX3_count 70 = .ok (.iload_n 1, 1) := by decide +kernel
theorem dX3_count_71 : decode cX3_count 71 = .ok (.iastore, 1) := by decide +kernel
theorem dX3_count_72 : decode cX3_count 72 = .ok (.aload_n 0, 1) := by decide +kernel
theorem dX3_count_73 : decode cX3_count 73 = .ok (.getfield 19, 3) := by decide +kernel
theorem dX3_count_76 : decode cX3_count 76 = .ok (.iload_n 2, 1) := by decide +kernel
theorem dX3_count_77 : decode cX3_count 77 = .ok (.iconst 0, 1) := by decide +kernel
theorem dX3_count_78 : decode cX3_count 78 = .ok (.iastore, 1) := by decide +kernel
theorem dX3_count_79 : decode cX3_count 79 = .ok (.aload_n 0, 1) := by decide +kernel
theorem dX3_count_80 : decode cX3_count 80 = .ok (.dup, 1) := by decide +kernel
theorem dX3_count_81 : decode cX3_count 81 = .ok (.getfield 88, 3) := by decide +kernel
theorem dX3_count_84 : decode cX3_count 84 = .ok (.iconst 1, 1) := by decide +kernel
theorem dX3_count_85 : decode cX3_count 85 = .ok (.iadd, 1) := by decide +kernel
theorem dX3_count_86 : decode cX3_count 86 = .ok (.putfield 88, 3) := by decide +kernel
theorem dX3_count_89 : decode cX3_count 89 = .ok (.aload_n 0, 1) := by decide +kernel
theorem dX3_count_90 : decode cX3_count 90 = .ok (.getfield 19, 3) := by decide +kernel
theorem dX3_count_93 : decode cX3_count 93 = .ok (.iload_n 2, 1) := by decide +kernel
theorem dX3_count_94 : decode cX3_count 94 = .ok (.dup2, 1) := by decide +kernel
theorem dX3_count_95 : decode cX3_count 95 = .ok (.iaload, 1) := by decide +kernel
theorem dX3_count_96 : decode cX3_count 96 = .ok (.iconst 1, 1) := by decide +kernel
theorem dX3_count_97 : decode cX3_count 97 = .ok (.iadd, 1) := by decide +kernel
theorem dX3_count_98 : decode cX3_count 98 = .ok (.iastore, 1) := by decide +kernel
theorem dX3_count_99 : decode cX3_count 99 = .ok (.aload_n 0, 1) := by decide +kernel
theorem dX3_count_100 : decode cX3_count 100 = .ok (.getfield 19, 3) := by decide +kernel
theorem dX3_count_103 : decode cX3_count 103 = .ok (.iload_n 2, 1) := by decide +kernel
theorem dX3_count_104 : decode cX3_count 104 = .ok (.iaload, 1) := by decide +kernel
theorem dX3_count_105 : decode cX3_count 105 = .ok (.ireturn, 1) := by decide +kernel
set_option maxRecDepth 20000 in
theorem ggX3_timesOf_X3_find : GoodIn wsX3_timesOf wsX3_find := goodIn_r _ [7] (by decide +kernel) (by decide +kernel)
set_option maxRecDepth 20000 in
theorem gX3_timesOf_X3_find : GoodIn wsX3_timesOf (va_wsS RX3 44 yX3_find wsX3_find) := goodIn_app (goodIn_of _ (by decide +kernel)) ggX3_timesOf_X3_find
theorem dX3_timesOf_0 : decode cX3_timesOf 0 = .ok (.aload_n 0, 1) := by decide +kernel
theorem dX3_timesOf_1 : decode cX3_timesOf 1 = .ok (.getfield 16, 3) := by decide +kernel
theorem dX3_timesOf_4 : decode cX3_timesOf 4 = .ok (.aload_n 0, 1) := by decide +kernel
theorem dX3_timesOf_5 : decode cX3_timesOf 5 = .ok (.getfield 88, 3) := by decide +kernel
theorem dX3_timesOf_8 : decode cX3_timesOf 8 = .ok (.iload_n 1, 1) := by decide +kernel
theorem dX3_timesOf_9 : decode cX3_timesOf 9 = .ok (.invokestatic 44, 3) := by decide +kernel
theorem dX3_timesOf_12 : decode cX3_timesOf 12 = .ok (.istore_n 2, 1) := by decide +kernel
theorem dX3_timesOf_13 : decode cX3_timesOf 13 = .ok (.iload_n 2, 1) := by decide +kernel
theorem dX3_timesOf_14 : decode cX3_timesOf 14 = .ok (.ifCond .ge 7, 3) := by decide +kernel
theorem dX3_timesOf_17 : decode cX3_timesOf 17 = .ok (.iconst 0, 1) := by decide +kernel
theorem dX3_timesOf_18 : decode cX3_timesOf 18 = .ok (.goto 9, 3) := by decide +kernel
theorem dX3_timesOf_21 : decode cX3_timesOf 21 = .ok (.aload_n 0, 1) := by decide +kernel
theorem dX3_timesOf_22 : decode cX3_timesOf 22 = .ok (.getfield 19, 3) := by decide +kernel
theorem dX3_timesOf_25 : decode cX3_timesOf 25 = .ok (.iload_n 2, 1) := by decide +kernel
theorem dX3_timesOf_26 : decode cX3_timesOf 26 = .ok (.iaload, 1) := by decide +kernel
theorem dX3_timesOf_27 : decode cX3_timesOf 27 = .ok (.ireturn, 1) := by decide +kernel
set_option maxRecDepth 20000 in
theorem ggX3_times_X3_in : GoodIn wsX3_times wsX3_in := goodIn_r _ [4] (by decide +kernel) (by decide +kernel)
set_option maxRecDepth 20000 in
theorem gX3_times_X3_in : GoodIn wsX3_times (va_wsS RX3 73 yX3_in wsX3_in) := goodIn_app (goodIn_of _ (by decide +kernel)) ggX3_times_X3_in
set_option maxRecDepth 20000 in
theorem ggX3_times_X3_fails : GoodIn wsX3_times wsX3_fails := goodIn_r _ [8, 9, 20, 21, 22, 23, 24, 25, 26, 27, 28, 29, 30, 31, 32, 33, 34, 35] (by decide +kernel) (by decide +kernel)
set_option maxRecDepth 20000 in
theorem gX3_times_X3_fails : GoodIn wsX3_times (wsV RX3 58 RX3 yX3_fails wsX3_fails) := goodIn_app (goodIn_of _ (by decide +kernel)) ggX3_times_X3_fails
set_option maxRecDepth 20000 in
theorem ggX3_times_X3_timesOf : GoodIn wsX3_times wsX3_timesOf := goodIn_r _ [13, 14, 15, 16, 17, 18, 3, 19, 20, 21, 22, 23, 24, 25, 26, 27, 28, 29, 30, 31, 32, 33, 34, 35] (by decide +kernel) (by decide +kernel)
set_option maxRecDepth 20000 in
theorem gX3_times_X3_timesOf : GoodIn wsX3_times (wsV RX3 91 RX3 yX3_timesOf wsX3_timesOf) := goodIn_app (goodIn_of _ (by decide +kernel)) ggX3_times_X3_timesOf
theorem dX3_times_0 : decode cX3_times 0 = .ok (.aload_n 0, 1) := by decide +kernel
theorem dX3_times_1 : decode cX3_times 1 = .ok (.iload_n 1, 1) := by decide +kernel
theorem dX3_times_2 : decode cX3_times 2 = .ok (.iconst 0, 1) := by decide +kernel
theorem dX3_times_3 : decode cX3_times 3 = .ok (.sipush 18277, 3) := by decide +kernel
theorem dX3_times_6 : decode cX3_times 6 = .ok (.invokestatic 73, 3) := by decide +kernel
theorem dX3_times_9 : decode cX3_times 9 = .ok (.ifCond .eq 7, 3) := by decide +kernel
theorem dX3_times_12 : decode cX3_times 12 = .ok (.iconst 0, 1) := by decide +kernel
theorem dX3_times_13 : decode cX3_times 13 = .ok (.goto 4, 3) := by decide +kernel
theorem dX3_times_16 : decode cX3_times 16 = .ok (.iconst 1, 1) := by decide +kernel
theorem dX3_times_17 : decode cX3_times 17 = .ok (.invokevirtual 58, 3) := by decide +kernel
theorem dX3_times_20 : decode cX3_times 20 = .ok (.ifCond .eq 7, 3) := by decide +kernel
theorem dX3_times_23 : decode cX3_times 23 = .ok (.iconst 0, 1) := by decide +kernel
theorem dX3_times_24 : decode cX3_times 24 = .ok (.goto 8, 3) := by decide +kernel
theorem dX3_times_27 : decode cX3_times 27 = .ok (.aload_n 0, 1) := by decide +kernel
theorem dX3_times_28 : decode cX3_times 28 = .ok (.iload_n 1, 1) := by decide +kernel
theorem dX3_times_29 : decode cX3_times 29 = .ok (.invokevirtual 91, 3) := by decide +kernel
theorem dX3_times_32 : decode cX3_times 32 = .ok (.ireturn, 1) := by decide +kernel
set_option maxRecDepth 20000 in
theorem ggX3_forget_X3_in : GoodIn wsX3_forget wsX3_in := goodIn_r _ [7] (by decide +kernel) (by decide +kernel)
set_option maxRecDepth 20000 in
theorem gX3_forget_X3_in : GoodIn wsX3_forget (va_wsS RX3 73 yX3_in wsX3_in) := goodIn_app (goodIn_of _ (by decide +kernel)) ggX3_forget_X3_in
set_option maxRecDepth 20000 in
theorem ggX3_forget_X3_fails : GoodIn wsX3_forget wsX3_fails := goodIn_r _ [11, 12, 20, 21, 22, 23, 24, 25, 26, 27, 28, 29, 30, 31, 32, 33, 34, 35] (by decide +kernel) (by decide +kernel)
set_option maxRecDepth 20000 in
theorem gX3_forget_X3_fails : GoodIn wsX3_forget (wsV RX3 58 RX3 yX3_fails wsX3_fails) := goodIn_app (goodIn_of _ (by decide +kernel)) ggX3_forget_X3_fails
set_option maxRecDepth 20000 in
theorem ggX3_forget_X3_timesOf : GoodIn wsX3_forget wsX3_timesOf := goodIn_r _ [16, 1, 2, 3, 17, 18, 6, 19, 20, 21, 22, 23, 24, 25, 26, 27, 28, 29, 30, 31, 32, 33, 34, 35] (by decide +kernel) (by decide +kernel)
set_option maxRecDepth 20000 in
theorem gX3_forget_X3_timesOf : GoodIn wsX3_forget (wsV RX3 91 RX3 yX3_timesOf wsX3_timesOf) := goodIn_app (goodIn_of _ (by decide +kernel)) ggX3_forget_X3_timesOf
set_option maxRecDepth 20000 in
theorem ggX3_forget_X3_find : GoodIn wsX3_forget wsX3_find := goodIn_r _ [19] (by decide +kernel) (by decide +kernel)
set_option maxRecDepth 20000 in
theorem gX3_forget_X3_find : GoodIn wsX3_forget (va_wsS RX3 44 yX3_find wsX3_find) := goodIn_app (goodIn_of _ (by decide +kernel)) ggX3_forget_X3_find
theorem dX3_forget_0 : decode cX3_forget 0 = .ok (.aload_n 0, 1) := by decide +kernel
theorem dX3_forget_1 : decode cX3_forget 1 = .ok (.iload_n 1, 1) := by decide +kernel
theorem dX3_forget_2 : decode cX3_forget 2 = .ok (.iconst 0, 1) := by decide +kernel
theorem dX3_forget_3 : decode cX3_forget 3 = .ok (.sipush 18277, 3) := by decide +kernel
theorem dX3_forget_6 : decode cX3_forget 6 = .ok (.invokestatic 73, 3) := by decide +kernel
theorem dX3_forget_9 : decode cX3_forget 9 = .ok (.ifCond .eq 7, 3) := by decide +kernel
theorem dX3_forget_12 : decode cX3_forget 12 = .ok (.iconst 0, 1) := by decide +kernel
theorem dX3_forget_13 : decode cX3_forget 13 = .ok (.goto 4, 3) := by decide +kernel
theorem dX3_forget_16 : decode cX3_forget 16 = .ok (.iconst 1, 1) := by decide +kernel
theorem dX3_forget_17 : decode cX3_forget 17 = .ok (.invokevirtual 58, 3) := by decide +kernel
theorem dX3_forget_20 : decode cX3_forget 20 = .ok (.ifCond .eq 5, 3) := by decide +kernel
theorem dX3_forget_23 : decode cX3_forget 23 = .ok (.iconst 0, 1) := by decide +kernel
theorem dX3_forget_24 : decode cX3_forget 24 = .ok (.ireturn, 1) := by decide +kernel
theorem dX3_forget_25 : decode cX3_forget 25 = .ok (.aload_n 0, 1) := by decide +kernel
theorem dX3_forget_26 : decode cX3_forget 26 = .ok (.iload_n 1, 1) := by decide +kernel
theorem dX3_forget_27 : decode cX3_forget 27 = .ok (.invokevirtual 91, 3) := by decide +kernel
theorem dX3_forget_30 : decode cX3_forget 30 = .ok (.istore_n 2, 1) := by decide +kernel
theorem dX3_forget_31 : decode cX3_forget 31 = .ok (.aload_n 0, 1) := by decide +kernel
theorem dX3_forget_32 : decode cX3_forget 32 = .ok (.getfield 16, 3) := by decide +kernel
theorem dX3_forget_35 : decode cX3_forget 35 = .ok (.aload_n 0, 1) := by decide +kernel
theorem dX3_forget_36 : decode cX3_forget 36 = .ok (.getfield 88, 3) := by decide +kernel
theorem dX3_forget_39 : decode cX3_forget 39 = .ok (.iload_n 1, 1) := by decide +kernel
theorem dX3_forget_40 : decode cX3_forget 40 = .ok (.invokestatic 44, 3) := by decide +kernel
theorem dX3_forget_43 : decode cX3_forget 43 = .ok (.istore_n 3, 1) := by decide +kernel
theorem dX3_forget_44 : decode cX3_forget 44 = .ok (.iload_n 3, 1) := by decide +kernel
theorem dX3_forget_45 : decode cX3_forget 45 = .ok (.ifCond .ge 5, 3) := by decide +kernel
theorem dX3_forget_48 : decode cX3_forget 48 = .ok (.iconst 0, 1) := by decide +kernel
theorem dX3_forget_49 : decode cX3_forget 49 = .ok (.ireturn, 1) := by decide +kernel
theorem dX3_forget_50 : decode cX3_forget 50 = .ok (.aload_n 0, 1) := by decide +kernel
theorem dX3_forget_51 : decode cX3_forget 51 = .ok (.dup, 1) := by decide +kernel
theorem dX3_forget_52 : decode cX3_forget 52 = .ok (.getfield 88, 3) := by decide +kernel
theorem dX3_forget_55 : decode cX3_forget 55 = .ok (.iconst 1, 1) := by decide +kernel
theorem dX3_forget_56 : decode cX3_forget 56 = .ok (.isub, 1) := by decide +kernel
theorem dX3_forget_57 : decode cX3_forget 57 = .ok (.putfield 88, 3) := by decide +kernel
theorem dX3_forget_60 : decode cX3_forget 60 = .ok (.aload_n 0, 1) := by decide +kernel
theorem dX3_forget_61 : decode cX3_forget 61 = .ok (.getfield 16, 3) := by decide +kernel
theorem dX3_forget_64 : decode cX3_forget 64 = .ok (.iload_n 3, 1) := by decide +kernel
theorem dX3_forget_65 : decode cX3_forget 65 = .ok (.aload_n 0, 1) := by decide +kernel
theorem dX3_forget_66 : decode cX3_forget 66 = .ok (.getfield 16, 3) := by decide +kernel
theorem dX3_forget_69 : decode cX3_forget 69 = .ok (.aload_n 0, 1) := by decide +kernel
theorem dX3_forget_70 : decode cX3_forget 70 = .ok (.getfield 88, 3) := by decide +kernel
theorem dX3_forget_73 : decode cX3_forget 73 = .ok (.iaload, 1) := by decide +kernel
theorem dX3_forget_74 : decode cX3_forget 74 = .ok (.iastore, 1) := by decide +kernel
theorem dX3_forget_75 : decode cX3_forget 75 = .ok (.aload_n 0, 1) := by decide +kernel
theorem dX3_forget_76 : decode cX3_forget 76 = .ok (.getfield 19, 3) := by decide +kernel
theorem dX3_forget_79 : decode cX3_forget 79 = .ok (.iload_n 3, 1) := by decide +kernel
theorem dX3_forget_80 : decode cX3_forget 80 = .ok (.aload_n 0, 1) := by decide +kernel
theorem dX3_forget_81 : decode cX3_forget 81 = .ok (.getfield 19, 3) := by decide +kernel
theorem dX3_forget_84 : decode cX3_forget 84 = .ok (.aload_n 0, 1) := by decide +kernel
theorem dX3_forget_85 : decode cX3_forget 85 = .ok (.getfield 88, 3) := by decide +kernel
theorem dX3_forget_88 : decode cX3_forget 88 = .ok (.iaload, 1) := by decide +kernel
theorem dX3_forget_89 : decode cX3_forget 89 = .ok (.iastore, 1) := by decide +kernel
theorem dX3_forget_90 : decode cX3_forget 90 = .ok (.iload_n 2, 1) := by decide +kernel
theorem dX3_forget_91 : decode cX3_forget 91 = .ok (.ireturn, 1) := by decide +kernel
theorem dX3_words_0 : decode cX3_words 0 = .ok (.aload_n 0, 1) := by decide +kernel
theorem dX3_words_1 : decode cX3_words 1 = .ok (.iconst 0, 1) := by decide +kernel
theorem dX3_words_2 : decode cX3_words 2 = .ok (.putfield 38, 3) := by decide +kernel
theorem dX3_words_5 : decode cX3_words 5 = .ok (.aload_n 0, 1) := by decide +kernel
theorem dX3_words_6 : decode cX3_words 6 = .ok (.getfield 88, 3) := by decide +kernel
theorem dX3_words_9 : decode cX3_words 9 = .ok (.ireturn, 1) := by decide +kernel
set_option maxRecDepth 20000 in
theorem ggX3_mostOften_X3_fails : GoodIn wsX3_mostOften wsX3_fails := goodIn_r _ [8, 9, 10, 11, 12, 13, 14, 15, 16, 17, 18, 19, 20, 21, 22, 23, 24, 25] (by decide +kernel) (by decide +kernel)
set_option maxRecDepth 20000 in
theorem gX3_mostOften_X3_fails : GoodIn wsX3_mostOften (wsV RX3 58 RX3 yX3_fails wsX3_fails) := goodIn_app (goodIn_of _ (by decide +kernel)) ggX3_mostOften_X3_fails
theorem dX3_mostOften_0 : decode cX3_mostOften 0 = .ok (.aload_n 0, 1) := by decide +kernel
theorem dX3_mostOften_1 : decode cX3_mostOften 1 = .ok (.aload_n 0, 1) := by decide +kernel
theorem dX3_mostOften_2 : decode cX3_mostOften 2 = .ok (.getfield 88, 3) := by decide +kernel
theorem dX3_mostOften_5 : decode cX3_mostOften 5 = .ok (.ifCond .ne 7, 3) := by decide +kernel
theorem dX3_mostOften_8 : decode cX3_mostOften 8 = .ok (.iconst 1, 1) := by decide +kernel
theorem dX3_mostOften_9 : decode cX3_mostOften 9 = .ok (.goto 4, 3) := by decide +kernel
theorem dX3_mostOften_12 : decode cX3_mostOften 12 = .ok (.iconst 0, 1) := by decide +kernel
theorem dX3_mostOften_13 : decode cX3_mostOften 13 = .ok (.invokevirtual 58, 3) := by decide +kernel
theorem dX3_mostOften_16 : decode cX3_mostOften 16 = .ok (.ifCond .eq 5, 3) := by decide +kernel
theorem dX3_mostOften_19 : decode cX3_mostOften 19 = .ok (.iconst 0, 1) := by decide +kernel
theorem dX3_mostOften_20 : decode cX3_mostOften 20 = .ok (.ireturn, 1) := by decide +kernel
theorem dX3_mostOften_21 : decode cX3_mostOften 21 = .ok (.iconst 0, 1) := by decide +kernel
theorem dX3_mostOften_22 : decode cX3_mostOften 22 = .ok (.istore_n 1, 1) := by decide +kernel
theorem dX3_mostOften_23 : decode cX3_mostOften 23 = .ok (.iconst 1, 1) := by decide +kernel
theorem dX3_mostOften_24 : decode cX3_mostOften 24 = .ok (.istore_n 2, 1) := by decide +kernel
theorem dX3_mostOften_25 : decode cX3_mostOften 25 = .ok (.iload_n 2, 1) := by decide +kernel
theorem dX3_mostOften_26 : decode cX3_mostOften 26 = .ok (.aload_n 0, 1) := by decide +kernel
theorem dX3_mostOften_27 : decode cX3_mostOften 27 = .ok (.getfield 88, 3) := by decide +kernel
theorem dX3_mostOften_30 : decode cX3_mostOften 30 = .ok (.if_icmp .ge 56, 3) := by decide +kernel
theorem dX3_mostOften_33 : decode cX3_mostOften 33 = .ok (.aload_n 0, 1) := by decide +kernel
theorem dX3_mostOften_34 : decode cX3_mostOften 34 = .ok (.getfield 19, 3) := by decide +kernel
theorem dX3_mostOften_37 : decode cX3_mostOften 37 = .ok (.iload_n 2, 1) := by decide +kernel
theorem dX3_mostOften_38 : decode cX3_mostOften 38 = .ok (.iaload, 1) := by decide +kernel
theorem dX3_mostOften_39 : decode cX3_mostOften 39 = .ok (.aload_n 0, 1) := by decide +kernel
theorem dX3_mostOften_40 : decode cX3_mostOften 40 = .ok (.getfield 19, 3) := by decide +kernel
theorem dX3_mostOften_43 : decode cX3_mostOften 43 = .ok (.iload_n 1, 1) := by decide +kernel
theorem dX3_mostOften_44 : decode cX3_mostOften 44 = .ok (.iaload, 1) := by decide +kernel
theorem dX3_mostOften_45 : decode cX3_mostOften 45 = .ok (.if_icmp .gt 33, 3) := by decide +kernel
theorem dX3_mostOften_48 : decode cX3_mostOften 48 = .ok (.aload_n 0, 1) := by decide +kernel
theorem dX3_mostOften_49 : decode cX3_mostOften 49 = .ok (.getfield 19, 3) := by decide +kernel
theorem dX3_mostOften_52 : decode cX3_mostOften 52 = .ok (.iload_n 2, 1) := by decide +kernel
theorem dX3_mostOften_53 : decode cX3_mostOften 53 = .ok (.iaload, 1) := by decide +kernel
theorem dX3_mostOften_54 : decode cX3_mostOften 54 = .ok (.aload_n 0, 1) := by decide +kernel
theorem dX3_mostOften_55 : decode cX3_mostOften 55 = .ok (.getfield 19, 3) := by decide +kernel
theorem dX3_mostOften_58 : decode cX3_mostOften 58 = .ok (.iload_n 1, 1) := by decide +kernel
theorem dX3_mostOften_59 : decode cX3_mostOften 59 = .ok (.iaload, 1) := by decide +kernel
theorem dX3_mostOften_60 : decode cX3_mostOften 60 = .ok (.if_icmp .ne 20, 3) := by decide +kernel
theorem dX3_mostOften_63 : decode cX3_mostOften 63 = .ok (.aload_n 0, 1) := by decide +kernel
theorem dX3_mostOften_64 : decode cX3_mostOften 64 = .ok (.getfield 16, 3) := by decide +kernel
theorem dX3_mostOften_67 : decode cX3_mostOften 67 = .ok (.iload_n 2, 1) := by decide +kernel
theorem dX3_mostOften_68 : decode cX3_mostOften 68 = .ok (.iaload, 1) := by decide +kernel
theorem dX3_mostOften_69 : decode cX3_mostOften 69 = .ok (.aload_n 0, 1) := by decide +kernel
theorem dX3_mostOften_70 : decode cX3_mostOften 70 = .ok (.getfield 16, 3) := by decide +kernel
theorem dX3_mostOften_73 : decode cX3_mostOften 73 = .ok (.iload_n 1, 1) := by decide +kernel
theorem dX3_mostOften_74 : decode cX3_mostOften 74 = .ok (.iaload, 1) := by decide +kernel
theorem dX3_mostOften_75 : decode cX3_mostOften 75 = .ok (.if_icmp .ge 5, 3) := by decide +kernel
theorem dX3_mostOften_78 : decode cX3_mostOften 78 = .ok (.iload_n 2, 1) := by decide +kernel
theorem dX3_mostOften_79 : decode cX3_mostOften 79 = .ok (.istore_n 1, 1) := by decide +kernel
theorem dX3_mostOften_80 : decode cX3_mostOften 80 = .ok (.iinc 2 1, 3) := by decide +kernel
theorem dX3_mostOften_83 : decode cX3_mostOften 83 = .ok (.goto (-58), 3) := by decide +kernel
theorem dX3_mostOften_86 : decode cX3_mostOften 86 = .ok (.aload_n 0, 1) := by decide +kernel
theorem dX3_mostOften_87 : decode cX3_mostOften 87 = .ok (.getfield 16, 3) := by decide +kernel
theorem dX3_mostOften_90 : decode cX3_mostOften 90 = .ok (.iload_n 1, 1) := by decide +kernel
theorem dX3_mostOften_91 : decode cX3_mostOften 91 = .ok (.iaload, 1) := by decide +kernel
theorem dX3_mostOften_92 : decode cX3_mostOften 92 = .ok (.ireturn, 1) := by decide +kernel
set_option maxRecDepth 20000 in
theorem ggX3_markAt_X3_find : GoodIn wsX3_markAt wsX3_find := goodIn_r _ [6] (by decide +kernel) (by decide +kernel)
set_option maxRecDepth 20000 in
theorem gX3_markAt_X3_find : GoodIn wsX3_markAt (va_wsS RX3 44 yX3_find wsX3_find) := goodIn_app (goodIn_of _ (by decide +kernel)) ggX3_markAt_X3_find
theorem dX3_markAt_0 : decode cX3_markAt 0 = .ok (.aload_n 0, 1) := by decide +kernel
theorem dX3_markAt_1 : decode cX3_markAt 1 = .ok (.getfield 22, 3) := by decide +kernel
theorem dX3_markAt_4 : decode cX3_markAt 4 = .ok (.aload_n 0, 1) := by decide +kernel
theorem dX3_markAt_5 : decode cX3_markAt 5 = .ok (.getfield 94, 3) := by decide +kernel
theorem dX3_markAt_8 : decode cX3_markAt 8 = .ok (.iload_n 1, 1) := by decide +kernel
theorem dX3_markAt_9 : decode cX3_markAt 9 = .ok (.invokestatic 44, 3) := by decide +kernel
theorem dX3_markAt_12 : decode cX3_markAt 12 = .ok (.ireturn, 1) := by decide +kernel
set_option maxRecDepth 20000 in
theorem ggX3_marks_X3_markAt : GoodIn wsX3_marks wsX3_markAt := goodIn_r _ [7, 1, 2, 8, 9, 6, 10, 11, 12, 13, 14, 15, 16, 17, 18, 19, 20, 21, 22, 23, 24, 25, 26] (by decide +kernel) (by decide +kernel)
set_option maxRecDepth 20000 in
theorem gX3_marks_X3_markAt : GoodIn wsX3_marks (wsV RX3 97 RX3 yX3_markAt wsX3_markAt) := goodIn_app (goodIn_of _ (by decide +kernel)) ggX3_marks_X3_markAt
theorem dX3_marks_0 : decode cX3_marks 0 = .ok (.aload_n 0, 1) := by decide +kernel
theorem dX3_marks_1 : decode cX3_marks 1 = .ok (.iload_n 1, 1) := by decide +kernel
theorem dX3_marks_2 : decode cX3_marks 2 = .ok (.invokevirtual 97, 3) := by decide +kernel
theorem dX3_marks_5 : decode cX3_marks 5 = .ok (.ifCond .lt 4, 3) := by decide +kernel
theorem dX3_marks_8 : decode cX3_marks 8 = .ok (.return_, 1) := by decide +kernel
theorem dX3_marks_9 : decode cX3_marks 9 = .ok (.aload_n 0, 1) := by decide +kernel
theorem dX3_marks_10 : decode cX3_marks 10 = .ok (.getfield 22, 3) := by decide +kernel
theorem dX3_marks_13 : decode cX3_marks 13 = .ok (.aload_n 0, 1) := by decide +kernel
theorem dX3_marks_14 : decode cX3_marks 14 = .ok (.getfield 94, 3) := by decide +kernel
theorem dX3_marks_17 : decode cX3_marks 17 = .ok (.iload_n 1, 1) := by decide +kernel
theorem dX3_marks_18 : decode cX3_marks 18 = .ok (.iastore, 1) := by decide +kernel
theorem dX3_marks_19 : decode cX3_marks 19 = .ok (.aload_n 0, 1) := by decide +kernel
theorem dX3_marks_20 : decode cX3_marks 20 = .ok (.dup, 1) := by decide +kernel
theorem dX3_marks_21 : decode cX3_marks 21 = .ok (.getfield 94, 3) := by decide +kernel
theorem dX3_marks_24 : decode cX3_marks 24 = .ok (.iconst 1, 1) := by decide +kernel
theorem dX3_marks_25 : decode cX3_marks 25 = .ok (.iadd, 1) := by decide +kernel
theorem dX3_marks_26 : decode cX3_marks 26 = .ok (.putfield 94, 3) := by decide +kernel
theorem dX3_marks_29 : decode cX3_marks 29 = .ok (.return_, 1) := by decide +kernel
theorem dX3_unmarks_0 : decode cX3_unmarks 0 = .ok (.aload_n 0, 1) := by decide +kernel
theorem dX3_unmarks_1 : decode cX3_unmarks 1 = .ok (.dup, 1) := by decide +kernel
theorem dX3_unmarks_2 : decode cX3_unmarks 2 = .ok (.getfield 94, 3) := by decide +kernel
theorem dX3_unmarks_5 : decode cX3_unmarks 5 = .ok (.iconst 1, 1) := by decide +kernel
theorem dX3_unmarks_6 : decode cX3_unmarks 6 = .ok (.isub, 1) := by decide +kernel
theorem dX3_unmarks_7 : decode cX3_unmarks 7 = .ok (.putfield 94, 3) := by decide +kernel
theorem dX3_unmarks_10 : decode cX3_unmarks 10 = .ok (.aload_n 0, 1) := by decide +kernel
theorem dX3_unmarks_11 : decode cX3_unmarks 11 = .ok (.getfield 22, 3) := by decide +kernel
theorem dX3_unmarks_14 : decode cX3_unmarks 14 = .ok (.iload_n 1, 1) := by decide +kernel
theorem dX3_unmarks_15 : decode cX3_unmarks 15 = .ok (.aload_n 0, 1) := by decide +kernel
theorem dX3_unmarks_16 : decode cX3_unmarks 16 = .ok (.getfield 22, 3) := by decide +kernel
theorem dX3_unmarks_19 : decode cX3_unmarks 19 = .ok (.aload_n 0, 1) := by decide +kernel
theorem dX3_unmarks_20 : decode cX3_unmarks 20 = .ok (.getfield 94, 3) := by decide +kernel
theorem dX3_unmarks_23 : decode cX3_unmarks 23 = .ok (.iaload, 1) := by decide +kernel
theorem dX3_unmarks_24 : decode cX3_unmarks 24 = .ok (.iastore, 1) := by decide +kernel
theorem dX3_unmarks_25 : decode cX3_unmarks 25 = .ok (.return_, 1) := by decide +kernel
set_option maxRecDepth 20000 in
theorem ggX3_mark_X3_markAt : GoodIn wsX3_mark wsX3_markAt := goodIn_r _ [6, 7, 1, 8, 9, 5, 10, 20, 21, 22, 23, 24, 25, 26, 27, 28, 29, 30, 31, 32, 33, 34, 35] (by decide +kernel) (by decide +kernel)
set_option maxRecDepth 20000 in
theorem gX3_mark_X3_markAt : GoodIn wsX3_mark (wsV RX3 97 RX3 yX3_markAt wsX3_markAt) := goodIn_app (goodIn_of _ (by decide +kernel)) ggX3_mark_X3_markAt
set_option maxRecDepth 20000 in
theorem ggX3_mark_X3_fails : GoodIn wsX3_mark wsX3_fails := goodIn_r _ [14, 15, 20, 21, 22, 23, 24, 25, 26, 27, 28, 29, 30, 31, 32, 33, 34, 35] (by decide +kernel) (by decide +kernel)
set_option maxRecDepth 20000 in
theorem gX3_mark_X3_fails : GoodIn wsX3_mark (wsV RX3 58 RX3 yX3_fails wsX3_fails) := goodIn_app (goodIn_of _ (by decide +kernel)) ggX3_mark_X3_fails
set_option maxRecDepth 20000 in
theorem ggX3_mark_X3_marks : GoodIn wsX3_mark wsX3_marks := goodIn_r _ [19, 7, 1, 2, 3, 4, 5, 6, 8, 9, 10, 20, 21, 22, 23, 24, 25, 26, 27, 28, 29, 30, 31, 32, 33, 34, 35] (by decide +kernel) (by decide +kernel)
set_option maxRecDepth 20000 in
theorem gX3_mark_X3_marks : GoodIn wsX3_mark (wsV RX3 100 RX3 yX3_marks wsX3_marks) := goodIn_app (goodIn_of _ (by decide +kernel)) ggX3_mark_X3_marks
theorem dX3_mark_0 : decode cX3_mark 0 = .ok (.aload_n 0, 1) := by decide +kernel
theorem dX3_mark_1 : decode cX3_mark 1 = .ok (.iload_n 1, 1) := by decide +kernel
theorem dX3_mark_2 : decode cX3_mark 2 = .ok (.invokevirtual 97, 3) := by decide +kernel
theorem dX3_mark_5 : decode cX3_mark 5 = .ok (.istore_n 2, 1) := by decide +kernel
theorem dX3_mark_6 : decode cX3_mark 6 = .ok (.aload_n 0, 1) := by decide +kernel
theorem dX3_mark_7 : decode cX3_mark 7 = .ok (.iload_n 2, 1) := by decide +kernel
theorem dX3_mark_8 : decode cX3_mark 8 = .ok (.ifCond .ge 17, 3) := by decide +kernel
theorem dX3_mark_11 : decode cX3_mark 11 = .ok (.aload_n 0, 1) := by decide +kernel
theorem dX3_mark_12 : decode cX3_mark 12 = .ok (.getfield 94, 3) := by decide +kernel
theorem dX3_mark_15 : decode cX3_mark 15 = .ok (.sipush 200, 3) := by decide +kernel
theorem dX3_mark_18 : decode cX3_mark 18 = .ok (.if_icmp .ne 7, 3) := by decide +kernel
theorem dX3_mark_21 : decode cX3_mark 21 = .ok (.iconst 1, 1) := by decide +kernel
theorem dX3_mark_22 : decode cX3_mark 22 = .ok (.goto 4, 3) := by decide +kernel
theorem dX3_mark_25 : decode cX3_mark 25 = .ok (.iconst 0, 1) := by decide +kernel
theorem dX3_mark_26 : decode cX3_mark 26 = .ok (.invokevirtual 58, 3) := by decide +kernel
theorem dX3_mark_29 : decode cX3_mark 29 = .ok (.ifCond .eq 5, 3) := by decide +kernel
theorem dX3_mark_32 : decode cX3_mark 32 = .ok (.iconst 0, 1) := by decide +kernel
theorem dX3_mark_33 : decode cX3_mark 33 = .ok (.ireturn, 1) := by decide +kernel
theorem dX3_mark_34 : decode cX3_mark 34 = .ok (.aload_n 0, 1) := by decide +kernel
theorem dX3_mark_35 : decode cX3_mark 35 = .ok (.iload_n 1, 1) := by decide +kernel
theorem dX3_mark_36 : decode cX3_mark 36 = .ok (.invokevirtual 100, 3) := by decide +kernel
theorem dX3_mark_39 : decode cX3_mark 39 = .ok (.iload_n 2, 1) := by decide +kernel
theorem dX3_mark_40 : decode cX3_mark 40 = .ok (.ifCond .ge 7, 3) := by decide +kernel
theorem dX3_mark_43 : decode cX3_mark 43 = .ok (.iconst 1, 1) := by decide +kernel
theorem dX3_mark_44 : decode cX3_mark 44 = .ok (.goto 4, 3) := by decide +kernel
theorem dX3_mark_47 : decode cX3_mark 47 = .ok (.iconst 0, 1) := by decide +kernel
theorem dX3_mark_48 : decode cX3_mark 48 = .ok (.ireturn, 1) := by decide +kernel
set_option maxRecDepth 20000 in
theorem ggX3_unmark_X3_markAt : GoodIn wsX3_unmark wsX3_markAt := goodIn_r _ [6, 7, 8, 9, 10, 5, 11, 16, 17, 18, 19, 20, 21, 22, 23, 24, 25, 26, 27, 28, 29, 30, 31] (by decide +kernel) (by decide +kernel)
set_option maxRecDepth 20000 in
theorem gX3_unmark_X3_markAt : GoodIn wsX3_unmark (wsV RX3 97 RX3 yX3_markAt wsX3_markAt) := goodIn_app (goodIn_of _ (by decide +kernel)) ggX3_unmark_X3_markAt
set_option maxRecDepth 20000 in
theorem ggX3_unmark_X3_unmarks : GoodIn wsX3_unmark wsX3_unmarks := goodIn_r _ [15, 8, 7, 16, 17, 18, 19, 20, 21, 22, 23, 24, 25, 26, 27, 28, 29, 30, 31] (by decide +kernel) (by decide +kernel)
set_option maxRecDepth 20000 in
theorem gX3_unmark_X3_unmarks : GoodIn wsX3_unmark (wsV RX3 102 RX3 yX3_unmarks wsX3_unmarks) := goodIn_app (goodIn_of _ (by decide +kernel)) ggX3_unmark_X3_unmarks
theorem dX3_unmark_0 : decode cX3_unmark 0 = .ok (.aload_n 0, 1) := by decide +kernel
theorem dX3_unmark_1 : decode cX3_unmark 1 = .ok (.iconst 0, 1) := by decide +kernel
theorem dX3_unmark_2 : decode cX3_unmark 2 = .ok (.putfield 38, 3) := by decide +kernel
theorem dX3_unmark_5 : decode cX3_unmark 5 = .ok (.aload_n 0, 1) := by decide +kernel
theorem dX3_unmark_6 : decode cX3_unmark 6 = .ok (.iload_n 1, 1) := by decide +kernel
theorem dX3_unmark_7 : decode cX3_unmark 7 = .ok (.invokevirtual 97, 3) := by decide +kernel
theorem dX3_unmark_10 : decode cX3_unmark 10 = .ok (.istore_n 2, 1) := by decide +kernel
theorem dX3_unmark_11 : decode cX3_unmark 11 = .ok (.iload_n 2, 1) := by decide +kernel
theorem dX3_unmark_12 : decode cX3_unmark 12 = .ok (.ifCond .lt 8, 3) := by decide +kernel
theorem dX3_unmark_15 : decode cX3_unmark 15 = .ok (.aload_n 0, 1) := by decide +kernel
theorem dX3_unmark_16 : decode cX3_unmark 16 = .ok (.iload_n 2, 1) := by decide +kernel
theorem dX3_unmark_17 : decode cX3_unmark 17 = .ok (.invokevirtual 102, 3) := by decide +kernel
theorem dX3_unmark_20 : decode cX3_unmark 20 = .ok (.iload_n 2, 1) := by decide +kernel
theorem dX3_unmark_21 : decode cX3_unmark 21 = .ok (.ifCond .lt 7, 3) := by decide +kernel
theorem dX3_unmark_24 : decode cX3_unmark 24 = .ok (.iconst 1, 1) := by decide +kernel
theorem dX3_unmark_25 : decode cX3_unmark 25 = .ok (.goto 4, 3) := by decide +kernel
theorem dX3_unmark_28 : decode cX3_unmark 28 = .ok (.iconst 0, 1) := by decide +kernel
theorem dX3_unmark_29 : decode cX3_unmark 29 = .ok (.ireturn, 1) := by decide +kernel
set_option maxRecDepth 20000 in
theorem ggX3_isMarked_X3_markAt : GoodIn wsX3_isMarked wsX3_markAt := goodIn_r _ [6, 7, 8, 9, 10, 5, 11, 12, 13, 14, 15, 16, 17, 18, 19, 20, 21, 22, 23, 24, 25, 26, 27] (by decide +kernel) (by decide +kernel)
set_option maxRecDepth 20000 in
theorem gX3_isMarked_X3_markAt : GoodIn wsX3_isMarked (wsV RX3 97 RX3 yX3_markAt wsX3_markAt) := goodIn_app (goodIn_of _ (by decide +kernel)) ggX3_isMarked_X3_markAt
theorem dX3_isMarked_0 : decode cX3_isMarked 0 = .ok (.aload_n 0, 1) := by decide +kernel
theorem dX3_isMarked_1 : decode cX3_isMarked 1 = .ok (.iconst 0, 1) := by decide +kernel
theorem dX3_isMarked_2 : decode cX3_isMarked 2 = .ok (.putfield 38, 3) := by decide +kernel
theorem dX3_isMarked_5 : decode cX3_isMarked 5 = .ok (.aload_n 0, 1) := by decide +kernel
theorem dX3_isMarked_6 : decode cX3_isMarked 6 = .ok (.iload_n 1, 1) := by decide +kernel
theorem dX3_isMarked_7 : decode cX3_isMarked 7 = .ok (.invokevirtual 97, 3) := by decide +kernel
theorem dX3_isMarked_10 : decode cX3_isMarked 10 = .ok (.ifCond .lt 7, 3) := by decide +kernel
theorem dX3_isMarked_13 : decode cX3_isMarked 13 = .ok (.iconst 1, 1) := by decide +kernel
theorem dX3_isMarked_14 : decode cX3_isMarked 14 = .ok (.goto 4, 3) := by decide +kernel
theorem dX3_isMarked_17 : decode cX3_isMarked 17 = .ok (.iconst 0, 1) := by decide +kernel
theorem dX3_isMarked_18 : decode cX3_isMarked 18 = .ok (.ireturn, 1) := by decide +kernel
theorem dX3_marked_0 : decode cX3_marked 0 = .ok (.aload_n 0, 1) := by decide +kernel
theorem dX3_marked_1 : decode cX3_marked 1 = .ok (.iconst 0, 1) := by decide +kernel
theorem dX3_marked_2 : decode cX3_marked 2 = .ok (.putfield 38, 3) := by decide +kernel
theorem dX3_marked_5 : decode cX3_marked 5 = .ok (.aload_n 0, 1) := by decide +kernel
theorem dX3_marked_6 : decode cX3_marked 6 = .ok (.getfield 94, 3) := by decide +kernel
theorem dX3_marked_9 : decode cX3_marked 9 = .ok (.ireturn, 1) := by decide +kernel
set_option maxRecDepth 20000 in
theorem ggX3_markKeys_X3_markAt : GoodIn wsX3_markKeys wsX3_markAt := goodIn_r _ [8, 9, 3, 10, 11, 7, 12, 22, 23, 24, 25, 26, 27, 28, 29, 30, 31, 32, 33, 34, 35, 36, 37] (by decide +kernel) (by decide +kernel)
set_option maxRecDepth 20000 in
theorem gX3_markKeys_X3_markAt : GoodIn wsX3_markKeys (wsV RX3 97 RX3 yX3_markAt wsX3_markAt) := goodIn_app (goodIn_of _ (by decide +kernel)) ggX3_markKeys_X3_markAt
set_option maxRecDepth 20000 in
theorem ggX3_markKeys_X3_fails : GoodIn wsX3_markKeys wsX3_fails := goodIn_r _ [16, 17, 22, 23, 24, 25, 26, 27, 28, 29, 30, 31, 32, 33, 34, 35, 36, 37] (by decide +kernel) (by decide +kernel)
set_option maxRecDepth 20000 in
theorem gX3_markKeys_X3_fails : GoodIn wsX3_markKeys (wsV RX3 58 RX3 yX3_fails wsX3_fails) := goodIn_app (goodIn_of _ (by decide +kernel)) ggX3_markKeys_X3_fails
set_option maxRecDepth 20000 in
theorem ggX3_markKeys_X3_marks : GoodIn wsX3_markKeys wsX3_marks := goodIn_r _ [21, 9, 3, 4, 5, 6, 7, 8, 10, 11, 12, 22, 23, 24, 25, 26, 27, 28, 29, 30, 31, 32, 33, 34, 35, 36, 37] (by decide +kernel) (by decide +kernel)
set_option maxRecDepth 20000 in
theorem gX3_markKeys_X3_marks : GoodIn wsX3_markKeys (wsV RX3 100 RX3 yX3_marks wsX3_marks) := goodIn_app (goodIn_of _ (by decide +kernel)) ggX3_markKeys_X3_marks
theorem dX3_markKeys_0 : decode cX3_markKeys 0 = .ok (.iconst 0, 1) := by decide +kernel
theorem dX3_markKeys_1 : decode cX3_markKeys 1 = .ok (.istore_n 1, 1) := by decide +kernel
theorem dX3_markKeys_2 : decode cX3_markKeys 2 = .ok (.iconst 0, 1) := by decide +kernel
theorem dX3_markKeys_3 : decode cX3_markKeys 3 = .ok (.istore_n 2, 1) := by decide +kernel
theorem dX3_markKeys_4 : decode cX3_markKeys 4 = .ok (.iload_n 2, 1) := by decide +kernel
theorem dX3_markKeys_5 : decode cX3_markKeys 5 = .ok (.aload_n 0, 1) := by decide +kernel
theorem dX3_markKeys_6 : decode cX3_markKeys 6 = .ok (.getfield 41, 3) := by decide +kernel
theorem dX3_markKeys_9 : decode cX3_markKeys 9 = .ok (.if_icmp .ge 30, 3) := by decide +kernel
theorem dX3_markKeys_12 : decode cX3_markKeys 12 = .ok (.iload_n 1, 1) := by decide +kernel
theorem dX3_markKeys_13 : decode cX3_markKeys 13 = .ok (.aload_n 0, 1) := by decide +kernel
theorem dX3_markKeys_14 : decode cX3_markKeys 14 = .ok (.aload_n 0, 1) := by decide +kernel
theorem dX3_markKeys_15 : decode cX3_markKeys 15 = .ok (.getfield 7, 3) := by decide +kernel
theorem dX3_markKeys_18 : decode cX3_markKeys 18 = .ok (.iload_n 2, 1) := by decide +kernel
theorem dX3_markKeys_19 : decode cX3_markKeys 19 = .ok (.iaload, 1) := by decide +kernel
theorem dX3_markKeys_20 : decode cX3_markKeys 20 = .ok (.invokevirtual 97, 3) := by decide +kernel
theorem dX3_markKeys_23 : decode cX3_markKeys 23 = .ok (.ifCond .ge 7, 3) := by decide +kernel
theorem dX3_markKeys_26 : decode cX3_markKeys 26 = .ok (.iconst 1, 1) := by decide +kernel
theorem dX3_markKeys_27 : decode cX3_markKeys 27 = .ok (.goto 4, 3) := by decide +kernel
theorem dX3_markKeys_30 : decode cX3_markKeys 30 = .ok (.iconst 0, 1) := by decide +kernel
theorem dX3_markKeys_31 : decode cX3_markKeys 31 = .ok (.iadd, 1) := by decide +kernel
theorem dX3_markKeys_32 : decode cX3_markKeys 32 = .ok (.istore_n 1, 1) := by decide +kernel
theorem dX3_markKeys_33 : decode cX3_markKeys 33 = .ok (.iinc 2 1, 3) := by decide +kernel
theorem dX3_markKeys_36 : decode cX3_markKeys 36 = .ok (.goto (-32), 3) := by decide +kernel
theorem dX3_markKeys_39 : decode cX3_markKeys 39 = .ok (.aload_n 0, 1) := by decide +kernel
theorem dX3_markKeys_40 : decode cX3_markKeys 40 = .ok (.aload_n 0, 1) := by decide +kernel
theorem dX3_markKeys_41 : decode cX3_markKeys 41 = .ok (.getfield 94, 3) := by decide +kernel
theorem dX3_markKeys_44 : decode cX3_markKeys 44 = .ok (.iload_n 1, 1) := by decide +kernel
theorem dX3_markKeys_45 : decode cX3_markKeys 45 = .ok (.iadd, 1) := by decide +kernel
theorem dX3_markKeys_46 : decode cX3_markKeys 46 = .ok (.sipush 200, 3) := by decide +kernel
theorem dX3_markKeys_49 : decode cX3_markKeys 49 = .ok (.if_icmp .le 7, 3) := by decide +kernel
theorem dX3_markKeys_52 : decode cX3_markKeys 52 = .ok (.iconst 1, 1) := by decide +kernel
theorem dX3_markKeys_53 : decode cX3_markKeys 53 = .ok (.goto 4, 3) := by decide +kernel
theorem dX3_markKeys_56 : decode cX3_markKeys 56 = .ok (.iconst 0, 1) := by decide +kernel
theorem dX3_markKeys_57 : decode cX3_markKeys 57 = .ok (.invokevirtual 58, 3) := by decide +kernel
theorem dX3_markKeys_60 : decode cX3_markKeys 60 = .ok (.ifCond .eq 5, 3) := by decide +kernel
theorem dX3_markKeys_63 : decode cX3_markKeys 63 = .ok (.iconst 0, 1) := by decide +kernel
theorem dX3_markKeys_64 : decode cX3_markKeys 64 = .ok (.ireturn, 1) := by decide +kernel
theorem dX3_markKeys_65 : decode cX3_markKeys 65 = .ok (.iconst 0, 1) := by decide +kernel
theorem dX3_markKeys_66 : decode cX3_markKeys 66 = .ok (.istore_n 2, 1) := by decide +kernel
theorem dX3_markKeys_67 : decode cX3_markKeys 67 = .ok (.iload_n 2, 1) := by decide +kernel
theorem dX3_markKeys_68 : decode cX3_markKeys 68 = .ok (.aload_n 0, 1) := by decide +kernel
theorem dX3_markKeys_69 : decode cX3_markKeys 69 = .ok (.getfield 41, 3) := by decide +kernel
theorem dX3_markKeys_72 : decode cX3_markKeys 72 = .ok (.if_icmp .ge 19, 3) := by decide +kernel
theorem dX3_markKeys_75 : decode cX3_markKeys 75 = .ok (.aload_n 0, 1) := by decide +kernel
theorem dX3_markKeys_76 : decode cX3_markKeys 76 = .ok (.aload_n 0, 1) := by decide +kernel
theorem dX3_markKeys_77 : decode cX3_markKeys 77 = .ok (.getfield 7, 3) := by decide +kernel
theorem dX3_markKeys_80 : decode cX3_markKeys 80 = .ok (.iload_n 2, 1) := by decide +kernel
theorem dX3_markKeys_81 : decode cX3_markKeys 81 = .ok (.iaload, 1) := by decide +kernel
theorem dX3_markKeys_82 : decode cX3_markKeys 82 = .ok (.invokevirtual 100, 3) := by decide +kernel
theorem dX3_markKeys_85 : decode cX3_markKeys 85 = .ok (.iinc 2 1, 3) := by decide +kernel
theorem dX3_markKeys_88 : decode cX3_markKeys 88 = .ok (.goto (-21), 3) := by decide +kernel
theorem dX3_markKeys_91 : decode cX3_markKeys 91 = .ok (.aload_n 0, 1) := by decide +kernel
theorem dX3_markKeys_92 : decode cX3_markKeys 92 = .ok (.getfield 94, 3) := by decide +kernel
theorem dX3_markKeys_95 : decode cX3_markKeys 95 = .ok (.ireturn, 1) := by decide +kernel
set_option maxRecDepth 20000 in
theorem ggX3_unmarkOthers_X3_at : GoodIn wsX3_unmarkOthers wsX3_at := goodIn_r _ [8, 9, 10, 11, 12, 7, 13, 18, 19, 20, 21, 22, 23, 24, 25, 26, 27, 28, 29, 30, 31, 32, 33] (by decide +kernel) (by decide +kernel)
set_option maxRecDepth 20000 in
theorem gX3_unmarkOthers_X3_at : GoodIn wsX3_unmarkOthers (wsV RX3 48 RX3 yX3_at wsX3_at) := goodIn_app (goodIn_of _ (by decide +kernel)) ggX3_unmarkOthers_X3_at
set_option maxRecDepth 20000 in
theorem ggX3_unmarkOthers_X3_unmarks : GoodIn wsX3_unmarkOthers wsX3_unmarks := goodIn_r _ [17, 2, 3, 18, 19, 20, 21, 22, 23, 24, 25, 26, 27, 28, 29, 30, 31, 32, 33] (by decide +kernel) (by decide +kernel)
set_option maxRecDepth 20000 in
theorem gX3_unmarkOthers_X3_unmarks : GoodIn wsX3_unmarkOthers (wsV RX3 102 RX3 yX3_unmarks wsX3_unmarks) := goodIn_app (goodIn_of _ (by decide +kernel)) ggX3_unmarkOthers_X3_unmarks
theorem dX3_unmarkOthers_0 : decode cX3_unmarkOthers 0 = .ok (.aload_n 0, 1) := by decide +kernel
theorem dX3_unmarkOthers_1 : decode cX3_unmarkOthers 1 = .ok (.iconst 0, 1) := by decide +kernel
theorem dX3_unmarkOthers_2 : decode cX3_unmarkOthers 2 = .ok (.putfield 38, 3) := by decide +kernel
theorem dX3_unmarkOthers_5 : decode cX3_unmarkOthers 5 = .ok (.aload_n 0, 1) := by decide +kernel
theorem dX3_unmarkOthers_6 : decode cX3_unmarkOthers 6 = .ok (.getfield 94, 3) := by decide +kernel
theorem dX3_unmarkOthers_9 : decode cX3_unmarkOthers 9 = .ok (.istore_n 1, 1) := by decide +kernel
theorem dX3_unmarkOthers_10 : decode cX3_unmarkOthers 10 = .ok (.aload_n 0, 1) := by decide +kernel
theorem dX3_unmarkOthers_11 : decode cX3_unmarkOthers 11 = .ok (.getfield 94, 3) := by decide +kernel
theorem dX3_unmarkOthers_14 : decode cX3_unmarkOthers 14 = .ok (.iconst 1, 1) := by decide +kernel
theorem dX3_unmarkOthers_15 : decode cX3_unmarkOthers 15 = .ok (.isub, 1) := by decide +kernel
theorem dX3_unmarkOthers_16 : decode cX3_unmarkOthers 16 = .ok (.istore_n 2, 1) := by decide +kernel
theorem dX3_unmarkOthers_17 : decode cX3_unmarkOthers 17 = .ok (.iload_n 2, 1) := by decide +kernel
theorem dX3_unmarkOthers_18 : decode cX3_unmarkOthers 18 = .ok (.ifCond .lt 27, 3) := by decide +kernel
theorem dX3_unmarkOthers_21 : decode cX3_unmarkOthers 21 = .ok (.aload_n 0, 1) := by decide +kernel
theorem dX3_unmarkOthers_22 : decode cX3_unmarkOthers 22 = .ok (.aload_n 0, 1) := by decide +kernel
theorem dX3_unmarkOthers_23 : decode cX3_unmarkOthers 23 = .ok (.getfield 22, 3) := by decide +kernel
theorem dX3_unmarkOthers_26 : decode cX3_unmarkOthers 26 = .ok (.iload_n 2, 1) := by decide +kernel
theorem dX3_unmarkOthers_27 : decode cX3_unmarkOthers 27 = .ok (.iaload, 1) := by decide +kernel
theorem dX3_unmarkOthers_28 : decode cX3_unmarkOthers 28 = .ok (.invokevirtual 48, 3) := by decide +kernel
theorem dX3_unmarkOthers_31 : decode cX3_unmarkOthers 31 = .ok (.ifCond .ge 8, 3) := by decide +kernel
theorem dX3_unmarkOthers_34 : decode cX3_unmarkOthers 34 = .ok (.aload_n 0, 1) := by decide +kernel
theorem dX3_unmarkOthers_35 : decode cX3_unmarkOthers 35 = .ok (.iload_n 2, 1) := by decide +kernel
theorem dX3_unmarkOthers_36 : decode cX3_unmarkOthers 36 = .ok (.invokevirtual 102, 3) := by decide +kernel
theorem dX3_unmarkOthers_39 : decode cX3_unmarkOthers 39 = .ok (.iinc 2 (-1), 3) := by decide +kernel
theorem dX3_unmarkOthers_42 : decode cX3_unmarkOthers 42 = .ok (.goto (-25), 3) := by decide +kernel
theorem dX3_unmarkOthers_45 : decode cX3_unmarkOthers 45 = .ok (.iload_n 1, 1) := by decide +kernel
theorem dX3_unmarkOthers_46 : decode cX3_unmarkOthers 46 = .ok (.aload_n 0, 1) := by decide +kernel
theorem dX3_unmarkOthers_47 : decode cX3_unmarkOthers 47 = .ok (.getfield 94, 3) := by decide +kernel
theorem dX3_unmarkOthers_50 : decode cX3_unmarkOthers 50 = .ok (.isub, 1) := by decide +kernel
theorem dX3_unmarkOthers_51 : decode cX3_unmarkOthers 51 = .ok (.ireturn, 1) := by decide +kernel
set_option maxRecDepth 20000 in
theorem ggX3_dropMarked_X3_markAt : GoodIn wsX3_dropMarked wsX3_markAt := goodIn_r _ [8, 9, 10, 11, 12, 7, 13, 19, 20, 21, 22, 23, 24, 25, 26, 27, 28, 29, 30, 31, 32, 33, 34] (by decide +kernel) (by decide +kernel)
set_option maxRecDepth 20000 in
theorem gX3_dropMarked_X3_markAt : GoodIn wsX3_dropMarked (wsV RX3 97 RX3 yX3_markAt wsX3_markAt) := goodIn_app (goodIn_of _ (by decide +kernel)) ggX3_dropMarked_X3_markAt
set_option maxRecDepth 20000 in
theorem ggX3_dropMarked_X3_drops : GoodIn wsX3_dropMarked wsX3_drops := goodIn_r _ [17, 2, 3, 18, 19, 20, 21, 22, 23, 24, 25, 26, 27, 28, 29, 30, 31, 32, 33, 34] (by decide +kernel) (by decide +kernel)
set_option maxRecDepth 20000 in
theorem gX3_dropMarked_X3_drops : GoodIn wsX3_dropMarked (wsV RX3 69 RX3 yX3_drops wsX3_drops) := goodIn_app (goodIn_of _ (by decide +kernel)) ggX3_dropMarked_X3_drops
theorem dX3_dropMarked_0 : decode cX3_dropMarked 0 = .ok (.aload_n 0, 1) := by decide +kernel
theorem dX3_dropMarked_1 : decode cX3_dropMarked 1 = .ok (.iconst 0, 1) := by decide +kernel
theorem dX3_dropMarked_2 : decode cX3_dropMarked 2 = .ok (.putfield 38, 3) := by decide +kernel
theorem dX3_dropMarked_5 : decode cX3_dropMarked 5 = .ok (.aload_n 0, 1) := by decide +kernel
theorem dX3_dropMarked_6 : decode cX3_dropMarked 6 = .ok (.getfield 41, 3) := by decide +kernel
theorem dX3_dropMarked_9 : decode cX3_dropMarked 9 = .ok (.istore_n 1, 1) := by decide +kernel
theorem dX3_dropMarked_10 : decode cX3_dropMarked 10 = .ok (.aload_n 0, 1) := by decide +kernel
theorem dX3_dropMarked_11 : decode cX3_dropMarked 11 = .ok (.getfield 41, 3) := by decide +kernel
theorem dX3_dropMarked_14 : decode cX3_dropMarked 14 = .ok (.iconst 1, 1) := by decide +kernel
theorem dX3_dropMarked_15 : decode cX3_dropMarked 15 = .ok (.isub, 1) := by decide +kernel
theorem dX3_dropMarked_16 : decode cX3_dropMarked 16 = .ok (.istore_n 2, 1) := by decide +kernel
theorem dX3_dropMarked_17 : decode cX3_dropMarked 17 = .ok (.iload_n 2, 1) := by decide +kernel
theorem dX3_dropMarked_18 : decode cX3_dropMarked 18 = .ok (.ifCond .lt 27, 3) := by decide +kernel
theorem dX3_dropMarked_21 : decode cX3_dropMarked 21 = .ok (.aload_n 0, 1) := by decide +kernel
theorem dX3_dropMarked_22 : decode cX3_dropMarked 22 = .ok (.aload_n 0, 1) := by decide +kernel
theorem dX3_dropMarked_23 : decode cX3_dropMarked 23 = .ok (.getfield 7, 3) := by decide +kernel
theorem dX3_dropMarked_26 : decode cX3_dropMarked 26 = .ok (.iload_n 2, 1) := by decide +kernel
theorem dX3_dropMarked_27 : decode cX3_dropMarked 27 = .ok (.iaload, 1) := by decide +kernel
theorem dX3_dropMarked_28 : decode cX3_dropMarked 28 = .ok (.invokevirtual 97, 3) := by decide +kernel
theorem dX3_dropMarked_31 : decode cX3_dropMarked 31 = .ok (.ifCond .lt 8, 3) := by decide +kernel
theorem dX3_dropMarked_34 : decode cX3_dropMarked 34 = .ok (.aload_n 0, 1) := by decide +kernel
theorem dX3_dropMarked_35 : decode cX3_dropMarked 35 = .ok (.iload_n 2, 1) := by decide +kernel
theorem dX3_dropMarked_36 : decode cX3_dropMarked 36 = .ok (.invokevirtual 69, 3) := by decide +kernel
theorem dX3_dropMarked_39 : decode cX3_dropMarked 39 = .ok (.iinc 2 (-1), 3) := by decide +kernel
theorem dX3_dropMarked_42 : decode cX3_dropMarked 42 = .ok (.goto (-25), 3) := by decide +kernel
theorem dX3_dropMarked_45 : decode cX3_dropMarked 45 = .ok (.iload_n 1, 1) := by decide +kernel
theorem dX3_dropMarked_46 : decode cX3_dropMarked 46 = .ok (.aload_n 0, 1) := by decide +kernel
theorem dX3_dropMarked_47 : decode cX3_dropMarked 47 = .ok (.getfield 41, 3) := by decide +kernel
theorem dX3_dropMarked_50 : decode cX3_dropMarked 50 = .ok (.isub, 1) := by decide +kernel
theorem dX3_dropMarked_51 : decode cX3_dropMarked 51 = .ok (.ireturn, 1) := by decide +kernel
set_option maxRecDepth 20000 in
theorem ggX3_shelfAt_X3_find : GoodIn wsX3_shelfAt wsX3_find := goodIn_r _ [6] (by decide +kernel) (by decide +kernel)
set_option maxRecDepth 20000 in
theorem gX3_shelfAt_X3_find : GoodIn wsX3_shelfAt (va_wsS RX3 44 yX3_find wsX3_find) := goodIn_app (goodIn_of _ (by decide +kernel)) ggX3_shelfAt_X3_find
theorem dX3_shelfAt_0 : decode cX3_shelfAt 0 = .ok (.aload_n 0, 1) := by decide +kernel
theorem dX3_shelfAt_1 : decode cX3_shelfAt 1 = .ok (.getfield 25, 3) := by decide +kernel
theorem dX3_shelfAt_4 : decode cX3_shelfAt 4 = .ok (.aload_n 0, 1) := by decide +kernel
theorem dX3_shelfAt_5 : decode cX3_shelfAt 5 = .ok (.getfield 81, 3) := by decide +kernel
theorem dX3_shelfAt_8 : decode cX3_shelfAt 8 = .ok (.iload_n 1, 1) := by decide +kernel
theorem dX3_shelfAt_9 : decode cX3_shelfAt 9 = .ok (.invokestatic 44, 3) := by decide +kernel
theorem dX3_shelfAt_12 : decode cX3_shelfAt 12 = .ok (.ireturn, 1) := by decide +kernel
set_option maxRecDepth 20000 in
theorem ggX3_onShelf_X3_shelfAt : GoodIn wsX3_onShelf wsX3_shelfAt := goodIn_r _ [7, 8, 9, 10, 11, 6, 12, 13, 14, 15, 16, 17, 18, 19, 20, 21, 22, 23, 24, 25, 26, 27, 28] (by decide +kernel) (by decide +kernel)
set_option maxRecDepth 20000 in
theorem gX3_onShelf_X3_shelfAt : GoodIn wsX3_onShelf (wsV RX3 105 RX3 yX3_shelfAt wsX3_shelfAt) := goodIn_app (goodIn_of _ (by decide +kernel)) ggX3_onShelf_X3_shelfAt
theorem dX3_onShelf_0 : decode cX3_onShelf 0 = .ok (.aload_n 0, 1) := by decide +kernel
theorem dX3_onShelf_1 : decode cX3_onShelf 1 = .ok (.iload_n 1, 1) := by decide +kernel
theorem dX3_onShelf_2 : decode cX3_onShelf 2 = .ok (.invokevirtual 105, 3) := by decide +kernel
theorem dX3_onShelf_5 : decode cX3_onShelf 5 = .ok (.ifCond .ge 9, 3) := by decide +kernel
theorem dX3_onShelf_8 : decode cX3_onShelf 8 = .ok (.ldc2_w 52, 3) := by decide +kernel
theorem dX3_onShelf_11 : decode cX3_onShelf 11 = .ok (.goto 14, 3) := by decide +kernel
theorem dX3_onShelf_14 : decode cX3_onShelf 14 = .ok (.aload_n 0, 1) := by decide +kernel
theorem dX3_onShelf_15 : decode cX3_onShelf 15 = .ok (.getfield 28, 3) := by decide +kernel
theorem dX3_onShelf_18 : decode cX3_onShelf 18 = .ok (.aload_n 0, 1) := by decide +kernel
theorem dX3_onShelf_19 : decode cX3_onShelf 19 = .ok (.iload_n 1, 1) := by decide +kernel
theorem dX3_onShelf_20 : decode cX3_onShelf 20 = .ok (.invokevirtual 105, 3) := by decide +kernel
theorem dX3_onShelf_23 : decode cX3_onShelf 23 = .ok (.iaload, 1) := by decide +kernel
theorem dX3_onShelf_24 : decode cX3_onShelf 24 = .ok (.i2l, 1) := by decide +kernel
theorem dX3_onShelf_25 : decode cX3_onShelf 25 = .ok (.lreturn, 1) := by decide +kernel
theorem dX3_takes_0 : decode cX3_takes 0 = .ok (.aload_n 0, 1) := by decide +kernel
theorem dX3_takes_1 : decode cX3_takes 1 = .ok (.dup, 1) := by decide +kernel
theorem dX3_takes_2 : decode cX3_takes 2 = .ok (.getfield 81, 3) := by decide +kernel
theorem dX3_takes_5 : decode cX3_takes 5 = .ok (.iconst 1, 1) := by decide +kernel
theorem dX3_takes_6 : decode cX3_takes 6 = .ok (.isub, 1) := by decide +kernel
theorem dX3_takes_7 : decode cX3_takes 7 = .ok (.putfield 81, 3) := by decide +kernel
theorem dX3_takes_10 : decode cX3_takes 10 = .ok (.aload_n 0, 1) := by decide +kernel
theorem dX3_takes_11 : decode cX3_takes 11 = .ok (.getfield 25, 3) := by decide +kernel
theorem dX3_takes_14 : decode cX3_takes 14 = .ok (.iload_n 1, 1) := by decide +kernel
theorem dX3_takes_15 : decode cX3_takes 15 = .ok (.aload_n 0, 1) := by decide +kernel
theorem dX3_takes_16 : decode cX3_takes 16 = .ok (.getfield 25, 3) := by decide +kernel
theorem dX3_takes_19 : decode cX3_takes 19 = .ok (.aload_n 0, 1) := by decide +kernel
theorem dX3_takes_20 : decode cX3_takes 20 = .ok (.getfield 81, 3) := by decide +kernel
theorem dX3_takes_23 : decode cX3_takes 23 = .ok (.iaload, 1) := by decide +kernel
theorem dX3_takes_24 : decode cX3_takes 24 = .ok (.iastore, 1) := by decide +kernel
theorem dX3_takes_25 : decode cX3_takes 25 = .ok (.aload_n 0, 1) := by decide +kernel
theorem dX3_takes_26 : decode cX3_takes 26 = .ok (.getfield 28, 3) := by decide +kernel
theorem dX3_takes_29 : decode cX3_takes 29 = .ok (.iload_n 1, 1) := by decide +kernel
theorem dX3_takes_30 : decode cX3_takes 30 = .ok (.aload_n 0, 1) := by decide +kernel
theorem dX3_takes_31 : decode cX3_takes 31 = .ok (.getfield 28, 3) := by decide +kernel
theorem dX3_takes_34 : decode cX3_takes 34 = .ok (.aload_n 0, 1) := by decide +kernel
theorem dX3_takes_35 : decode cX3_takes 35 = .ok (.getfield 81, 3) := by decide +kernel
theorem dX3_takes_38 : decode cX3_takes 38 = .ok (.iaload, 1) := by decide +kernel
theorem dX3_takes_39 : decode cX3_takes 39 = .ok (.iastore, 1) := by decide +kernel
theorem dX3_takes_40 : decode cX3_takes 40 = .ok (.aload_n 0, 1) := by decide +kernel
theorem dX3_takes_41 : decode cX3_takes 41 = .ok (.getfield 31, 3) := by decide +kernel
theorem dX3_takes_44 : decode cX3_takes 44 = .ok (.iload_n 1, 1) := by decide +kernel
theorem dX3_takes_45 : decode cX3_takes 45 = .ok (.aload_n 0, 1) := by decide +kernel
theorem dX3_takes_46 : decode cX3_takes 46 = .ok (.getfield 31, 3) := by decide +kernel
theorem dX3_takes_49 : decode cX3_takes 49 = .ok (.aload_n 0, 1) := by decide +kernel
theorem dX3_takes_50 : decode cX3_takes 50 = .ok (.getfield 81, 3) := by decide +kernel
theorem dX3_takes_53 : decode cX3_takes 53 = .ok (.iaload, 1) := by decide +kernel
theorem dX3_takes_54 : decode cX3_takes 54 = .ok (.iastore, 1) := by decide +kernel
theorem dX3_takes_55 : decode cX3_takes 55 = .ok (.return_, 1) := by decide +kernel
theorem dX3_inPlace_0 : decode cX3_inPlace 0 = .ok (.iconst (-1), 1) := by decide +kernel
theorem dX3_inPlace_1 : decode cX3_inPlace 1 = .ok (.istore_n 2, 1) := by decide +kernel
theorem dX3_inPlace_2 : decode cX3_inPlace 2 = .ok (.iconst 0, 1) := by decide +kernel
theorem dX3_inPlace_3 : decode cX3_inPlace 3 = .ok (.istore_n 3, 1) := by decide +kernel
theorem dX3_inPlace_4 : decode cX3_inPlace 4 = .ok (.iload_n 3, 1) := by decide +kernel
theorem dX3_inPlace_5 : decode cX3_inPlace 5 = .ok (.aload_n 0, 1) := by decide +kernel
theorem dX3_inPlace_6 : decode cX3_inPlace 6 = .ok (.getfield 81, 3) := by decide +kernel
theorem dX3_inPlace_9 : decode cX3_inPlace 9 = .ok (.if_icmp .ge 68, 3) := by decide +kernel
theorem dX3_inPlace_12 : decode cX3_inPlace 12 = .ok (.iconst 0, 1) := by decide +kernel
theorem dX3_inPlace_13 : decode cX3_inPlace 13 = .ok (.istore 4, 2) := by decide +kernel
theorem dX3_inPlace_15 : decode cX3_inPlace 15 = .ok (.iconst 0, 1) := by decide +kernel
theorem dX3_inPlace_16 : decode cX3_inPlace 16 = .ok (.istore 5, 2) := by decide +kernel
theorem dX3_inPlace_18 : decode cX3_inPlace 18 = .ok (.iload 5, 2) := by decide +kernel
theorem dX3_inPlace_20 : decode cX3_inPlace 20 = .ok (.aload_n 0, 1) := by decide +kernel
theorem dX3_inPlace_21 : decode cX3_inPlace 21 = .ok (.getfield 81, 3) := by decide +kernel
theorem dX3_inPlace_24 : decode cX3_inPlace 24 = .ok (.if_icmp .ge 35, 3) := by decide +kernel
theorem dX3_inPlace_27 : decode cX3_inPlace 27 = .ok (.iload 4, 2) := by decide +kernel
theorem dX3_inPlace_29 : decode cX3_inPlace 29 = .ok (.aload_n 0, 1) := by decide +kernel
theorem dX3_inPlace_30 : decode cX3_inPlace 30 = .ok (.getfield 31, 3) := by decide +kernel
theorem dX3_inPlace_33 : decode cX3_inPlace 33 = .ok (.iload 5, 2) := by decide +kernel
theorem dX3_inPlace_35 : decode cX3_inPlace 35 = .ok (.iaload, 1) := by decide +kernel
theorem dX3_inPlace_36 : decode cX3_inPlace 36 = .ok (.aload_n 0, 1) := by decide +kernel
theorem dX3_inPlace_37 : decode cX3_inPlace 37 = .ok (.getfield 31, 3) := by decide +kernel
theorem dX3_inPlace_40 : decode cX3_inPlace 40 = .ok (.iload_n 3, 1) := by decide +kernel
theorem dX3_inPlace_41 : decode cX3_inPlace 41 = .ok (.iaload, 1) := by decide +kernel
theorem dX3_inPlace_42 : decode cX3_inPlace 42 = .ok (.if_icmp .ge 7, 3) := by decide +kernel
theorem dX3_inPlace_45 : decode cX3_inPlace 45 = .ok (.iconst 1, 1) := by decide +kernel
theorem dX3_inPlace_46 : decode cX3_inPlace 46 = .ok (.goto 4, 3) := by decide +kernel
theorem dX3_inPlace_49 : decode cX3_inPlace 49 = .ok (.iconst 0, 1) := by decide +kernel
theorem dX3_inPlace_50 : decode cX3_inPlace 50 = .ok (.iadd, 1) := by decide +kernel
theorem dX3_inPlace_51 : decode cX3_inPlace 51 = .ok (.istore 4, 2) := by decide +kernel
theorem dX3_inPlace_53 : decode cX3_inPlace 53 = .ok (.iinc 5 1, 3) := by decide +kernel
theorem dX3_inPlace_56 : decode cX3_inPlace 56 = .ok (.goto (-38), 3) := by decide +kernel
theorem dX3_inPlace_59 : decode cX3_inPlace 59 = .ok (.iload 4, 2) := by decide +kernel
theorem dX3_inPlace_61 : decode cX3_inPlace 61 = .ok (.iload_n 1, 1) := by decide +kernel
theorem dX3_inPlace_62 : decode cX3_inPlace 62 = .ok (.if_icmp .ne 7, 3) := by decide +kernel
theorem dX3_inPlace_65 : decode cX3_inPlace 65 = .ok (.iload_n 3, 1) := by decide +kernel
theorem dX3_inPlace_66 : decode cX3_inPlace 66 = .ok (.goto 4, 3) := by decide +kernel
theorem dX3_inPlace_69 : decode cX3_inPlace 69 = .ok (.iload_n 2, 1) := by decide +kernel
theorem dX3_inPlace_70 : decode cX3_inPlace 70 = .ok (.istore_n 2, 1) := by decide +kernel
theorem dX3_inPlace_71 : decode cX3_inPlace 71 = .ok (.iinc 3 1, 3) := by decide +kernel
theorem dX3_inPlace_74 : decode cX3_inPlace 74 = .ok (.goto (-70), 3) := by decide +kernel
theorem dX3_inPlace_77 : decode cX3_inPlace 77 = .ok (.iload_n 2, 1) := by decide +kernel
theorem dX3_inPlace_78 : decode cX3_inPlace 78 = .ok (.ireturn, 1) := by decide +kernel
theorem dX3_uses_0 : decode cX3_uses 0 = .ok (.aload_n 0, 1) := by decide +kernel
theorem dX3_uses_1 : decode cX3_uses 1 = .ok (.dup, 1) := by decide +kernel
theorem dX3_uses_2 : decode cX3_uses 2 = .ok (.getfield 108, 3) := by decide +kernel
theorem dX3_uses_5 : decode cX3_uses 5 = .ok (.iconst 1, 1) := by decide +kernel
theorem dX3_uses_6 : decode cX3_uses 6 = .ok (.iadd, 1) := by decide +kernel
theorem dX3_uses_7 : decode cX3_uses 7 = .ok (.putfield 108, 3) := by decide +kernel
theorem dX3_uses_10 : decode cX3_uses 10 = .ok (.aload_n 0, 1) := by decide +kernel
theorem dX3_uses_11 : decode cX3_uses 11 = .ok (.getfield 31, 3) := by decide +kernel
theorem dX3_uses_14 : decode cX3_uses 14 = .ok (.iload_n 1, 1) := by decide +kernel
theorem dX3_uses_15 : decode cX3_uses 15 = .ok (.aload_n 0, 1) := by decide +kernel
theorem dX3_uses_16 : decode cX3_uses 16 = .ok (.getfield 108, 3) := by decide +kernel
theorem dX3_uses_19 : decode cX3_uses 19 = .ok (.iastore, 1) := by decide +kernel
theorem dX3_uses_20 : decode cX3_uses 20 = .ok (.return_, 1) := by decide +kernel
set_option maxRecDepth 20000 in
theorem ggX3_crowded_X3_inPlace : GoodIn wsX3_crowded wsX3_inPlace := goodIn_r _ [8, 1, 9, 16, 17, 18, 19, 20, 21, 22, 23, 24, 25, 26, 27, 28, 29, 30, 31] (by decide +kernel) (by decide +kernel)
set_option maxRecDepth 20000 in
theorem gX3_crowded_X3_inPlace : GoodIn wsX3_crowded (wsV RX3 111 RX3 yX3_inPlace wsX3_inPlace) := goodIn_app (goodIn_of _ (by decide +kernel)) ggX3_crowded_X3_inPlace
set_option maxRecDepth 20000 in
theorem ggX3_crowded_X3_takes : GoodIn wsX3_crowded wsX3_takes := goodIn_r _ [13, 1, 14, 15, 9, 16, 17, 18, 19, 20, 21, 22, 23, 24, 25, 26, 27, 28, 29, 30, 31] (by decide +kernel) (by decide +kernel)
set_option maxRecDepth 20000 in
theorem gX3_crowded_X3_takes : GoodIn wsX3_crowded (wsV RX3 114 RX3 yX3_takes wsX3_takes) := goodIn_app (goodIn_of _ (by decide +kernel)) ggX3_crowded_X3_takes
theorem dX3_crowded_0 : decode cX3_crowded 0 = .ok (.iconst 0, 1) := by decide +kernel
theorem dX3_crowded_1 : decode cX3_crowded 1 = .ok (.istore_n 1, 1) := by decide +kernel
theorem dX3_crowded_2 : decode cX3_crowded 2 = .ok (.aload_n 0, 1) := by decide +kernel
theorem dX3_crowded_3 : decode cX3_crowded 3 = .ok (.getfield 81, 3) := by decide +kernel
theorem dX3_crowded_6 : decode cX3_crowded 6 = .ok (.aload_n 0, 1) := by decide +kernel
theorem dX3_crowded_7 : decode cX3_crowded 7 = .ok (.getfield 34, 3) := by decide +kernel
theorem dX3_crowded_10 : decode cX3_crowded 10 = .ok (.if_icmp .le 18, 3) := by decide +kernel
theorem dX3_crowded_13 : decode cX3_crowded 13 = .ok (.aload_n 0, 1) := by decide +kernel
theorem dX3_crowded_14 : decode cX3_crowded 14 = .ok (.aload_n 0, 1) := by decide +kernel
theorem dX3_crowded_15 : decode cX3_crowded 15 = .ok (.iconst 0, 1) := by decide +kernel
theorem dX3_crowded_16 : decode cX3_crowded 16 = .ok (.invokevirtual 111, 3) := by decide +kernel
theorem dX3_crowded_19 : decode cX3_crowded 19 = .ok (.invokevirtual 114, 3) := by decide +kernel
theorem dX3_crowded_22 : decode cX3_crowded 22 = .ok (.iinc 1 1, 3) := by decide +kernel
theorem dX3_crowded_25 : decode cX3_crowded 25 = .ok (.goto (-23), 3) := by decide +kernel
theorem dX3_crowded_28 : decode cX3_crowded 28 = .ok (.aload_n 0, 1) := by decide +kernel
theorem dX3_crowded_29 : decode cX3_crowded 29 = .ok (.dup, 1) := by decide +kernel
theorem dX3_crowded_30 : decode cX3_crowded 30 = .ok (.getfield 117, 3) := by decide +kernel
theorem dX3_crowded_33 : decode cX3_crowded 33 = .ok (.iload_n 1, 1) := by decide +kernel
theorem dX3_crowded_34 : decode cX3_crowded 34 = .ok (.iadd, 1) := by decide +kernel
theorem dX3_crowded_35 : decode cX3_crowded 35 = .ok (.putfield 117, 3) := by decide +kernel
theorem dX3_crowded_38 : decode cX3_crowded 38 = .ok (.iload_n 1, 1) := by decide +kernel
theorem dX3_crowded_39 : decode cX3_crowded 39 = .ok (.ireturn, 1) := by decide +kernel
set_option maxRecDepth 20000 in
theorem ggX3_laysOn_X3_shelfAt : GoodIn wsX3_laysOn wsX3_shelfAt := goodIn_r _ [8, 2, 1, 9, 10, 7, 11, 32, 33, 34, 35, 36, 37, 38, 39, 40, 41, 42, 43, 44, 45, 46, 47] (by decide +kernel) (by decide +kernel)
set_option maxRecDepth 20000 in
theorem gX3_laysOn_X3_shelfAt : GoodIn wsX3_laysOn (wsV RX3 105 RX3 yX3_shelfAt wsX3_shelfAt) := goodIn_app (goodIn_of _ (by decide +kernel)) ggX3_laysOn_X3_shelfAt
set_option maxRecDepth 20000 in
theorem ggX3_laysOn_X3_uses : GoodIn wsX3_laysOn wsX3_uses := goodIn_r _ [15, 16, 17, 32, 33, 34, 35, 36, 37, 38, 39, 40, 41, 42, 43, 44, 45, 46, 47] (by decide +kernel) (by decide +kernel)
set_option maxRecDepth 20000 in
theorem gX3_laysOn_X3_uses : GoodIn wsX3_laysOn (wsV RX3 120 RX3 yX3_uses wsX3_uses) := goodIn_app (goodIn_of _ (by decide +kernel)) ggX3_laysOn_X3_uses
set_option maxRecDepth 20000 in
theorem ggX3_laysOn_X3_crowded : GoodIn wsX3_laysOn wsX3_crowded := goodIn_r _ [21, 1, 22, 23, 24, 25, 26, 7, 27, 17, 28, 29, 30, 31, 2, 3, 32, 33, 34, 35, 36, 37, 38, 39, 40, 41, 42, 43, 44, 45, 46, 47] (by decide +kernel) (by decide +kernel)
set_option maxRecDepth 20000 in
theorem gX3_laysOn_X3_crowded : GoodIn wsX3_laysOn (wsV RX3 122 RX3 yX3_crowded wsX3_crowded) := goodIn_app (goodIn_of _ (by decide +kernel)) ggX3_laysOn_X3_crowded
theorem dX3_laysOn_0 : decode cX3_laysOn 0 = .ok (.aload_n 0, 1) := by decide +kernel
theorem dX3_laysOn_1 : decode cX3_laysOn 1 = .ok (.iload_n 1, 1) := by decide +kernel
theorem dX3_laysOn_2 : decode cX3_laysOn 2 = .ok (.invokevirtual 105, 3) := by decide +kernel
theorem dX3_laysOn_5 : decode cX3_laysOn 5 = .ok (.istore_n 3, 1) := by decide +kernel
theorem dX3_laysOn_6 : decode cX3_laysOn 6 = .ok (.iload_n 3, 1) := by decide +kernel
theorem dX3_laysOn_7 : decode cX3_laysOn 7 = .ok (.ifCond .ge 25, 3) := by decide +kernel
theorem dX3_laysOn_10 : decode cX3_laysOn 10 = .ok (.aload_n 0, 1) := by decide +kernel
theorem dX3_laysOn_11 : decode cX3_laysOn 11 = .ok (.getfield 81, 3) := by decide +kernel
theorem dX3_laysOn_14 : decode cX3_laysOn 14 = .ok (.istore_n 3, 1) := by decide +kernel
theorem dX3_laysOn_15 : decode cX3_laysOn 15 = .ok (.aload_n 0, 1) := by decide +kernel
theorem dX3_laysOn_16 : decode cX3_laysOn 16 = .ok (.getfield 25, 3) := by decide +kernel
theorem dX3_laysOn_19 : decode cX3_laysOn 19 = .ok (.iload_n 3, 1) := by decide +kernel
theorem dX3_laysOn_20 : decode cX3_laysOn 20 = .ok (.iload_n 1, 1) := by decide +kernel
theorem dX3_laysOn_21 : decode cX3_laysOn 21 = .ok (.iastore, 1) := by decide +kernel
theorem dX3_laysOn_22 : decode cX3_laysOn 22 = .ok (.aload_n 0, 1) := by decide +kernel
theorem dX3_laysOn_23 : decode cX3_laysOn 23 = .ok (.dup, 1) := by decide +kernel
theorem dX3_laysOn_24 : decode cX3_laysOn 24 = .ok (.getfield 81, 3) := by decide +kernel
theorem dX3_laysOn_27 : decode cX3_laysOn 27 = .ok (.iconst 1, 1) := by decide +kernel
theorem dX3_laysOn_28 : decode cX3_laysOn 28 = .ok (.iadd, 1) := by decide +kernel
theorem dX3_laysOn_29 : decode cX3_laysOn 29 = .ok (.putfield 81, 3) := by decide +kernel
theorem dX3_laysOn_32 : decode cX3_laysOn 32 = .ok (.aload_n 0, 1) := by decide +kernel
theorem dX3_laysOn_33 : decode cX3_laysOn 33 = .ok (.getfield 28, 3) := by decide +kernel
theorem dX3_laysOn_36 : decode cX3_laysOn 36 = .ok (.iload_n 3, 1) := by decide +kernel
theorem dX3_laysOn_37 : decode cX3_laysOn 37 = .ok (.iload_n 2, 1) := by decide +kernel
theorem dX3_laysOn_38 : decode cX3_laysOn 38 = .ok (.iastore, 1) := by decide +kernel
theorem dX3_laysOn_39 : decode cX3_laysOn 39 = .ok (.aload_n 0, 1) := by decide +kernel
theorem dX3_laysOn_40 : decode cX3_laysOn 40 = .ok (.iload_n 3, 1) := by decide +kernel
theorem dX3_laysOn_41 : decode cX3_laysOn 41 = .ok (.invokevirtual 120, 3) := by decide +kernel
theorem dX3_laysOn_44 : decode cX3_laysOn 44 = .ok (.aload_n 0, 1) := by decide +kernel
theorem dX3_laysOn_45 : decode cX3_laysOn 45 = .ok (.invokevirtual 122, 3) := by decide +kernel
theorem dX3_laysOn_48 : decode cX3_laysOn 48 = .ok (.istore 4, 2) := by decide +kernel
theorem dX3_laysOn_50 : decode cX3_laysOn 50 = .ok (.return_, 1) := by decide +kernel
set_option maxRecDepth 20000 in
theorem ggX3_room_X3_in : GoodIn wsX3_room wsX3_in := goodIn_r _ [5] (by decide +kernel) (by decide +kernel)
set_option maxRecDepth 20000 in
theorem gX3_room_X3_in : GoodIn wsX3_room (va_wsS RX3 73 yX3_in wsX3_in) := goodIn_app (goodIn_of _ (by decide +kernel)) ggX3_room_X3_in
set_option maxRecDepth 20000 in
theorem ggX3_room_X3_fails : GoodIn wsX3_room wsX3_fails := goodIn_r _ [9, 10, 28, 29, 30, 31, 32, 33, 34, 35, 36, 37, 38, 39, 40, 41, 42, 43] (by decide +kernel) (by decide +kernel)
set_option maxRecDepth 20000 in
theorem gX3_room_X3_fails : GoodIn wsX3_room (wsV RX3 58 RX3 yX3_fails wsX3_fails) := goodIn_app (goodIn_of _ (by decide +kernel)) ggX3_room_X3_fails
set_option maxRecDepth 20000 in
theorem ggX3_room_X3_crowded : GoodIn wsX3_room wsX3_crowded := goodIn_r _ [14, 15, 1, 16, 17, 18, 19, 4, 20, 21, 22, 23, 24, 25, 26, 27, 28, 29, 30, 31, 32, 33, 34, 35, 36, 37, 38, 39, 40, 41, 42, 43] (by decide +kernel) (by decide +kernel)
set_option maxRecDepth 20000 in
theorem gX3_room_X3_crowded : GoodIn wsX3_room (wsV RX3 122 RX3 yX3_crowded wsX3_crowded) := goodIn_app (goodIn_of _ (by decide +kernel)) ggX3_room_X3_crowded
theorem dX3_room_0 : decode cX3_room 0 = .ok (.aload_n 0, 1) := by decide +kernel
theorem dX3_room_1 : decode cX3_room 1 = .ok (.iload_n 1, 1) := by decide +kernel
theorem dX3_room_2 : decode cX3_room 2 = .ok (.iconst 1, 1) := by decide +kernel
theorem dX3_room_3 : decode cX3_room 3 = .ok (.bipush 60, 2) := by decide +kernel
theorem dX3_room_5 : decode cX3_room 5 = .ok (.invokestatic 73, 3) := by decide +kernel
theorem dX3_room_8 : decode cX3_room 8 = .ok (.ifCond .eq 7, 3) := by decide +kernel
theorem dX3_room_11 : decode cX3_room 11 = .ok (.iconst 0, 1) := by decide +kernel
theorem dX3_room_12 : decode cX3_room 12 = .ok (.goto 4, 3) := by decide +kernel
theorem dX3_room_15 : decode cX3_room 15 = .ok (.iconst 1, 1) := by decide +kernel
theorem dX3_room_16 : decode cX3_room 16 = .ok (.invokevirtual 58, 3) := by decide +kernel
theorem dX3_room_19 : decode cX3_room 19 = .ok (.ifCond .eq 5, 3) := by decide +kernel
theorem dX3_room_22 : decode cX3_room 22 = .ok (.iconst 0, 1) := by decide +kernel
theorem dX3_room_23 : decode cX3_room 23 = .ok (.ireturn, 1) := by decide +kernel
theorem dX3_room_24 : decode cX3_room 24 = .ok (.aload_n 0, 1) := by decide +kernel
theorem dX3_room_25 : decode cX3_room 25 = .ok (.iload_n 1, 1) := by decide +kernel
theorem dX3_room_26 : decode cX3_room 26 = .ok (.putfield 34, 3) := by decide +kernel
theorem dX3_room_29 : decode cX3_room 29 = .ok (.aload_n 0, 1) := by decide +kernel
theorem dX3_room_30 : decode cX3_room 30 = .ok (.invokevirtual 122, 3) := by decide +kernel
theorem dX3_room_33 : decode cX3_room 33 = .ok (.ireturn, 1) := by decide +kernel
set_option maxRecDepth 20000 in
theorem ggX3_lay_X3_onShelf : GoodIn wsX3_lay wsX3_onShelf := goodIn_r _ [6, 7, 8, 9, 10, 11, 5, 12, 13, 14, 15, 16, 17, 42, 43, 44, 45, 46, 47, 48, 49, 50, 51, 52, 53, 54, 55, 56, 57] (by decide +kernel) (by decide +kernel)
set_option maxRecDepth 20000 in
theorem gX3_lay_X3_onShelf : GoodIn wsX3_lay (wsV RX3 126 RX3 yX3_onShelf wsX3_onShelf) := goodIn_app (goodIn_of _ (by decide +kernel)) ggX3_lay_X3_onShelf
set_option maxRecDepth 20000 in
theorem ggX3_lay_X3_laysOn : GoodIn wsX3_lay wsX3_laysOn := goodIn_r _ [21, 14, 13, 8, 9, 10, 11, 5, 12, 15, 16, 17, 22, 23, 24, 25, 26, 27, 28, 29, 30, 31, 32, 33, 34, 35, 36, 37, 38, 39, 40, 41, 42, 43, 44, 45, 46, 47, 48, 49, 50, 51, 52, 53, 54, 55, 56, 57] (by decide +kernel) (by decide +kernel)
set_option maxRecDepth 20000 in
theorem gX3_lay_X3_laysOn : GoodIn wsX3_lay (wsV RX3 129 RX3 yX3_laysOn wsX3_laysOn) := goodIn_app (goodIn_of _ (by decide +kernel)) ggX3_lay_X3_laysOn
theorem dX3_lay_0 : decode cX3_lay 0 = .ok (.aload_n 0, 1) := by decide +kernel
theorem dX3_lay_1 : decode cX3_lay 1 = .ok (.iconst 0, 1) := by decide +kernel
theorem dX3_lay_2 : decode cX3_lay 2 = .ok (.putfield 38, 3) := by decide +kernel
theorem dX3_lay_5 : decode cX3_lay 5 = .ok (.aload_n 0, 1) := by decide +kernel
theorem dX3_lay_6 : decode cX3_lay 6 = .ok (.iload_n 1, 1) := by decide +kernel
theorem dX3_lay_7 : decode cX3_lay 7 = .ok (.invokevirtual 126, 3) := by decide +kernel
theorem dX3_lay_10 : decode cX3_lay 10 = .ok (.lstore_n 3, 1) := by decide +kernel
theorem dX3_lay_11 : decode cX3_lay 11 = .ok (.aload_n 0, 1) := by decide +kernel
theorem dX3_lay_12 : decode cX3_lay 12 = .ok (.iload_n 1, 1) := by decide +kernel
theorem dX3_lay_13 : decode cX3_lay 13 = .ok (.iload_n 2, 1) := by decide +kernel
theorem dX3_lay_14 : decode cX3_lay 14 = .ok (.invokevirtual 129, 3) := by decide +kernel
theorem dX3_lay_17 : decode cX3_lay 17 = .ok (.lload_n 3, 1) := by decide +kernel
theorem dX3_lay_18 : decode cX3_lay 18 = .ok (.lreturn, 1) := by decide +kernel
set_option maxRecDepth 20000 in
theorem ggX3_layIfAbsent_X3_onShelf : GoodIn wsX3_layIfAbsent wsX3_onShelf := goodIn_r _ [7, 2, 8, 9, 10, 11, 6, 12, 13, 14, 15, 16, 17, 42, 43, 44, 45, 46, 47, 48, 49, 50, 51, 52, 53, 54, 55, 56, 57] (by decide +kernel) (by decide +kernel)
set_option maxRecDepth 20000 in
theorem gX3_layIfAbsent_X3_onShelf : GoodIn wsX3_layIfAbsent (wsV RX3 126 RX3 yX3_onShelf wsX3_onShelf) := goodIn_app (goodIn_of _ (by decide +kernel)) ggX3_layIfAbsent_X3_onShelf
set_option maxRecDepth 20000 in
theorem ggX3_layIfAbsent_X3_laysOn : GoodIn wsX3_layIfAbsent wsX3_laysOn := goodIn_r _ [21, 14, 13, 8, 9, 10, 11, 6, 12, 15, 16, 17, 22, 23, 24, 25, 26, 27, 28, 29, 30, 31, 32, 33, 34, 35, 36, 37, 38, 39, 40, 41, 42, 43, 44, 45, 46, 47, 48, 49, 50, 51, 52, 53, 54, 55, 56, 57] (by decide +kernel) (by decide +kernel)
set_option maxRecDepth 20000 in
theorem gX3_layIfAbsent_X3_laysOn : GoodIn wsX3_layIfAbsent (wsV RX3 129 RX3 yX3_laysOn wsX3_laysOn) := goodIn_app (goodIn_of _ (by decide +kernel)) ggX3_layIfAbsent_X3_laysOn
theorem dX3_layIfAbsent_0 : decode cX3_layIfAbsent 0 = .ok (.aload_n 0, 1) := by decide +kernel
theorem dX3_layIfAbsent_1 : decode cX3_layIfAbsent 1 = .ok (.iconst 0, 1) := by decide +kernel
theorem dX3_layIfAbsent_2 : decode cX3_layIfAbsent 2 = .ok (.putfield 38, 3) := by decide +kernel
theorem dX3_layIfAbsent_5 : decode cX3_layIfAbsent 5 = .ok (.aload_n 0, 1) := by decide +kernel
theorem dX3_layIfAbsent_6 : decode cX3_layIfAbsent 6 = .ok (.iload_n 1, 1) := by decide +kernel
theorem dX3_layIfAbsent_7 : decode cX3_layIfAbsent 7 = .ok (.invokevirtual 126, 3) := by decide +kernel
theorem dX3_layIfAbsent_10 : decode cX3_layIfAbsent 10 = .ok (.lstore_n 3, 1) := by decide +kernel
theorem dX3_layIfAbsent_11 : decode cX3_layIfAbsent 11 = .ok (.aload_n 0, 1) := by decide +kernel
theorem dX3_layIfAbsent_12 : decode cX3_layIfAbsent 12 = .ok (.iload_n 1, 1) := by decide +kernel
theorem dX3_layIfAbsent_13 : decode cX3_layIfAbsent 13 = .ok (.lload_n 3, 1) := by decide +kernel
theorem dX3_layIfAbsent_14 : decode cX3_layIfAbsent 14 = .ok (.ldc2_w 52, 3) := by decide +kernel
theorem dX3_layIfAbsent_17 : decode cX3_layIfAbsent 17 = .ok (.lcmp, 1) := by decide +kernel
theorem dX3_layIfAbsent_18 : decode cX3_layIfAbsent 18 = .ok (.ifCond .ne 7, 3) := by decide +kernel
theorem dX3_layIfAbsent_21 : decode cX3_layIfAbsent 21 = .ok (.iload_n 2, 1) := by decide +kernel
theorem dX3_layIfAbsent_22 : decode cX3_layIfAbsent 22 = .ok (.goto 5, 3) := by decide +kernel
theorem dX3_layIfAbsent_25 : decode cX3_layIfAbsent 25 = .ok (.lload_n 3, 1) := by decide +kernel
theorem dX3_layIfAbsent_26 : decode cX3_layIfAbsent 26 = .ok (.l2i, 1) := by decide +kernel
theorem dX3_layIfAbsent_27 : decode cX3_layIfAbsent 27 = .ok (.invokevirtual 129, 3) := by decide +kernel
theorem dX3_layIfAbsent_30 : decode cX3_layIfAbsent 30 = .ok (.lload_n 3, 1) := by decide +kernel
theorem dX3_layIfAbsent_31 : decode cX3_layIfAbsent 31 = .ok (.lreturn, 1) := by decide +kernel
set_option maxRecDepth 20000 in
theorem ggX3_use_X3_shelfAt : GoodIn wsX3_use wsX3_shelfAt := goodIn_r _ [6, 7, 8, 9, 10, 5, 11, 24, 25, 26, 27, 28, 29, 30, 31, 32, 33, 34, 35, 36, 37, 38, 39] (by decide +kernel) (by decide +kernel)
set_option maxRecDepth 20000 in
theorem gX3_use_X3_shelfAt : GoodIn wsX3_use (wsV RX3 105 RX3 yX3_shelfAt wsX3_shelfAt) := goodIn_app (goodIn_of _ (by decide +kernel)) ggX3_use_X3_shelfAt
set_option maxRecDepth 20000 in
theorem ggX3_use_X3_uses : GoodIn wsX3_use wsX3_uses := goodIn_r _ [15, 16, 17, 24, 25, 26, 27, 28, 29, 30, 31, 32, 33, 34, 35, 36, 37, 38, 39] (by decide +kernel) (by decide +kernel)
set_option maxRecDepth 20000 in
theorem gX3_use_X3_uses : GoodIn wsX3_use (wsV RX3 120 RX3 yX3_uses wsX3_uses) := goodIn_app (goodIn_of _ (by decide +kernel)) ggX3_use_X3_uses
set_option maxRecDepth 20000 in
theorem ggX3_use_X3_onShelf : GoodIn wsX3_use wsX3_onShelf := goodIn_r _ [21, 22, 23, 2, 3, 4, 5, 6, 7, 8, 9, 10, 11, 24, 25, 26, 27, 28, 29, 30, 31, 32, 33, 34, 35, 36, 37, 38, 39] (by decide +kernel) (by decide +kernel)
set_option maxRecDepth 20000 in
theorem gX3_use_X3_onShelf : GoodIn wsX3_use (wsV RX3 126 RX3 yX3_onShelf wsX3_onShelf) := goodIn_app (goodIn_of _ (by decide +kernel)) ggX3_use_X3_onShelf
theorem dX3_use_0 : decode cX3_use 0 = .ok (.aload_n 0, 1) := by decide +kernel
theorem dX3_use_1 : decode cX3_use 1 = .ok (.iconst 0, 1) := by decide +kernel
theorem dX3_use_2 : decode cX3_use 2 = .ok (.putfield 38, 3) := by decide +kernel
theorem dX3_use_5 : decode cX3_use 5 = .ok (.aload_n 0, 1) := by decide +kernel
theorem dX3_use_6 : decode cX3_use 6 = .ok (.iload_n 1, 1) := by decide +kernel
theorem dX3_use_7 : decode cX3_use 7 = .ok (.invokevirtual 105, 3) := by decide +kernel
theorem dX3_use_10 : decode cX3_use 10 = .ok (.ifCond .lt 12, 3) := by decide +kernel
theorem dX3_use_13 : decode cX3_use 13 = .ok (.aload_n 0, 1) := by decide +kernel
theorem dX3_use_14 : decode cX3_use 14 = .ok (.aload_n 0, 1) := by decide +kernel
theorem dX3_use_15 : decode cX3_use 15 = .ok (.iload_n 1, 1) := by decide +kernel
theorem dX3_use_16 : decode cX3_use 16 = .ok (.invokevirtual 105, 3) := by decide +kernel
theorem dX3_use_19 : decode cX3_use 19 = .ok (.invokevirtual 120, 3) := by decide +kernel
theorem dX3_use_22 : decode cX3_use 22 = .ok (.aload_n 0, 1) := by decide +kernel
theorem dX3_use_23 : decode cX3_use 23 = .ok (.iload_n 1, 1) := by decide +kernel
theorem dX3_use_24 : decode cX3_use 24 = .ok (.invokevirtual 126, 3) := by decide +kernel
theorem dX3_use_27 : decode cX3_use 27 = .ok (.lreturn, 1) := by decide +kernel
set_option maxRecDepth 20000 in
theorem ggX3_useOrDefault_X3_shelfAt : GoodIn wsX3_useOrDefault wsX3_shelfAt := goodIn_r _ [6, 7, 8, 9, 10, 5, 11, 24, 25, 26, 27, 28, 29, 30, 31, 32, 33, 34, 35, 36, 37, 38, 39] (by decide +kernel) (by decide +kernel)
set_option maxRecDepth 20000 in
theorem gX3_useOrDefault_X3_shelfAt : GoodIn wsX3_useOrDefault (wsV RX3 105 RX3 yX3_shelfAt wsX3_shelfAt) := goodIn_app (goodIn_of _ (by decide +kernel)) ggX3_useOrDefault_X3_shelfAt
set_option maxRecDepth 20000 in
theorem ggX3_useOrDefault_X3_uses : GoodIn wsX3_useOrDefault wsX3_uses := goodIn_r _ [15, 16, 17, 24, 25, 26, 27, 28, 29, 30, 31, 32, 33, 34, 35, 36, 37, 38, 39] (by decide +kernel) (by decide +kernel)
set_option maxRecDepth 20000 in
theorem gX3_useOrDefault_X3_uses : GoodIn wsX3_useOrDefault (wsV RX3 120 RX3 yX3_uses wsX3_uses) := goodIn_app (goodIn_of _ (by decide +kernel)) ggX3_useOrDefault_X3_uses
set_option maxRecDepth 20000 in
theorem ggX3_useOrDefault_X3_onShelf : GoodIn wsX3_useOrDefault wsX3_onShelf := goodIn_r _ [21, 22, 23, 2, 3, 4, 5, 6, 7, 8, 9, 10, 11, 24, 25, 26, 27, 28, 29, 30, 31, 32, 33, 34, 35, 36, 37, 38, 39] (by decide +kernel) (by decide +kernel)
set_option maxRecDepth 20000 in
theorem gX3_useOrDefault_X3_onShelf : GoodIn wsX3_useOrDefault (wsV RX3 126 RX3 yX3_onShelf wsX3_onShelf) := goodIn_app (goodIn_of _ (by decide +kernel)) ggX3_useOrDefault_X3_onShelf
theorem dX3_useOrDefault_0 : decode cX3_useOrDefault 0 = .ok (.aload_n 0, 1) := by decide +kernel
theorem dX3_useOrDefault_1 : decode cX3_useOrDefault 1 = .ok (.iconst 0, 1) := by decide +kernel
theorem dX3_useOrDefault_2 : decode cX3_useOrDefault 2 = .ok (.putfield 38, 3) := by decide +kernel
theorem dX3_useOrDefault_5 : decode cX3_useOrDefault 5 = .ok (.aload_n 0, 1) := by decide +kernel
theorem dX3_useOrDefault_6 : decode cX3_useOrDefault 6 = .ok (.iload_n 1, 1) := by decide +kernel
theorem dX3_useOrDefault_7 : decode cX3_useOrDefault 7 = .ok (.invokevirtual 105, 3) := by decide +kernel
theorem dX3_useOrDefault_10 : decode cX3_useOrDefault 10 = .ok (.ifCond .ge 5, 3) := by decide +kernel
theorem dX3_useOrDefault_13 : decode cX3_useOrDefault 13 = .ok (.iload_n 2, 1) := by decide +kernel
theorem dX3_useOrDefault_14 : decode cX3_useOrDefault 14 = .ok (.ireturn, 1) := by decide +kernel
theorem dX3_useOrDefault_15 : decode cX3_useOrDefault 15 = .ok (.aload_n 0, 1) := by decide +kernel
theorem dX3_useOrDefault_16 : decode cX3_useOrDefault 16 = .ok (.aload_n 0, 1) := by decide +kernel
theorem dX3_useOrDefault_17 : decode cX3_useOrDefault 17 = .ok (.iload_n 1, 1) := by decide +kernel
theorem dX3_useOrDefault_18 : decode cX3_useOrDefault 18 = .ok (.invokevirtual 105, 3) := by decide +kernel
theorem dX3_useOrDefault_21 : decode cX3_useOrDefault 21 = .ok (.invokevirtual 120, 3) := by decide +kernel
theorem dX3_useOrDefault_24 : decode cX3_useOrDefault 24 = .ok (.aload_n 0, 1) := by decide +kernel
theorem dX3_useOrDefault_25 : decode cX3_useOrDefault 25 = .ok (.iload_n 1, 1) := by decide +kernel
theorem dX3_useOrDefault_26 : decode cX3_useOrDefault 26 = .ok (.invokevirtual 126, 3) := by decide +kernel
theorem dX3_useOrDefault_29 : decode cX3_useOrDefault 29 = .ok (.l2i, 1) := by decide +kernel
theorem dX3_useOrDefault_30 : decode cX3_useOrDefault 30 = .ok (.ireturn, 1) := by decide +kernel
set_option maxRecDepth 20000 in
theorem ggX3_look_X3_shelfAt : GoodIn wsX3_look wsX3_shelfAt := goodIn_r _ [6, 7, 8, 9, 10, 5, 11, 12, 13, 14, 15, 16, 17, 18, 19, 20, 21, 22, 23, 24, 25, 26, 27] (by decide +kernel) (by decide +kernel)
set_option maxRecDepth 20000 in
theorem gX3_look_X3_shelfAt : GoodIn wsX3_look (wsV RX3 105 RX3 yX3_shelfAt wsX3_shelfAt) := goodIn_app (goodIn_of _ (by decide +kernel)) ggX3_look_X3_shelfAt
theorem dX3_look_0 : decode cX3_look 0 = .ok (.aload_n 0, 1) := by decide +kernel
theorem dX3_look_1 : decode cX3_look 1 = .ok (.iconst 0, 1) := by decide +kernel
theorem dX3_look_2 : decode cX3_look 2 = .ok (.putfield 38, 3) := by decide +kernel
theorem dX3_look_5 : decode cX3_look 5 = .ok (.aload_n 0, 1) := by decide +kernel
theorem dX3_look_6 : decode cX3_look 6 = .ok (.iload_n 1, 1) := by decide +kernel
theorem dX3_look_7 : decode cX3_look 7 = .ok (.invokevirtual 105, 3) := by decide +kernel
theorem dX3_look_10 : decode cX3_look 10 = .ok (.ifCond .lt 7, 3) := by decide +kernel
theorem dX3_look_13 : decode cX3_look 13 = .ok (.iconst 1, 1) := by decide +kernel
theorem dX3_look_14 : decode cX3_look 14 = .ok (.goto 4, 3) := by decide +kernel
theorem dX3_look_17 : decode cX3_look 17 = .ok (.iconst 0, 1) := by decide +kernel
theorem dX3_look_18 : decode cX3_look 18 = .ok (.ireturn, 1) := by decide +kernel
set_option maxRecDepth 20000 in
theorem ggX3_take_X3_onShelf : GoodIn wsX3_take wsX3_onShelf := goodIn_r _ [7, 2, 8, 9, 10, 11, 6, 12, 13, 14, 15, 16, 17, 23, 24, 25, 26, 27, 28, 29, 30, 31, 32, 33, 34, 35, 36, 37, 38] (by decide +kernel) (by decide +kernel)
set_option maxRecDepth 20000 in
theorem gX3_take_X3_onShelf : GoodIn wsX3_take (wsV RX3 126 RX3 yX3_onShelf wsX3_onShelf) := goodIn_app (goodIn_of _ (by decide +kernel)) ggX3_take_X3_onShelf
set_option maxRecDepth 20000 in
theorem ggX3_take_X3_shelfAt : GoodIn wsX3_take wsX3_shelfAt := goodIn_r _ [12, 13, 14, 15, 16, 6, 17, 23, 24, 25, 26, 27, 28, 29, 30, 31, 32, 33, 34, 35, 36, 37, 38] (by decide +kernel) (by decide +kernel)
set_option maxRecDepth 20000 in
theorem gX3_take_X3_shelfAt : GoodIn wsX3_take (wsV RX3 105 RX3 yX3_shelfAt wsX3_shelfAt) := goodIn_app (goodIn_of _ (by decide +kernel)) ggX3_take_X3_shelfAt
set_option maxRecDepth 20000 in
theorem ggX3_take_X3_takes : GoodIn wsX3_take wsX3_takes := goodIn_r _ [21, 14, 13, 8, 22, 23, 24, 25, 26, 27, 28, 29, 30, 31, 32, 33, 34, 35, 36, 37, 38] (by decide +kernel) (by decide +kernel)
set_option maxRecDepth 20000 in
theorem gX3_take_X3_takes : GoodIn wsX3_take (wsV RX3 114 RX3 yX3_takes wsX3_takes) := goodIn_app (goodIn_of _ (by decide +kernel)) ggX3_take_X3_takes
theorem dX3_take_0 : decode cX3_take 0 = .ok (.aload_n 0, 1) := by decide +kernel
theorem dX3_take_1 : decode cX3_take 1 = .ok (.iconst 0, 1) := by decide +kernel
theorem dX3_take_2 : decode cX3_take 2 = .ok (.putfield 38, 3) := by decide +kernel
theorem dX3_take_5 : decode cX3_take 5 = .ok (.aload_n 0, 1) := by decide +kernel
theorem dX3_take_6 : decode cX3_take 6 = .ok (.iload_n 1, 1) := by decide +kernel
theorem dX3_take_7 : decode cX3_take 7 = .ok (.invokevirtual 126, 3) := by decide +kernel
theorem dX3_take_10 : decode cX3_take 10 = .ok (.lstore_n 2, 1) := by decide +kernel
theorem dX3_take_11 : decode cX3_take 11 = .ok (.lload_n 2, 1) := by decide +kernel
theorem dX3_take_12 : decode cX3_take 12 = .ok (.ldc2_w 52, 3) := by decide +kernel
theorem dX3_take_15 : decode cX3_take 15 = .ok (.lcmp, 1) := by decide +kernel
theorem dX3_take_16 : decode cX3_take 16 = .ok (.ifCond .eq 12, 3) := by decide +kernel
theorem dX3_take_19 : decode cX3_take 19 = .ok (.aload_n 0, 1) := by decide +kernel
theorem dX3_take_20 : decode cX3_take 20 = .ok (.aload_n 0, 1) := by decide +kernel
theorem dX3_take_21 : decode cX3_take 21 = .ok (.iload_n 1, 1) := by decide +kernel
theorem dX3_take_22 : decode cX3_take 22 = .ok (.invokevirtual 105, 3) := by decide +kernel
theorem dX3_take_25 : decode cX3_take 25 = .ok (.invokevirtual 114, 3) := by decide +kernel
theorem dX3_take_28 : decode cX3_take 28 = .ok (.lload_n 2, 1) := by decide +kernel
theorem dX3_take_29 : decode cX3_take 29 = .ok (.lreturn, 1) := by decide +kernel
set_option maxRecDepth 20000 in
theorem ggX3_keyAt_X3_in : GoodIn wsX3_keyAt wsX3_in := goodIn_r _ [6] (by decide +kernel) (by decide +kernel)
set_option maxRecDepth 20000 in
theorem gX3_keyAt_X3_in : GoodIn wsX3_keyAt (va_wsS RX3 73 yX3_in wsX3_in) := goodIn_app (goodIn_of _ (by decide +kernel)) ggX3_keyAt_X3_in
set_option maxRecDepth 20000 in
theorem ggX3_keyAt_X3_fails : GoodIn wsX3_keyAt wsX3_fails := goodIn_r _ [10, 11, 17, 18, 19, 20, 21, 22, 23, 24, 25, 26, 27, 28, 29, 30, 31, 32] (by decide +kernel) (by decide +kernel)
set_option maxRecDepth 20000 in
theorem gX3_keyAt_X3_fails : GoodIn wsX3_keyAt (wsV RX3 58 RX3 yX3_fails wsX3_fails) := goodIn_app (goodIn_of _ (by decide +kernel)) ggX3_keyAt_X3_fails
set_option maxRecDepth 20000 in
theorem ggX3_keyAt_X3_inPlace : GoodIn wsX3_keyAt wsX3_inPlace := goodIn_r _ [15, 1, 16, 17, 18, 19, 20, 21, 22, 23, 24, 25, 26, 27, 28, 29, 30, 31, 32] (by decide +kernel) (by decide +kernel)
set_option maxRecDepth 20000 in
theorem gX3_keyAt_X3_inPlace : GoodIn wsX3_keyAt (wsV RX3 111 RX3 yX3_inPlace wsX3_inPlace) := goodIn_app (goodIn_of _ (by decide +kernel)) ggX3_keyAt_X3_inPlace
theorem dX3_keyAt_0 : decode cX3_keyAt 0 = .ok (.aload_n 0, 1) := by decide +kernel
theorem dX3_keyAt_1 : decode cX3_keyAt 1 = .ok (.iload_n 1, 1) := by decide +kernel
theorem dX3_keyAt_2 : decode cX3_keyAt 2 = .ok (.iconst 0, 1) := by decide +kernel
theorem dX3_keyAt_3 : decode cX3_keyAt 3 = .ok (.aload_n 0, 1) := by decide +kernel
theorem dX3_keyAt_4 : decode cX3_keyAt 4 = .ok (.getfield 81, 3) := by decide +kernel
theorem dX3_keyAt_7 : decode cX3_keyAt 7 = .ok (.iconst 1, 1) := by decide +kernel
theorem dX3_keyAt_8 : decode cX3_keyAt 8 = .ok (.isub, 1) := by decide +kernel
theorem dX3_keyAt_9 : decode cX3_keyAt 9 = .ok (.invokestatic 73, 3) := by decide +kernel
theorem dX3_keyAt_12 : decode cX3_keyAt 12 = .ok (.ifCond .eq 7, 3) := by decide +kernel
theorem dX3_keyAt_15 : decode cX3_keyAt 15 = .ok (.iconst 0, 1) := by decide +kernel
theorem dX3_keyAt_16 : decode cX3_keyAt 16 = .ok (.goto 4, 3) := by decide +kernel
theorem dX3_keyAt_19 : decode cX3_keyAt 19 = .ok (.iconst 1, 1) := by decide +kernel
theorem dX3_keyAt_20 : decode cX3_keyAt 20 = .ok (.invokevirtual 58, 3) := by decide +kernel
theorem dX3_keyAt_23 : decode cX3_keyAt 23 = .ok (.ifCond .eq 7, 3) := by decide +kernel
theorem dX3_keyAt_26 : decode cX3_keyAt 26 = .ok (.iconst 0, 1) := by decide +kernel
theorem dX3_keyAt_27 : decode cX3_keyAt 27 = .ok (.goto 13, 3) := by decide +kernel
theorem dX3_keyAt_30 : decode cX3_keyAt 30 = .ok (.aload_n 0, 1) := by decide +kernel
theorem dX3_keyAt_31 : decode cX3_keyAt 31 = .ok (.getfield 25, 3) := by decide +kernel
theorem dX3_keyAt_34 : decode cX3_keyAt 34 = .ok (.aload_n 0, 1) := by decide +kernel
theorem dX3_keyAt_35 : decode cX3_keyAt 35 = .ok (.iload_n 1, 1) := by decide +kernel
theorem dX3_keyAt_36 : decode cX3_keyAt 36 = .ok (.invokevirtual 111, 3) := by decide +kernel
theorem dX3_keyAt_39 : decode cX3_keyAt 39 = .ok (.iaload, 1) := by decide +kernel
theorem dX3_keyAt_40 : decode cX3_keyAt 40 = .ok (.ireturn, 1) := by decide +kernel
set_option maxRecDepth 20000 in
theorem ggX3_valueAt_X3_in : GoodIn wsX3_valueAt wsX3_in := goodIn_r _ [6] (by decide +kernel) (by decide +kernel)
set_option maxRecDepth 20000 in
theorem gX3_valueAt_X3_in : GoodIn wsX3_valueAt (va_wsS RX3 73 yX3_in wsX3_in) := goodIn_app (goodIn_of _ (by decide +kernel)) ggX3_valueAt_X3_in
set_option maxRecDepth 20000 in
theorem ggX3_valueAt_X3_fails : GoodIn wsX3_valueAt wsX3_fails := goodIn_r _ [10, 11, 17, 18, 19, 20, 21, 22, 23, 24, 25, 26, 27, 28, 29, 30, 31, 32] (by decide +kernel) (by decide +kernel)
set_option maxRecDepth 20000 in
theorem gX3_valueAt_X3_fails : GoodIn wsX3_valueAt (wsV RX3 58 RX3 yX3_fails wsX3_fails) := goodIn_app (goodIn_of _ (by decide +kernel)) ggX3_valueAt_X3_fails
set_option maxRecDepth 20000 in
theorem ggX3_valueAt_X3_inPlace : GoodIn wsX3_valueAt wsX3_inPlace := goodIn_r _ [15, 1, 16, 17, 18, 19, 20, 21, 22, 23, 24, 25, 26, 27, 28, 29, 30, 31, 32] (by decide +kernel) (by decide +kernel)
set_option maxRecDepth 20000 in
theorem gX3_valueAt_X3_inPlace : GoodIn wsX3_valueAt (wsV RX3 111 RX3 yX3_inPlace wsX3_inPlace) := goodIn_app (goodIn_of _ (by decide +kernel)) ggX3_valueAt_X3_inPlace
theorem dX3_valueAt_0 : decode cX3_valueAt 0 = .ok (.aload_n 0, 1) := by decide +kernel
theorem dX3_valueAt_1 : decode cX3_valueAt 1 = .ok (.iload_n 1, 1) := by decide +kernel
theorem dX3_valueAt_2 : decode cX3_valueAt 2 = .ok (.iconst 0, 1) := by decide +kernel
theorem dX3_valueAt_3 : decode cX3_valueAt 3 = .ok (.aload_n 0, 1) := by decide +kernel
theorem dX3_valueAt_4 : decode cX3_valueAt 4 = .ok (.getfield 81, 3) := by decide +kernel
theorem dX3_valueAt_7 : decode cX3_valueAt 7 = .ok (.iconst 1, 1) := by decide +kernel
theorem dX3_valueAt_8 : decode cX3_valueAt 8 = .ok (.isub, 1) := by decide +kernel
theorem dX3_valueAt_9 : decode cX3_valueAt 9 = .ok (.invokestatic 73, 3) := by decide +kernel
theorem dX3_valueAt_12 : decode cX3_valueAt 12 = .ok (.ifCond .eq 7, 3) := by decide +kernel
theorem dX3_valueAt_15 : decode cX3_valueAt 15 = .ok (.iconst 0, 1) := by decide +kernel
theorem dX3_valueAt_16 : decode cX3_valueAt 16 = .ok (.goto 4, 3) := by decide +kernel
theorem dX3_valueAt_19 : decode cX3_valueAt 19 = .ok (.iconst 1, 1) := by decide +kernel
theorem dX3_valueAt_20 : decode cX3_valueAt 20 = .ok (.invokevirtual 58, 3) := by decide +kernel
theorem dX3_valueAt_23 : decode cX3_valueAt 23 = .ok (.ifCond .eq 7, 3) := by decide +kernel
theorem dX3_valueAt_26 : decode cX3_valueAt 26 = .ok (.iconst 0, 1) := by decide +kernel
theorem dX3_valueAt_27 : decode cX3_valueAt 27 = .ok (.goto 13, 3) := by decide +kernel
theorem dX3_valueAt_30 : decode cX3_valueAt 30 = .ok (.aload_n 0, 1) := by decide +kernel
theorem dX3_valueAt_31 : decode cX3_valueAt 31 = .ok (.getfield 28, 3) := by decide +kernel
theorem dX3_valueAt_34 : decode cX3_valueAt 34 = .ok (.aload_n 0, 1) := by decide +kernel
theorem dX3_valueAt_35 : decode cX3_valueAt 35 = .ok (.iload_n 1, 1) := by decide +kernel
theorem dX3_valueAt_36 : decode cX3_valueAt 36 = .ok (.invokevirtual 111, 3) := by decide +kernel
theorem dX3_valueAt_39 : decode cX3_valueAt 39 = .ok (.iaload, 1) := by decide +kernel
theorem dX3_valueAt_40 : decode cX3_valueAt 40 = .ok (.ireturn, 1) := by decide +kernel
set_option maxRecDepth 20000 in
theorem ggX3_usedAt_X3_shelfAt : GoodIn wsX3_usedAt wsX3_shelfAt := goodIn_r _ [7, 8, 9, 10, 11, 6, 12, 13, 14, 15, 16, 17, 18, 19, 20, 21, 22, 23, 24, 25, 26, 27, 28] (by decide +kernel) (by decide +kernel)
set_option maxRecDepth 20000 in
theorem gX3_usedAt_X3_shelfAt : GoodIn wsX3_usedAt (wsV RX3 105 RX3 yX3_shelfAt wsX3_shelfAt) := goodIn_app (goodIn_of _ (by decide +kernel)) ggX3_usedAt_X3_shelfAt
theorem dX3_usedAt_0 : decode cX3_usedAt 0 = .ok (.aload_n 0, 1) := by decide +kernel
theorem dX3_usedAt_1 : decode cX3_usedAt 1 = .ok (.iconst 0, 1) := by decide +kernel
theorem dX3_usedAt_2 : decode cX3_usedAt 2 = .ok (.putfield 38, 3) := by decide +kernel
theorem dX3_usedAt_5 : decode cX3_usedAt 5 = .ok (.aload_n 0, 1) := by decide +kernel
theorem dX3_usedAt_6 : decode cX3_usedAt 6 = .ok (.iload_n 1, 1) := by decide +kernel
theorem dX3_usedAt_7 : decode cX3_usedAt 7 = .ok (.invokevirtual 105, 3) := by decide +kernel
theorem dX3_usedAt_10 : decode cX3_usedAt 10 = .ok (.ifCond .ge 7, 3) := by decide +kernel
theorem dX3_usedAt_13 : decode cX3_usedAt 13 = .ok (.iconst 0, 1) := by decide +kernel
theorem dX3_usedAt_14 : decode cX3_usedAt 14 = .ok (.goto 13, 3) := by decide +kernel
theorem dX3_usedAt_17 : decode cX3_usedAt 17 = .ok (.aload_n 0, 1) := by decide +kernel
theorem dX3_usedAt_18 : decode cX3_usedAt 18 = .ok (.getfield 31, 3) := by decide +kernel
theorem dX3_usedAt_21 : decode cX3_usedAt 21 = .ok (.aload_n 0, 1) := by decide +kernel
theorem dX3_usedAt_22 : decode cX3_usedAt 22 = .ok (.iload_n 1, 1) := by decide +kernel
theorem dX3_usedAt_23 : decode cX3_usedAt 23 = .ok (.invokevirtual 105, 3) := by decide +kernel
theorem dX3_usedAt_26 : decode cX3_usedAt 26 = .ok (.iaload, 1) := by decide +kernel
theorem dX3_usedAt_27 : decode cX3_usedAt 27 = .ok (.ireturn, 1) := by decide +kernel
theorem dX3_length_0 : decode cX3_length 0 = .ok (.aload_n 0, 1) := by decide +kernel
theorem dX3_length_1 : decode cX3_length 1 = .ok (.iconst 0, 1) := by decide +kernel
theorem dX3_length_2 : decode cX3_length 2 = .ok (.putfield 38, 3) := by decide +kernel
theorem dX3_length_5 : decode cX3_length 5 = .ok (.aload_n 0, 1) := by decide +kernel
theorem dX3_length_6 : decode cX3_length 6 = .ok (.getfield 81, 3) := by decide +kernel
theorem dX3_length_9 : decode cX3_length 9 = .ok (.ireturn, 1) := by decide +kernel
theorem dX3_wipe_0 : decode cX3_wipe 0 = .ok (.aload_n 0, 1) := by decide +kernel
theorem dX3_wipe_1 : decode cX3_wipe 1 = .ok (.iconst 0, 1) := by decide +kernel
theorem dX3_wipe_2 : decode cX3_wipe 2 = .ok (.putfield 38, 3) := by decide +kernel
theorem dX3_wipe_5 : decode cX3_wipe 5 = .ok (.aload_n 0, 1) := by decide +kernel
theorem dX3_wipe_6 : decode cX3_wipe 6 = .ok (.getfield 81, 3) := by decide +kernel
theorem dX3_wipe_9 : decode cX3_wipe 9 = .ok (.istore_n 1, 1) := by decide +kernel
theorem dX3_wipe_10 : decode cX3_wipe 10 = .ok (.aload_n 0, 1) := by decide +kernel
theorem dX3_wipe_11 : decode cX3_wipe 11 = .ok (.iconst 0, 1) := by decide +kernel
theorem dX3_wipe_12 : decode cX3_wipe 12 = .ok (.putfield 81, 3) := by decide +kernel
theorem dX3_wipe_15 : decode cX3_wipe 15 = .ok (.iload_n 1, 1) := by decide +kernel
theorem dX3_wipe_16 : decode cX3_wipe 16 = .ok (.ireturn, 1) := by decide +kernel
theorem dX3_dropped_0 : decode cX3_dropped 0 = .ok (.aload_n 0, 1) := by decide +kernel
theorem dX3_dropped_1 : decode cX3_dropped 1 = .ok (.iconst 0, 1) := by decide +kernel
theorem dX3_dropped_2 : decode cX3_dropped 2 = .ok (.putfield 38, 3) := by decide +kernel
theorem dX3_dropped_5 : decode cX3_dropped 5 = .ok (.aload_n 0, 1) := by decide +kernel
theorem dX3_dropped_6 : decode cX3_dropped 6 = .ok (.getfield 117, 3) := by decide +kernel
theorem dX3_dropped_9 : decode cX3_dropped 9 = .ok (.ireturn, 1) := by decide +kernel
set_option maxRecDepth 20000 in
theorem ggX3_walk_X3_inPlace : GoodIn wsX3_walk wsX3_inPlace := goodIn_r _ [11, 3, 12, 13, 14, 15, 16, 17, 18, 19, 20, 21, 22, 23, 24, 25, 26, 27, 28] (by decide +kernel) (by decide +kernel)
set_option maxRecDepth 20000 in
theorem gX3_walk_X3_inPlace : GoodIn wsX3_walk (wsV RX3 111 RX3 yX3_inPlace wsX3_inPlace) := goodIn_app (goodIn_of _ (by decide +kernel)) ggX3_walk_X3_inPlace
theorem dX3_walk_0 : decode cX3_walk 0 = .ok (.aload_n 0, 1) := by decide +kernel
theorem dX3_walk_1 : decode cX3_walk 1 = .ok (.iconst 0, 1) := by decide +kernel
theorem dX3_walk_2 : decode cX3_walk 2 = .ok (.putfield 38, 3) := by decide +kernel
theorem dX3_walk_5 : decode cX3_walk 5 = .ok (.ldc2_w 86, 3) := by decide +kernel
theorem dX3_walk_8 : decode cX3_walk 8 = .ok (.lstore_n 1, 1) := by decide +kernel
theorem dX3_walk_9 : decode cX3_walk 9 = .ok (.iconst 0, 1) := by decide +kernel
theorem dX3_walk_10 : decode cX3_walk 10 = .ok (.istore_n 3, 1) := by decide +kernel
theorem dX3_walk_11 : decode cX3_walk 11 = .ok (.iload_n 3, 1) := by decide +kernel
theorem dX3_walk_12 : decode cX3_walk 12 = .ok (.aload_n 0, 1) := by decide +kernel
theorem dX3_walk_13 : decode cX3_walk 13 = .ok (.getfield 81, 3) := by decide +kernel
theorem dX3_walk_16 : decode cX3_walk 16 = .ok (.if_icmp .ge 43, 3) := by decide +kernel
theorem dX3_walk_19 : decode cX3_walk 19 = .ok (.ldc2_w 132, 3) := by decide +kernel
theorem dX3_walk_22 : decode cX3_walk 22 = .ok (.ldc2_w 132, 3) := by decide +kernel
theorem dX3_walk_25 : decode cX3_walk 25 = .ok (.lload_n 1, 1) := by decide +kernel
theorem dX3_walk_26 : decode cX3_walk 26 = .ok (.lmul, 1) := by decide +kernel
theorem dX3_walk_27 : decode cX3_walk 27 = .ok (.aload_n 0, 1) := by decide +kernel
theorem dX3_walk_28 : decode cX3_walk 28 = .ok (.getfield 25, 3) := by decide +kernel
theorem dX3_walk_31 : decode cX3_walk 31 = .ok (.aload_n 0, 1) := by decide +kernel
theorem dX3_walk_32 : decode cX3_walk 32 = .ok (.iload_n 3, 1) := by decide +kernel
theorem dX3_walk_33 : decode cX3_walk 33 = .ok (.invokevirtual 111, 3) := by decide +kernel
theorem dX3_walk_36 : decode cX3_walk 36 = .ok (.iaload, 1) := by decide +kernel
theorem dX3_walk_37 : decode cX3_walk 37 = .ok (.i2l, 1) := by decide +kernel
theorem dX3_walk_38 : decode cX3_walk 38 = .ok (.ladd, 1) := by decide +kernel
theorem dX3_walk_39 : decode cX3_walk 39 = .ok (.lmul, 1) := by decide +kernel
theorem dX3_walk_40 : decode cX3_walk 40 = .ok (.aload_n 0, 1) := by decide +kernel
theorem dX3_walk_41 : decode cX3_walk 41 = .ok (.getfield 28, 3) := by decide +kernel
theorem dX3_walk_44 : decode cX3_walk 44 = .ok (.aload_n 0, 1) := by decide +kernel
theorem dX3_walk_45 : decode cX3_walk 45 = .ok (.iload_n 3, 1) := by decide +kernel
theorem dX3_walk_46 : decode cX3_walk 46 = .ok (.invokevirtual 111, 3) := by decide +kernel
theorem dX3_walk_49 : decode cX3_walk 49 = .ok (.iaload, 1) := by decide +kernel
theorem dX3_walk_50 : decode cX3_walk 50 = .ok (.i2l, 1) := by decide +kernel
theorem dX3_walk_51 : decode cX3_walk 51 = .ok (.ladd, 1) := by decide +kernel
theorem dX3_walk_52 : decode cX3_walk 52 = .ok (.lstore_n 1, 1) := by decide +kernel
theorem dX3_walk_53 : decode cX3_walk 53 = .ok (.iinc 3 1, 3) := by decide +kernel
theorem dX3_walk_56 : decode cX3_walk 56 = .ok (.goto (-45), 3) := by decide +kernel
theorem dX3_walk_59 : decode cX3_walk 59 = .ok (.lload_n 1, 1) := by decide +kernel
theorem dX3_walk_60 : decode cX3_walk 60 = .ok (.lreturn, 1) := by decide +kernel
theorem dX3_isTrue_0 : decode cX3_isTrue 0 = .ok (.aload_n 0, 1) := by decide +kernel
theorem dX3_isTrue_1 : decode cX3_isTrue 1 = .ok (.iconst 0, 1) := by decide +kernel
theorem dX3_isTrue_2 : decode cX3_isTrue 2 = .ok (.putfield 38, 3) := by decide +kernel
theorem dX3_isTrue_5 : decode cX3_isTrue 5 = .ok (.aload_n 0, 1) := by decide +kernel
theorem dX3_isTrue_6 : decode cX3_isTrue 6 = .ok (.getfield 81, 3) := by decide +kernel
theorem dX3_isTrue_9 : decode cX3_isTrue 9 = .ok (.aload_n 0, 1) := by decide +kernel
theorem dX3_isTrue_10 : decode cX3_isTrue 10 = .ok (.getfield 34, 3) := by decide +kernel
theorem dX3_isTrue_13 : decode cX3_isTrue 13 = .ok (.if_icmp .gt 7, 3) := by decide +kernel
theorem dX3_isTrue_16 : decode cX3_isTrue 16 = .ok (.iconst 1, 1) := by decide +kernel
theorem dX3_isTrue_17 : decode cX3_isTrue 17 = .ok (.goto 4, 3) := by decide +kernel
theorem dX3_isTrue_20 : decode cX3_isTrue 20 = .ok (.iconst 0, 1) := by decide +kernel
theorem dX3_isTrue_21 : decode cX3_isTrue 21 = .ok (.ireturn, 1) := by decide +kernel
