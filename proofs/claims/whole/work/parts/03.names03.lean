def wsL_stop_r2 : List Cond := [Cond.selects RX2 yX2_push yX2_push, Cond.initialized RX2, Cond.code yX2_push cX2_push 2 none, Cond.fieldLink RX2 11 "RecipeScheduler$History" "states" "[LRecipeScheduler$State;", Cond.fieldLink RX2 18 "RecipeScheduler$History" "next" "I", Cond.fieldLink RX2 26 "RecipeScheduler$History" "count" "I", Cond.methodLink RX2 29 Lib.Math.min.name, Cond.static Lib.Math.min.name, Cond.initialized "java/lang/Math", Cond.code Lib.Math.min.name Lib.Math.min.code 2 (some .int), Cond.methodLink RX2 22 yX8_copyFrom, Cond.instanceMethod yX8_copyFrom, Cond.selects RX8 yX8_copyFrom yX8_copyFrom, Cond.initialized RX8, Cond.code yX8_copyFrom cX8_copyFrom 2 none, Cond.fieldLink RX8 36 "RecipeScheduler$State" "cooks" "I", Cond.fieldLink RX8 37 "RecipeScheduler$State" "minute" "I", Cond.fieldLink RX8 40 "RecipeScheduler$State" "salt" "I", Cond.fieldLink RX8 43 "RecipeScheduler$State" "cookMinutes" "I", Cond.fieldLink RX8 46 "RecipeScheduler$State" "stops" "I", Cond.fieldLink RX8 49 "RecipeScheduler$State" "served" "Z", Cond.fieldLink RX8 53 "RecipeScheduler$State" "running" "I", Cond.fieldLink RX8 56 "RecipeScheduler$State" "done" "I", Cond.fieldLink RX8 59 "RecipeScheduler$State" "burnt" "I"]
def wsL_stop_r3 : List Cond := [Cond.fieldLink RX8 9 "RecipeScheduler$State" "duration" "[I", Cond.methodLink RX8 63 arraycopyName, Cond.native arraycopyName, Cond.static arraycopyName, Cond.initialized "java/lang/System", Cond.fieldLink RX8 15 "RecipeScheduler$State" "remaining" "[I", Cond.fieldLink RX8 18 "RecipeScheduler$State" "age" "[I", Cond.fieldLink RX8 21 "RecipeScheduler$State" "starts" "[I", Cond.fieldLink RX8 24 "RecipeScheduler$State" "completions" "[I", Cond.fieldLink RX8 27 "RecipeScheduler$State" "burns" "[I", Cond.methodLink RX11 355 yX8_halt, Cond.instanceMethod yX8_halt, Cond.selects RX8 yX8_halt yX8_halt, Cond.code yX8_halt cX8_halt 3 (some .int)]
def wsL_stop : List Cond := .codeWith yL_stop cL_stop 4 (some .int) [(0, 9, 12, 31), (0, 9, 15, 13)] :: ((wsL_stop_r1 ++ (wsL_stop_r2 ++ wsL_stop_r3)) ++ wsX110 ++ wsX30 ++ wsX80 ++ wsX50 ++ wsX40 ++ wsX20 ++ (vx_atS RX11 100 "java/lang/IllegalStateException" ["java/lang/RuntimeException", "java/lang/Exception"]).filter goodWord ++ (vx_atS RX11 241 "java/lang/IndexOutOfBoundsException" ["java/lang/RuntimeException", "java/lang/Exception"]).filter goodWord)
def wsL_redo_r1 : List Cond := [Cond.classLink RL 31 "java/lang/IndexOutOfBoundsException", Cond.methodLink RL 122 yX11_redo, Cond.instanceMethod yX11_redo, Cond.selects RX11 yX11_redo yX11_redo, Cond.initialized RX11, Cond.code yX11_redo cX11_redo 2 (some .int), Cond.classLink RX11 96 "java/lang/IllegalStateException", Cond.initialized "java/lang/IllegalStateException", Cond.fieldLink RX11 67 "RecipeScheduler" "now" "LRecipeScheduler$Kitchen;", Cond.fieldLink RX11 77 "RecipeScheduler" "history" "LRecipeScheduler$History;", Cond.methodLink RX11 193 yX11_requireStep, Cond.instanceMethod yX11_requireStep, Cond.selects RX11 yX11_requireStep yX11_requireStep, Cond.code yX11_requireStep cX11_requireStep 2 none, Cond.classLink RX11 237 "java/lang/IndexOutOfBoundsException", Cond.initialized "java/lang/IndexOutOfBoundsException", Cond.methodLink RX11 105 yX11_isWithin, Cond.static yX11_isWithin, Cond.code yX11_isWithin cX11_isWithin 3 (some .boolean), Cond.methodLink RX11 358 yX3_isRedoable, Cond.instanceMethod yX3_isRedoable, Cond.selects RX3 yX3_isRedoable yX3_isRedoable, Cond.initialized RX3, Cond.code yX3_isRedoable cX3_isRedoable 2 (some .boolean)]
def wsL_redo_r2 : List Cond := [Cond.fieldLink RX3 12 "RecipeScheduler$Kitchen" "state" "LRecipeScheduler$State;", Cond.static yX11_contains, Cond.code yX11_contains cX11_contains 2 (some .boolean), Cond.methodLink RX3 113 yX3_isContinued, Cond.instanceMethod yX3_isContinued, Cond.selects RX3 yX3_isContinued yX3_isContinued, Cond.code yX3_isContinued cX3_isContinued 2 (some .boolean), Cond.fieldLink RX3 28 "RecipeScheduler$Kitchen" "recipe" "LRecipeScheduler$Recipe;", Cond.methodLink RX11 338 yX2_push, Cond.instanceMethod yX2_push, Cond.selects RX2 yX2_push yX2_push, Cond.initialized RX2, Cond.code yX2_push cX2_push 2 none, Cond.fieldLink RX2 11 "RecipeScheduler$History" "states" "[LRecipeScheduler$State;", Cond.fieldLink RX2 18 "RecipeScheduler$History" "next" "I", Cond.fieldLink RX2 26 "RecipeScheduler$History" "count" "I", Cond.methodLink RX2 29 Lib.Math.min.name, Cond.static Lib.Math.min.name, Cond.initialized "java/lang/Math", Cond.code Lib.Math.min.name Lib.Math.min.code 2 (some .int), Cond.methodLink RX2 22 yX8_copyFrom, Cond.instanceMethod yX8_copyFrom, Cond.selects RX8 yX8_copyFrom yX8_copyFrom, Cond.initialized RX8]
def wsL_redo_r3 : List Cond := [Cond.code yX8_copyFrom cX8_copyFrom 2 none, Cond.fieldLink RX8 36 "RecipeScheduler$State" "cooks" "I", Cond.fieldLink RX8 37 "RecipeScheduler$State" "minute" "I", Cond.fieldLink RX8 40 "RecipeScheduler$State" "salt" "I", Cond.fieldLink RX8 43 "RecipeScheduler$State" "cookMinutes" "I", Cond.fieldLink RX8 46 "RecipeScheduler$State" "stops" "I", Cond.fieldLink RX8 49 "RecipeScheduler$State" "served" "Z", Cond.fieldLink RX8 53 "RecipeScheduler$State" "running" "I", Cond.fieldLink RX8 56 "RecipeScheduler$State" "done" "I", Cond.fieldLink RX8 59 "RecipeScheduler$State" "burnt" "I", Cond.fieldLink RX8 9 "RecipeScheduler$State" "duration" "[I", Cond.methodLink RX8 63 arraycopyName, Cond.native arraycopyName, Cond.static arraycopyName, Cond.initialized "java/lang/System", Cond.fieldLink RX8 15 "RecipeScheduler$State" "remaining" "[I", Cond.fieldLink RX8 18 "RecipeScheduler$State" "age" "[I", Cond.fieldLink RX8 21 "RecipeScheduler$State" "starts" "[I", Cond.fieldLink RX8 24 "RecipeScheduler$State" "completions" "[I", Cond.fieldLink RX8 27 "RecipeScheduler$State" "burns" "[I", Cond.methodLink RX11 363 yX8_discard, Cond.instanceMethod yX8_discard, Cond.selects RX8 yX8_discard yX8_discard, Cond.code yX8_discard cX8_discard 3 (some .int)]
def wsL_redo : List Cond := .codeWith yL_redo cL_redo 4 (some .int) [(0, 9, 12, 31), (0, 9, 15, 13)] :: ((wsL_redo_r1 ++ (wsL_redo_r2 ++ wsL_redo_r3)) ++ wsX110 ++ wsX30 ++ wsX50 ++ wsX40 ++ wsX80 ++ wsX20 ++ (vx_atS RX11 100 "java/lang/IllegalStateException" ["java/lang/RuntimeException", "java/lang/Exception"]).filter goodWord ++ (vx_atS RX11 241 "java/lang/IndexOutOfBoundsException" ["java/lang/RuntimeException", "java/lang/Exception"]).filter goodWord)
def wsL_setCooks_r1 : List Cond := [Cond.classLink RL 19 "java/lang/IllegalArgumentException", Cond.methodLink RL 125 yX11_setCooks, Cond.instanceMethod yX11_setCooks, Cond.selects RX11 yX11_setCooks yX11_setCooks, Cond.initialized RX11, Cond.code yX11_setCooks cX11_setCooks 3 (some .int), Cond.fieldLink RX11 77 "RecipeScheduler" "history" "LRecipeScheduler$History;", Cond.fieldLink RX11 67 "RecipeScheduler" "now" "LRecipeScheduler$Kitchen;", Cond.methodLink RX11 304 yX11_requireCooks, Cond.instanceMethod yX11_requireCooks, Cond.selects RX11 yX11_requireCooks yX11_requireCooks, Cond.code yX11_requireCooks cX11_requireCooks 2 none, Cond.classLink RX11 109 "java/lang/IllegalArgumentException", Cond.initialized "java/lang/IllegalArgumentException", Cond.methodLink RX11 432 yX11_isCookCount, Cond.instanceMethod yX11_isCookCount, Cond.selects RX11 yX11_isCookCount yX11_isCookCount, Cond.code yX11_isCookCount cX11_isCookCount 2 (some .boolean), Cond.methodLink RX11 105 yX11_isWithin, Cond.static yX11_isWithin, Cond.code yX11_isWithin cX11_isWithin 3 (some .boolean), Cond.methodLink RX11 338 yX2_push, Cond.instanceMethod yX2_push, Cond.selects RX2 yX2_push yX2_push]
def wsL_setCooks_r2 : List Cond := [Cond.initialized RX2, Cond.code yX2_push cX2_push 2 none, Cond.fieldLink RX2 11 "RecipeScheduler$History" "states" "[LRecipeScheduler$State;", Cond.fieldLink RX2 18 "RecipeScheduler$History" "next" "I", Cond.fieldLink RX2 26 "RecipeScheduler$History" "count" "I", Cond.methodLink RX2 29 Lib.Math.min.name, Cond.static Lib.Math.min.name, Cond.initialized "java/lang/Math", Cond.code Lib.Math.min.name Lib.Math.min.code 2 (some .int), Cond.methodLink RX2 22 yX8_copyFrom, Cond.instanceMethod yX8_copyFrom, Cond.selects RX8 yX8_copyFrom yX8_copyFrom, Cond.initialized RX8, Cond.code yX8_copyFrom cX8_copyFrom 2 none, Cond.fieldLink RX8 36 "RecipeScheduler$State" "cooks" "I", Cond.fieldLink RX8 37 "RecipeScheduler$State" "minute" "I", Cond.fieldLink RX8 40 "RecipeScheduler$State" "salt" "I", Cond.fieldLink RX8 43 "RecipeScheduler$State" "cookMinutes" "I", Cond.fieldLink RX8 46 "RecipeScheduler$State" "stops" "I", Cond.fieldLink RX8 49 "RecipeScheduler$State" "served" "Z", Cond.fieldLink RX8 53 "RecipeScheduler$State" "running" "I", Cond.fieldLink RX8 56 "RecipeScheduler$State" "done" "I", Cond.fieldLink RX8 59 "RecipeScheduler$State" "burnt" "I", Cond.fieldLink RX8 9 "RecipeScheduler$State" "duration" "[I"]
def wsL_setCooks_r3 : List Cond := [Cond.methodLink RX8 63 arraycopyName, Cond.native arraycopyName, Cond.static arraycopyName, Cond.initialized "java/lang/System", Cond.fieldLink RX8 15 "RecipeScheduler$State" "remaining" "[I", Cond.fieldLink RX8 18 "RecipeScheduler$State" "age" "[I", Cond.fieldLink RX8 21 "RecipeScheduler$State" "starts" "[I", Cond.fieldLink RX8 24 "RecipeScheduler$State" "completions" "[I", Cond.fieldLink RX8 27 "RecipeScheduler$State" "burns" "[I"]
def wsL_setCooks : List Cond := .codeWith yL_setCooks cL_setCooks 4 (some .int) [(0, 9, 12, 19)] :: ((wsL_setCooks_r1 ++ (wsL_setCooks_r2 ++ wsL_setCooks_r3)) ++ wsX110 ++ wsX30 ++ wsX80 ++ wsX20 ++ (vx_atS RX11 113 "java/lang/IllegalArgumentException" ["java/lang/RuntimeException", "java/lang/Exception"]).filter goodWord)
def wsL_setDuration_r1 : List Cond := [Cond.classLink RL 31 "java/lang/IndexOutOfBoundsException", Cond.methodLink RL 128 yX11_setDuration, Cond.instanceMethod yX11_setDuration, Cond.selects RX11 yX11_setDuration yX11_setDuration, Cond.initialized RX11, Cond.code yX11_setDuration cX11_setDuration 4 (some .int), Cond.classLink RX11 109 "java/lang/IllegalArgumentException", Cond.initialized "java/lang/IllegalArgumentException", Cond.fieldLink RX11 77 "RecipeScheduler" "history" "LRecipeScheduler$History;", Cond.fieldLink RX11 67 "RecipeScheduler" "now" "LRecipeScheduler$Kitchen;", Cond.methodLink RX11 193 yX11_requireStep, Cond.instanceMethod yX11_requireStep, Cond.selects RX11 yX11_requireStep yX11_requireStep, Cond.code yX11_requireStep cX11_requireStep 2 none, Cond.classLink RX11 237 "java/lang/IndexOutOfBoundsException", Cond.initialized "java/lang/IndexOutOfBoundsException", Cond.methodLink RX11 105 yX11_isWithin, Cond.static yX11_isWithin, Cond.code yX11_isWithin cX11_isWithin 3 (some .boolean), Cond.methodLink RX11 366 yX11_isDuration, Cond.instanceMethod yX11_isDuration, Cond.selects RX11 yX11_isDuration yX11_isDuration, Cond.code yX11_isDuration cX11_isDuration 2 (some .boolean), Cond.methodLink RX11 338 yX2_push]
def wsL_setDuration_r2 : List Cond := [Cond.instanceMethod yX2_push, Cond.selects RX2 yX2_push yX2_push, Cond.initialized RX2, Cond.code yX2_push cX2_push 2 none, Cond.fieldLink RX2 11 "RecipeScheduler$History" "states" "[LRecipeScheduler$State;", Cond.fieldLink RX2 18 "RecipeScheduler$History" "next" "I", Cond.fieldLink RX2 26 "RecipeScheduler$History" "count" "I", Cond.methodLink RX2 29 Lib.Math.min.name, Cond.static Lib.Math.min.name, Cond.initialized "java/lang/Math", Cond.code Lib.Math.min.name Lib.Math.min.code 2 (some .int), Cond.methodLink RX2 22 yX8_copyFrom, Cond.instanceMethod yX8_copyFrom, Cond.selects RX8 yX8_copyFrom yX8_copyFrom, Cond.initialized RX8, Cond.code yX8_copyFrom cX8_copyFrom 2 none, Cond.fieldLink RX8 36 "RecipeScheduler$State" "cooks" "I", Cond.fieldLink RX8 37 "RecipeScheduler$State" "minute" "I", Cond.fieldLink RX8 40 "RecipeScheduler$State" "salt" "I", Cond.fieldLink RX8 43 "RecipeScheduler$State" "cookMinutes" "I", Cond.fieldLink RX8 46 "RecipeScheduler$State" "stops" "I", Cond.fieldLink RX8 49 "RecipeScheduler$State" "served" "Z", Cond.fieldLink RX8 53 "RecipeScheduler$State" "running" "I", Cond.fieldLink RX8 56 "RecipeScheduler$State" "done" "I"]
def wsL_setDuration_r3 : List Cond := [Cond.fieldLink RX8 59 "RecipeScheduler$State" "burnt" "I", Cond.fieldLink RX8 9 "RecipeScheduler$State" "duration" "[I", Cond.methodLink RX8 63 arraycopyName, Cond.native arraycopyName, Cond.static arraycopyName, Cond.initialized "java/lang/System", Cond.fieldLink RX8 15 "RecipeScheduler$State" "remaining" "[I", Cond.fieldLink RX8 18 "RecipeScheduler$State" "age" "[I", Cond.fieldLink RX8 21 "RecipeScheduler$State" "starts" "[I", Cond.fieldLink RX8 24 "RecipeScheduler$State" "completions" "[I", Cond.fieldLink RX8 27 "RecipeScheduler$State" "burns" "[I"]
def wsL_setDuration : List Cond := .codeWith yL_setDuration cL_setDuration 5 (some .int) [(0, 10, 13, 31), (0, 10, 17, 19)] :: ((wsL_setDuration_r1 ++ (wsL_setDuration_r2 ++ wsL_setDuration_r3)) ++ wsX110 ++ wsX30 ++ wsX80 ++ wsX50 ++ wsX40 ++ wsX20 ++ (vx_atS RX11 113 "java/lang/IllegalArgumentException" ["java/lang/RuntimeException", "java/lang/Exception"]).filter goodWord ++ (vx_atS RX11 241 "java/lang/IndexOutOfBoundsException" ["java/lang/RuntimeException", "java/lang/Exception"]).filter goodWord)
def wsL_serve_r1 : List Cond := [Cond.classLink RL 13 "java/lang/IllegalStateException", Cond.methodLink RL 131 yX11_serve, Cond.instanceMethod yX11_serve, Cond.selects RX11 yX11_serve yX11_serve, Cond.initialized RX11, Cond.code yX11_serve cX11_serve 1 (some .int), Cond.classLink RX11 96 "java/lang/IllegalStateException", Cond.initialized "java/lang/IllegalStateException", Cond.fieldLink RX11 67 "RecipeScheduler" "now" "LRecipeScheduler$Kitchen;", Cond.fieldLink RX11 77 "RecipeScheduler" "history" "LRecipeScheduler$History;", Cond.methodLink RX11 280 yX3_servingObstacle, Cond.instanceMethod yX3_servingObstacle, Cond.selects RX3 yX3_servingObstacle yX3_servingObstacle, Cond.initialized RX3, Cond.code yX3_servingObstacle cX3_servingObstacle 1 (some .int), Cond.fieldLink RX3 12 "RecipeScheduler$Kitchen" "state" "LRecipeScheduler$State;", Cond.fieldLink RX3 28 "RecipeScheduler$Kitchen" "recipe" "LRecipeScheduler$Recipe;", Cond.methodLink RX3 51 yX5_allSteps, Cond.instanceMethod yX5_allSteps, Cond.selects RX5 yX5_allSteps yX5_allSteps, Cond.initialized RX5, Cond.code yX5_allSteps cX5_allSteps 1 (some .int), Cond.fieldLink RX5 27 "RecipeScheduler$Recipe" "steps" "LRecipeScheduler$Names;", Cond.methodLink RX3 200 yX3_dishTaste]
def wsL_serve_r2 : List Cond := [Cond.instanceMethod yX3_dishTaste, Cond.selects RX3 yX3_dishTaste yX3_dishTaste, Cond.code yX3_dishTaste cX3_dishTaste 3 (some .int), Cond.static yX11_contains, Cond.code yX11_contains cX11_contains 2 (some .boolean), Cond.methodLink RX11 338 yX2_push, Cond.instanceMethod yX2_push, Cond.selects RX2 yX2_push yX2_push, Cond.initialized RX2, Cond.code yX2_push cX2_push 2 none, Cond.fieldLink RX2 11 "RecipeScheduler$History" "states" "[LRecipeScheduler$State;", Cond.fieldLink RX2 18 "RecipeScheduler$History" "next" "I", Cond.fieldLink RX2 26 "RecipeScheduler$History" "count" "I", Cond.methodLink RX2 29 Lib.Math.min.name, Cond.static Lib.Math.min.name, Cond.initialized "java/lang/Math", Cond.code Lib.Math.min.name Lib.Math.min.code 2 (some .int), Cond.methodLink RX2 22 yX8_copyFrom, Cond.instanceMethod yX8_copyFrom, Cond.selects RX8 yX8_copyFrom yX8_copyFrom, Cond.initialized RX8, Cond.code yX8_copyFrom cX8_copyFrom 2 none, Cond.fieldLink RX8 36 "RecipeScheduler$State" "cooks" "I", Cond.fieldLink RX8 37 "RecipeScheduler$State" "minute" "I"]
def wsL_serve_r3 : List Cond := [Cond.fieldLink RX8 40 "RecipeScheduler$State" "salt" "I", Cond.fieldLink RX8 43 "RecipeScheduler$State" "cookMinutes" "I", Cond.fieldLink RX8 46 "RecipeScheduler$State" "stops" "I", Cond.fieldLink RX8 49 "RecipeScheduler$State" "served" "Z", Cond.fieldLink RX8 53 "RecipeScheduler$State" "running" "I", Cond.fieldLink RX8 56 "RecipeScheduler$State" "done" "I", Cond.fieldLink RX8 59 "RecipeScheduler$State" "burnt" "I", Cond.fieldLink RX8 9 "RecipeScheduler$State" "duration" "[I", Cond.methodLink RX8 63 arraycopyName, Cond.native arraycopyName, Cond.static arraycopyName, Cond.initialized "java/lang/System", Cond.fieldLink RX8 15 "RecipeScheduler$State" "remaining" "[I", Cond.fieldLink RX8 18 "RecipeScheduler$State" "age" "[I", Cond.fieldLink RX8 21 "RecipeScheduler$State" "starts" "[I", Cond.fieldLink RX8 24 "RecipeScheduler$State" "completions" "[I", Cond.fieldLink RX8 27 "RecipeScheduler$State" "burns" "[I", Cond.methodLink RX11 152 yX3_dishTaste]
def wsL_serve : List Cond := .codeWith yL_serve cL_serve 3 (some .int) [(0, 8, 11, 13)] :: ((wsL_serve_r1 ++ (wsL_serve_r2 ++ wsL_serve_r3)) ++ wsX110 ++ wsX30 ++ wsX80 ++ wsX50 ++ wsX40 ++ wsX20 ++ (vx_atS RX11 100 "java/lang/IllegalStateException" ["java/lang/RuntimeException", "java/lang/Exception"]).filter goodWord)
def wsL_runScript_r1 : List Cond := [Cond.classLink RL 19 "java/lang/IllegalArgumentException", Cond.methodLink RL 134 yX11_runScript, Cond.instanceMethod yX11_runScript, Cond.selects RX11 yX11_runScript yX11_runScript, Cond.initialized RX11, Cond.code yX11_runScript cX11_runScript 5 (some .int), Cond.fieldLink RX11 59 "RecipeScheduler" "scriptReader" "LRecipeScheduler$ScriptReader;", Cond.fieldLink RX11 67 "RecipeScheduler" "now" "LRecipeScheduler$Kitchen;", Cond.fieldLink RX11 41 "RecipeScheduler" "input" "LRecipeScheduler$Text;", Cond.fieldLink RX11 77 "RecipeScheduler" "history" "LRecipeScheduler$History;", Cond.methodLink RX11 373 yX6_read, Cond.instanceMethod yX6_read, Cond.selects RX6 yX6_read yX6_read, Cond.initialized RX6, Cond.code yX6_read cX6_read 3 none, Cond.fieldLink RX6 28 "RecipeScheduler$ScriptReader" "count" "I", Cond.fieldLink RX6 24 "RecipeScheduler$ScriptReader" "tokens" "LRecipeScheduler$Tokens;", Cond.methodLink RX6 32 yX10_begin, Cond.instanceMethod yX10_begin, Cond.selects RX10 yX10_begin yX10_begin, Cond.initialized RX10, Cond.code yX10_begin cX10_begin 1 none, Cond.fieldLink RX10 19 "RecipeScheduler$Tokens" "errorCode" "I", Cond.fieldLink RX10 15 "RecipeScheduler$Tokens" "errorPosition" "I"]
def wsL_runScript_r2 : List Cond := [Cond.fieldLink RX10 22 "RecipeScheduler$Tokens" "end" "I", Cond.methodLink RX10 25 yX10_advance, Cond.instanceMethod yX10_advance, Cond.selects RX10 yX10_advance yX10_advance, Cond.code yX10_advance cX10_advance 1 none, Cond.fieldLink RX10 28 "RecipeScheduler$Tokens" "start" "I", Cond.fieldLink RX10 9 "RecipeScheduler$Tokens" "text" "LRecipeScheduler$Text;", Cond.fieldLink RX10 44 "RecipeScheduler$Tokens" "kind" "I", Cond.methodLink RX10 40 yX10_isGap, Cond.static yX10_isGap, Cond.code yX10_isGap cX10_isGap 1 (some .boolean), Cond.static yX11_isWithin, Cond.code yX11_isWithin cX11_isWithin 3 (some .boolean), Cond.methodLink RX10 51 yX10_passRun, Cond.instanceMethod yX10_passRun, Cond.selects RX10 yX10_passRun yX10_passRun, Cond.code yX10_passRun cX10_passRun 3 none, Cond.methodLink RX6 37 yX10_mayGoOn, Cond.instanceMethod yX10_mayGoOn, Cond.selects RX10 yX10_mayGoOn yX10_mayGoOn, Cond.code yX10_mayGoOn cX10_mayGoOn 1 (some .boolean), Cond.methodLink RX6 41 yX6_readCommand, Cond.instanceMethod yX6_readCommand, Cond.selects RX6 yX6_readCommand yX6_readCommand]
def wsL_runScript_r3 : List Cond := [Cond.code yX6_readCommand cX6_readCommand 3 none, Cond.fieldLink RX6 11 "RecipeScheduler$ScriptReader" "commands" "[LRecipeScheduler$Command;", Cond.fieldLink RX6 17 "RecipeScheduler$ScriptReader" "steps" "[I", Cond.fieldLink RX6 21 "RecipeScheduler$ScriptReader" "numbers" "[I", Cond.methodLink RX6 45 yX6_findCommand, Cond.instanceMethod yX6_findCommand, Cond.selects RX6 yX6_findCommand yX6_findCommand, Cond.code yX6_findCommand cX6_findCommand 5 (some (.object "RecipeScheduler$Command")), Cond.methodLink RX6 81 yX10_isWord, Cond.instanceMethod yX10_isWord, Cond.selects RX10 yX10_isWord yX10_isWord, Cond.code yX10_isWord cX10_isWord 3 (some .boolean), Cond.methodLink RX10 55 yJ0_length_8abf5, Cond.instanceMethod yJ0_length_8abf5, Cond.selects RJ0 yJ0_length_8abf5 yJ0_length_8abf5, Cond.initialized RJ0, Cond.code yJ0_length_8abf5 cJ0_length_8abf5 1 (some .int), Cond.fieldLink RJ0 9 "java/lang/String" "value" "[B", Cond.methodLink RJ0 335 yJ0_coder_7d493, Cond.instanceMethod yJ0_coder_7d493, Cond.selects RJ0 yJ0_coder_7d493 yJ0_coder_7d493, Cond.code yJ0_coder_7d493 cJ0_coder_7d493 1 (some .byte), Cond.fieldLink RJ0 38 "java/lang/String" "COMPACT_STRINGS" "Z", Cond.fieldLink RJ0 15 "java/lang/String" "coder" "B"]
def wsL_runScript_r4 : List Cond := [Cond.methodLink RX10 60 yJ0_charAt_5068e, Cond.instanceMethod yJ0_charAt_5068e, Cond.selects RJ0 yJ0_charAt_5068e yJ0_charAt_5068e, Cond.code yJ0_charAt_5068e cJ0_charAt_5068e 2 (some .char), Cond.methodLink RJ0 492 yJ0_isLatin1_aae02, Cond.instanceMethod yJ0_isLatin1_aae02, Cond.selects RJ0 yJ0_isLatin1_aae02 yJ0_isLatin1_aae02, Cond.code yJ0_isLatin1_aae02 cJ0_isLatin1_aae02 1 (some .boolean), Cond.methodLink RJ0 495 yJ1_charAt_3b067, Cond.static yJ1_charAt_3b067, Cond.initialized RJ1, Cond.code yJ1_charAt_3b067 cJ1_charAt_3b067 2 (some .char), Cond.methodLink RJ1 9 yJ0_checkIndex_df160, Cond.static yJ0_checkIndex_df160, Cond.code yJ0_checkIndex_df160 cJ0_checkIndex_df160 2 none, Cond.fieldLink RJ0 1053 "jdk/internal/util/Preconditions" "SIOOBE_FORMATTER" "Ljava/util/function/BiFunction;", Cond.methodLink RJ0 1059 yJ3_checkIndex_8e157, Cond.static yJ3_checkIndex_8e157, Cond.initialized RJ3, Cond.code yJ3_checkIndex_8e157 cJ3_checkIndex_8e157 3 (some .int), Cond.methodLink RJ0 498 yJ2_charAt_3b067, Cond.static yJ2_charAt_3b067, Cond.initialized RJ2, Cond.code yJ2_charAt_3b067 cJ2_charAt_3b067 2 (some .char)]
def wsL_runScript_r5 : List Cond := [Cond.methodLink RJ2 67 yJ2_checkIndex_2214a, Cond.static yJ2_checkIndex_2214a, Cond.code yJ2_checkIndex_2214a cJ2_checkIndex_2214a 2 none, Cond.methodLink RJ2 48 yJ2_length_9d52b, Cond.static yJ2_length_9d52b, Cond.code yJ2_length_9d52b cJ2_length_9d52b 1 (some .int), Cond.methodLink RJ2 414 yJ0_checkIndex_df160, Cond.methodLink RJ2 71 yJ2_getChar_3b067, Cond.static yJ2_getChar_3b067, Cond.code yJ2_getChar_3b067 cJ2_getChar_3b067 2 (some .char), Cond.fieldLink RJ2 44 "java/lang/StringUTF16" "$assertionsDisabled" "Z", Cond.fieldLink RJ2 59 "java/lang/StringUTF16" "HI_BYTE_SHIFT" "I", Cond.fieldLink RJ2 63 "java/lang/StringUTF16" "LO_BYTE_SHIFT" "I", Cond.methodLink RX6 49 yX10_fail, Cond.instanceMethod yX10_fail, Cond.selects RX10 yX10_fail yX10_fail, Cond.code yX10_fail cX10_fail 2 none, Cond.methodLink RX6 53 yX10_advance, Cond.methodLink RX6 60 yX6_readStepName, Cond.instanceMethod yX6_readStepName, Cond.selects RX6 yX6_readStepName yX6_readStepName, Cond.code yX6_readStepName cX6_readStepName 3 (some .int), Cond.methodLink RX6 85 yX10_findName, Cond.instanceMethod yX10_findName]
def wsL_runScript_r6 : List Cond := [Cond.selects RX10 yX10_findName yX10_findName, Cond.code yX10_findName cX10_findName 3 (some .int), Cond.methodLink RX10 68 yX10_fail, Cond.methodLink RX10 72 yX4_indexOf, Cond.instanceMethod yX4_indexOf, Cond.selects RX4 yX4_indexOf yX4_indexOf, Cond.initialized RX4, Cond.code yX4_indexOf cX4_indexOf 5 (some .int), Cond.fieldLink RX4 20 "RecipeScheduler$Names" "count" "I", Cond.fieldLink RX4 16 "RecipeScheduler$Names" "lengths" "[I", Cond.methodLink RX4 24 yX4_matches, Cond.instanceMethod yX4_matches, Cond.selects RX4 yX4_matches yX4_matches, Cond.code yX4_matches cX4_matches 5 (some .boolean), Cond.fieldLink RX4 11 "RecipeScheduler$Names" "letters" "[[B", Cond.methodLink RX6 67 yX10_expectNumber, Cond.instanceMethod yX10_expectNumber, Cond.selects RX10 yX10_expectNumber yX10_expectNumber, Cond.code yX10_expectNumber cX10_expectNumber 5 (some .int), Cond.methodLink RX6 71 yX10_expectSemicolon, Cond.instanceMethod yX10_expectSemicolon, Cond.selects RX10 yX10_expectSemicolon yX10_expectSemicolon, Cond.code yX10_expectSemicolon cX10_expectSemicolon 1 none, Cond.methodLink RX11 114 yX11_requireNoError]
def wsL_runScript_r7 : List Cond := [Cond.instanceMethod yX11_requireNoError, Cond.selects RX11 yX11_requireNoError yX11_requireNoError, Cond.code yX11_requireNoError cX11_requireNoError 1 none, Cond.classLink RX11 109 "java/lang/IllegalArgumentException", Cond.initialized "java/lang/IllegalArgumentException", Cond.fieldLink RX11 48 "RecipeScheduler" "tokens" "LRecipeScheduler$Tokens;", Cond.methodLink RX11 338 yX2_push, Cond.instanceMethod yX2_push, Cond.selects RX2 yX2_push yX2_push, Cond.initialized RX2, Cond.code yX2_push cX2_push 2 none, Cond.fieldLink RX2 11 "RecipeScheduler$History" "states" "[LRecipeScheduler$State;", Cond.fieldLink RX2 18 "RecipeScheduler$History" "next" "I", Cond.fieldLink RX2 26 "RecipeScheduler$History" "count" "I", Cond.methodLink RX2 29 Lib.Math.min.name, Cond.static Lib.Math.min.name, Cond.initialized "java/lang/Math", Cond.code Lib.Math.min.name Lib.Math.min.code 2 (some .int), Cond.methodLink RX2 22 yX8_copyFrom, Cond.instanceMethod yX8_copyFrom, Cond.selects RX8 yX8_copyFrom yX8_copyFrom, Cond.initialized RX8, Cond.code yX8_copyFrom cX8_copyFrom 2 none, Cond.fieldLink RX8 36 "RecipeScheduler$State" "cooks" "I"]
def wsL_runScript_r8 : List Cond := [Cond.fieldLink RX8 37 "RecipeScheduler$State" "minute" "I", Cond.fieldLink RX8 40 "RecipeScheduler$State" "salt" "I", Cond.fieldLink RX8 43 "RecipeScheduler$State" "cookMinutes" "I", Cond.fieldLink RX8 46 "RecipeScheduler$State" "stops" "I", Cond.fieldLink RX8 49 "RecipeScheduler$State" "served" "Z", Cond.fieldLink RX8 53 "RecipeScheduler$State" "running" "I", Cond.fieldLink RX8 56 "RecipeScheduler$State" "done" "I", Cond.fieldLink RX8 59 "RecipeScheduler$State" "burnt" "I", Cond.fieldLink RX8 9 "RecipeScheduler$State" "duration" "[I", Cond.methodLink RX8 63 arraycopyName, Cond.native arraycopyName, Cond.static arraycopyName, Cond.initialized "java/lang/System", Cond.fieldLink RX8 15 "RecipeScheduler$State" "remaining" "[I", Cond.fieldLink RX8 18 "RecipeScheduler$State" "age" "[I", Cond.fieldLink RX8 21 "RecipeScheduler$State" "starts" "[I", Cond.fieldLink RX8 24 "RecipeScheduler$State" "completions" "[I", Cond.fieldLink RX8 27 "RecipeScheduler$State" "burns" "[I", Cond.methodLink RX11 387 yX11_isAllowed, Cond.instanceMethod yX11_isAllowed, Cond.selects RX11 yX11_isAllowed yX11_isAllowed, Cond.code yX11_isAllowed cX11_isAllowed 4 (some .boolean), Cond.fieldLink RX11 439 "RecipeScheduler$1" "$SwitchMap$RecipeScheduler$Command" "[I", Cond.methodLink RX11 444 ⟨"RecipeScheduler$Command", "ordinal", "()I"⟩]
def wsL_runScript_r9 : List Cond := [Cond.sameMethod "RecipeScheduler$Command" "java/lang/Enum" "ordinal" "()I", Cond.selects RX1 ⟨"RecipeScheduler$Command", "ordinal", "()I"⟩ yJx29ce0_ordinal_8abf5, Cond.instanceMethod yJx29ce0_ordinal_8abf5, Cond.initialized RJx29ce0, Cond.code yJx29ce0_ordinal_8abf5 cJx29ce0_ordinal_8abf5 1 (some .int), Cond.fieldLink RJx29ce0 7 "java/lang/Enum" "ordinal" "I", Cond.methodLink RX11 330 yX11_isPassLength, Cond.instanceMethod yX11_isPassLength, Cond.selects RX11 yX11_isPassLength yX11_isPassLength, Cond.code yX11_isPassLength cX11_isPassLength 2 (some .boolean), Cond.methodLink RX11 105 yX11_isWithin, Cond.methodLink RX11 333 yX11_fitsClock, Cond.instanceMethod yX11_fitsClock, Cond.selects RX11 yX11_fitsClock yX11_fitsClock, Cond.code yX11_fitsClock cX11_fitsClock 2 (some .boolean), Cond.methodLink RX11 342 yX11_isSaltAmount, Cond.instanceMethod yX11_isSaltAmount, Cond.selects RX11 yX11_isSaltAmount yX11_isSaltAmount, Cond.code yX11_isSaltAmount cX11_isSaltAmount 2 (some .boolean), Cond.methodLink RX11 208 yX11_contains, Cond.static yX11_contains, Cond.code yX11_contains cX11_contains 2 (some .boolean), Cond.methodLink RX11 358 yX3_isRedoable, Cond.instanceMethod yX3_isRedoable]
def wsL_runScript_r10 : List Cond := [Cond.selects RX3 yX3_isRedoable yX3_isRedoable, Cond.initialized RX3, Cond.code yX3_isRedoable cX3_isRedoable 2 (some .boolean), Cond.fieldLink RX3 12 "RecipeScheduler$Kitchen" "state" "LRecipeScheduler$State;", Cond.methodLink RX3 113 yX3_isContinued, Cond.instanceMethod yX3_isContinued, Cond.selects RX3 yX3_isContinued yX3_isContinued, Cond.code yX3_isContinued cX3_isContinued 2 (some .boolean), Cond.fieldLink RX3 28 "RecipeScheduler$Kitchen" "recipe" "LRecipeScheduler$Recipe;", Cond.methodLink RX11 432 yX11_isCookCount, Cond.instanceMethod yX11_isCookCount, Cond.selects RX11 yX11_isCookCount yX11_isCookCount, Cond.code yX11_isCookCount cX11_isCookCount 2 (some .boolean), Cond.methodLink RX11 366 yX11_isDuration, Cond.instanceMethod yX11_isDuration, Cond.selects RX11 yX11_isDuration yX11_isDuration, Cond.code yX11_isDuration cX11_isDuration 2 (some .boolean), Cond.methodLink RX11 280 yX3_servingObstacle, Cond.instanceMethod yX3_servingObstacle, Cond.selects RX3 yX3_servingObstacle yX3_servingObstacle, Cond.code yX3_servingObstacle cX3_servingObstacle 1 (some .int), Cond.methodLink RX3 51 yX5_allSteps, Cond.instanceMethod yX5_allSteps, Cond.selects RX5 yX5_allSteps yX5_allSteps]
def wsL_runScript_r11 : List Cond := [Cond.initialized RX5, Cond.code yX5_allSteps cX5_allSteps 1 (some .int), Cond.fieldLink RX5 27 "RecipeScheduler$Recipe" "steps" "LRecipeScheduler$Names;", Cond.methodLink RX3 200 yX3_dishTaste, Cond.instanceMethod yX3_dishTaste, Cond.selects RX3 yX3_dishTaste yX3_dishTaste, Cond.code yX3_dishTaste cX3_dishTaste 3 (some .int), Cond.methodLink RX11 391 yX11_carryOut, Cond.instanceMethod yX11_carryOut, Cond.selects RX11 yX11_carryOut yX11_carryOut, Cond.code yX11_carryOut cX11_carryOut 4 none, Cond.methodLink RX11 298 yX3_runMinutes, Cond.instanceMethod yX3_runMinutes, Cond.selects RX3 yX3_runMinutes yX3_runMinutes, Cond.code yX3_runMinutes cX3_runMinutes 4 (some .int), Cond.methodLink RX3 40 yX3_rank, Cond.instanceMethod yX3_rank, Cond.selects RX3 yX3_rank yX3_rank, Cond.code yX3_rank cX3_rank 3 none, Cond.fieldLink RX3 18 "RecipeScheduler$Kitchen" "path" "[I", Cond.fieldLink RX3 22 "RecipeScheduler$Kitchen" "order" "[I", Cond.methodLink RX3 159 yX3_longestOf, Cond.instanceMethod yX3_longestOf, Cond.selects RX3 yX3_longestOf yX3_longestOf]
def wsL_runScript_r12 : List Cond := [Cond.code yX3_longestOf cX3_longestOf 4 (some .int), Cond.methodLink RX3 43 yX3_runMinute, Cond.instanceMethod yX3_runMinute, Cond.selects RX3 yX3_runMinute yX3_runMinute, Cond.code yX3_runMinute cX3_runMinute 2 (some .int), Cond.methodLink RX3 63 yX3_work, Cond.instanceMethod yX3_work, Cond.selects RX3 yX3_work yX3_work, Cond.code yX3_work cX3_work 4 (some .int), Cond.methodLink RX3 76 yJ6_bitCount_0f7a4, Cond.static yJ6_bitCount_0f7a4, Cond.initialized RJ6, Cond.code yJ6_bitCount_0f7a4 cJ6_bitCount_0f7a4 1 (some .int), Cond.constant RJ6 265 (1431655765), Cond.constant RJ6 266 (858993459), Cond.constant RJ6 267 (252645135), Cond.methodLink RX3 107 yX8_complete, Cond.instanceMethod yX8_complete, Cond.selects RX8 yX8_complete yX8_complete, Cond.code yX8_complete cX8_complete 2 none, Cond.methodLink RX3 66 yX3_growOld, Cond.instanceMethod yX3_growOld, Cond.selects RX3 yX3_growOld yX3_growOld, Cond.code yX3_growOld cX3_growOld 4 none]
def wsL_runScript_r13 : List Cond := [Cond.methodLink RX3 123 yX8_burn, Cond.instanceMethod yX8_burn, Cond.selects RX8 yX8_burn yX8_burn, Cond.code yX8_burn cX8_burn 2 none, Cond.methodLink RX3 70 yX3_startSteps, Cond.instanceMethod yX3_startSteps, Cond.selects RX3 yX3_startSteps yX3_startSteps, Cond.code yX3_startSteps cX3_startSteps 4 none, Cond.methodLink RX3 126 yX3_readySteps, Cond.instanceMethod yX3_readySteps, Cond.selects RX3 yX3_readySteps yX3_readySteps, Cond.code yX3_readySteps cX3_readySteps 4 (some .int), Cond.methodLink RX3 129 yX3_hasFreeCook, Cond.instanceMethod yX3_hasFreeCook, Cond.selects RX3 yX3_hasFreeCook yX3_hasFreeCook, Cond.code yX3_hasFreeCook cX3_hasFreeCook 2 (some .boolean), Cond.methodLink RX3 132 yX3_hasFreePan, Cond.instanceMethod yX3_hasFreePan, Cond.selects RX3 yX3_hasFreePan yX3_hasFreePan, Cond.code yX3_hasFreePan cX3_hasFreePan 3 (some .boolean), Cond.methodLink RX3 150 yX3_occupants, Cond.instanceMethod yX3_occupants, Cond.selects RX3 yX3_occupants yX3_occupants, Cond.code yX3_occupants cX3_occupants 7 (some .int)]
def wsL_runScript_r14 : List Cond := [Cond.methodLink RX3 135 yX8_start, Cond.instanceMethod yX8_start, Cond.selects RX8 yX8_start yX8_start, Cond.code yX8_start cX8_start 2 none, Cond.methodLink RX11 355 yX8_halt, Cond.instanceMethod yX8_halt, Cond.selects RX8 yX8_halt yX8_halt, Cond.code yX8_halt cX8_halt 3 (some .int), Cond.methodLink RX11 363 yX8_discard, Cond.instanceMethod yX8_discard, Cond.selects RX8 yX8_discard yX8_discard, Cond.code yX8_discard cX8_discard 3 (some .int)]
def wsL_runScript : List Cond := .codeWith yL_runScript cL_runScript 3 (some .int) [(0, 8, 11, 19)] :: ((wsL_runScript_r1 ++ (wsL_runScript_r2 ++ (wsL_runScript_r3 ++ (wsL_runScript_r4 ++ (wsL_runScript_r5 ++ (wsL_runScript_r6 ++ (wsL_runScript_r7 ++ (wsL_runScript_r8 ++ (wsL_runScript_r9 ++ (wsL_runScript_r10 ++ (wsL_runScript_r11 ++ (wsL_runScript_r12 ++ (wsL_runScript_r13 ++ wsL_runScript_r14))))))))))))) ++ wsX110 ++ wsX30 ++ wsX50 ++ wsX90 ++ wsX60 ++ wsX100 ++ wsX40 ++ wsX20 ++ wsX80 ++ (vx_atS RX11 113 "java/lang/IllegalArgumentException" ["java/lang/RuntimeException", "java/lang/Exception"]).filter goodWord)
def wsL_undo_r1 : List Cond := [Cond.classLink RL 13 "java/lang/IllegalStateException", Cond.methodLink RL 137 yX11_undo, Cond.instanceMethod yX11_undo, Cond.selects RX11 yX11_undo yX11_undo, Cond.initialized RX11, Cond.code yX11_undo cX11_undo 1 (some .int), Cond.classLink RX11 96 "java/lang/IllegalStateException", Cond.initialized "java/lang/IllegalStateException", Cond.fieldLink RX11 77 "RecipeScheduler" "history" "LRecipeScheduler$History;", Cond.fieldLink RX11 67 "RecipeScheduler" "now" "LRecipeScheduler$Kitchen;", Cond.methodLink RX11 397 yX2_popInto, Cond.instanceMethod yX2_popInto, Cond.selects RX2 yX2_popInto yX2_popInto, Cond.initialized RX2, Cond.code yX2_popInto cX2_popInto 2 none, Cond.fieldLink RX2 18 "RecipeScheduler$History" "next" "I", Cond.fieldLink RX2 11 "RecipeScheduler$History" "states" "[LRecipeScheduler$State;", Cond.fieldLink RX2 26 "RecipeScheduler$History" "count" "I", Cond.methodLink RX2 22 yX8_copyFrom, Cond.instanceMethod yX8_copyFrom, Cond.selects RX8 yX8_copyFrom yX8_copyFrom, Cond.initialized RX8, Cond.code yX8_copyFrom cX8_copyFrom 2 none, Cond.fieldLink RX8 36 "RecipeScheduler$State" "cooks" "I"]
def wsL_undo_r2 : List Cond := [Cond.fieldLink RX8 37 "RecipeScheduler$State" "minute" "I", Cond.fieldLink RX8 40 "RecipeScheduler$State" "salt" "I", Cond.fieldLink RX8 43 "RecipeScheduler$State" "cookMinutes" "I", Cond.fieldLink RX8 46 "RecipeScheduler$State" "stops" "I", Cond.fieldLink RX8 49 "RecipeScheduler$State" "served" "Z", Cond.fieldLink RX8 53 "RecipeScheduler$State" "running" "I", Cond.fieldLink RX8 56 "RecipeScheduler$State" "done" "I", Cond.fieldLink RX8 59 "RecipeScheduler$State" "burnt" "I", Cond.fieldLink RX8 9 "RecipeScheduler$State" "duration" "[I", Cond.methodLink RX8 63 arraycopyName, Cond.native arraycopyName, Cond.static arraycopyName, Cond.initialized "java/lang/System", Cond.fieldLink RX8 15 "RecipeScheduler$State" "remaining" "[I", Cond.fieldLink RX8 18 "RecipeScheduler$State" "age" "[I", Cond.fieldLink RX8 21 "RecipeScheduler$State" "starts" "[I", Cond.fieldLink RX8 24 "RecipeScheduler$State" "completions" "[I", Cond.fieldLink RX8 27 "RecipeScheduler$State" "burns" "[I"]
def wsL_undo : List Cond := .codeWith yL_undo cL_undo 3 (some .int) [(0, 8, 11, 13)] :: ((wsL_undo_r1 ++ wsL_undo_r2) ++ wsX110 ++ wsX20 ++ wsX30 ++ wsX80 ++ (vx_atS RX11 100 "java/lang/IllegalStateException" ["java/lang/RuntimeException", "java/lang/Exception"]).filter goodWord)
def wsL_save_r1 : List Cond := [Cond.classLink RL 31 "java/lang/IndexOutOfBoundsException", Cond.methodLink RL 140 yX11_save, Cond.instanceMethod yX11_save, Cond.selects RX11 yX11_save yX11_save, Cond.initialized RX11, Cond.code yX11_save cX11_save 2 (some .int), Cond.fieldLink RX11 83 "RecipeScheduler" "saved" "[LRecipeScheduler$State;", Cond.fieldLink RX11 67 "RecipeScheduler" "now" "LRecipeScheduler$Kitchen;", Cond.fieldLink RX11 88 "RecipeScheduler" "isSaved" "[Z", Cond.methodLink RX11 400 yX11_requireSlot, Cond.instanceMethod yX11_requireSlot, Cond.selects RX11 yX11_requireSlot yX11_requireSlot, Cond.code yX11_requireSlot cX11_requireSlot 2 none, Cond.classLink RX11 237 "java/lang/IndexOutOfBoundsException", Cond.initialized "java/lang/IndexOutOfBoundsException", Cond.methodLink RX11 105 yX11_isWithin, Cond.static yX11_isWithin, Cond.code yX11_isWithin cX11_isWithin 3 (some .boolean), Cond.methodLink RX11 403 yX8_copyFrom, Cond.instanceMethod yX8_copyFrom, Cond.selects RX8 yX8_copyFrom yX8_copyFrom, Cond.initialized RX8, Cond.code yX8_copyFrom cX8_copyFrom 2 none, Cond.fieldLink RX8 36 "RecipeScheduler$State" "cooks" "I"]
def wsL_save_r2 : List Cond := [Cond.fieldLink RX8 37 "RecipeScheduler$State" "minute" "I", Cond.fieldLink RX8 40 "RecipeScheduler$State" "salt" "I", Cond.fieldLink RX8 43 "RecipeScheduler$State" "cookMinutes" "I", Cond.fieldLink RX8 46 "RecipeScheduler$State" "stops" "I", Cond.fieldLink RX8 49 "RecipeScheduler$State" "served" "Z", Cond.fieldLink RX8 53 "RecipeScheduler$State" "running" "I", Cond.fieldLink RX8 56 "RecipeScheduler$State" "done" "I", Cond.fieldLink RX8 59 "RecipeScheduler$State" "burnt" "I", Cond.fieldLink RX8 9 "RecipeScheduler$State" "duration" "[I", Cond.methodLink RX8 63 arraycopyName, Cond.native arraycopyName, Cond.static arraycopyName, Cond.initialized "java/lang/System", Cond.fieldLink RX8 15 "RecipeScheduler$State" "remaining" "[I", Cond.fieldLink RX8 18 "RecipeScheduler$State" "age" "[I", Cond.fieldLink RX8 21 "RecipeScheduler$State" "starts" "[I", Cond.fieldLink RX8 24 "RecipeScheduler$State" "completions" "[I", Cond.fieldLink RX8 27 "RecipeScheduler$State" "burns" "[I"]
def wsL_save : List Cond := .codeWith yL_save cL_save 4 (some .int) [(0, 9, 12, 31)] :: ((wsL_save_r1 ++ wsL_save_r2) ++ wsX110 ++ wsX30 ++ wsX80 ++ (vx_atS RX11 241 "java/lang/IndexOutOfBoundsException" ["java/lang/RuntimeException", "java/lang/Exception"]).filter goodWord)
def wsL_restore_r1 : List Cond := [Cond.classLink RL 31 "java/lang/IndexOutOfBoundsException", Cond.methodLink RL 143 yX11_restore, Cond.instanceMethod yX11_restore, Cond.selects RX11 yX11_restore yX11_restore, Cond.initialized RX11, Cond.code yX11_restore cX11_restore 2 (some .int), Cond.classLink RX11 96 "java/lang/IllegalStateException", Cond.initialized "java/lang/IllegalStateException", Cond.fieldLink RX11 88 "RecipeScheduler" "isSaved" "[Z", Cond.fieldLink RX11 67 "RecipeScheduler" "now" "LRecipeScheduler$Kitchen;", Cond.fieldLink RX11 83 "RecipeScheduler" "saved" "[LRecipeScheduler$State;", Cond.fieldLink RX11 77 "RecipeScheduler" "history" "LRecipeScheduler$History;", Cond.methodLink RX11 400 yX11_requireSlot, Cond.instanceMethod yX11_requireSlot, Cond.selects RX11 yX11_requireSlot yX11_requireSlot, Cond.code yX11_requireSlot cX11_requireSlot 2 none, Cond.classLink RX11 237 "java/lang/IndexOutOfBoundsException", Cond.initialized "java/lang/IndexOutOfBoundsException", Cond.methodLink RX11 105 yX11_isWithin, Cond.static yX11_isWithin, Cond.code yX11_isWithin cX11_isWithin 3 (some .boolean), Cond.methodLink RX11 403 yX8_copyFrom, Cond.instanceMethod yX8_copyFrom, Cond.selects RX8 yX8_copyFrom yX8_copyFrom]
def wsL_restore_r2 : List Cond := [Cond.initialized RX8, Cond.code yX8_copyFrom cX8_copyFrom 2 none, Cond.fieldLink RX8 36 "RecipeScheduler$State" "cooks" "I", Cond.fieldLink RX8 37 "RecipeScheduler$State" "minute" "I", Cond.fieldLink RX8 40 "RecipeScheduler$State" "salt" "I", Cond.fieldLink RX8 43 "RecipeScheduler$State" "cookMinutes" "I", Cond.fieldLink RX8 46 "RecipeScheduler$State" "stops" "I", Cond.fieldLink RX8 49 "RecipeScheduler$State" "served" "Z", Cond.fieldLink RX8 53 "RecipeScheduler$State" "running" "I", Cond.fieldLink RX8 56 "RecipeScheduler$State" "done" "I", Cond.fieldLink RX8 59 "RecipeScheduler$State" "burnt" "I", Cond.fieldLink RX8 9 "RecipeScheduler$State" "duration" "[I", Cond.methodLink RX8 63 arraycopyName, Cond.native arraycopyName, Cond.static arraycopyName, Cond.initialized "java/lang/System", Cond.fieldLink RX8 15 "RecipeScheduler$State" "remaining" "[I", Cond.fieldLink RX8 18 "RecipeScheduler$State" "age" "[I", Cond.fieldLink RX8 21 "RecipeScheduler$State" "starts" "[I", Cond.fieldLink RX8 24 "RecipeScheduler$State" "completions" "[I", Cond.fieldLink RX8 27 "RecipeScheduler$State" "burns" "[I"]
def wsL_restore : List Cond := .codeWith yL_restore cL_restore 4 (some .int) [(0, 9, 12, 31), (0, 9, 15, 13)] :: ((wsL_restore_r1 ++ wsL_restore_r2) ++ wsX110 ++ wsX30 ++ wsX20 ++ wsX80 ++ (vx_atS RX11 100 "java/lang/IllegalStateException" ["java/lang/RuntimeException", "java/lang/Exception"]).filter goodWord ++ (vx_atS RX11 241 "java/lang/IndexOutOfBoundsException" ["java/lang/RuntimeException", "java/lang/Exception"]).filter goodWord)
def wsL_outputByte : List Cond := .codeWith yL_outputByte cL_outputByte 4 (some .int) [(0, 9, 12, 31)] :: ([.classLink RL 31 "java/lang/IndexOutOfBoundsException", .methodLink RL 146 yX11_outputByte, .instanceMethod yX11_outputByte, .selects RX11 yX11_outputByte yX11_outputByte, .initialized RX11, .code yX11_outputByte cX11_outputByte 2 (some .int), .classLink RX11 237 "java/lang/IndexOutOfBoundsException", .initialized "java/lang/IndexOutOfBoundsException", .fieldLink RX11 45 "RecipeScheduler" "output" "LRecipeScheduler$Text;", .methodLink RX11 105 yX11_isWithin, .static yX11_isWithin, .code yX11_isWithin cX11_isWithin 3 (some .boolean)] ++ wsX110 ++ wsX90 ++ (vx_atS RX11 241 "java/lang/IndexOutOfBoundsException" ["java/lang/RuntimeException", "java/lang/Exception"]).filter goodWord)
def wsL_law0_r1 : List Cond := [Cond.classLink RL 8 RX11, Cond.instantiable RX11 11, Cond.initialized RX11, Cond.classLink RL 150 RX12, Cond.instantiable RX12 19, Cond.initialized RX12, Cond.arrayClass .long, Cond.methodLink RL 149 yX11_init, Cond.instanceMethod yX11_init, Cond.code yX11_init cX11_init 6 none, Cond.methodLink RX11 3 objectInit, Cond.instanceMethod objectInit, Cond.code objectInit ⟨#[0xb1]⟩ 1 none, Cond.classLink RX11 9 RX9, Cond.instantiable RX9 2, Cond.initialized RX9, Cond.classLink RX11 14 RX10, Cond.instantiable RX10 6, Cond.initialized RX10, Cond.classLink RX11 19 RX7, Cond.instantiable RX7 1, Cond.initialized RX7, Cond.classLink RX11 24 RX5, Cond.instantiable RX5 17]
def wsL_law0_r2 : List Cond := [Cond.initialized RX5, Cond.fieldLink RX11 41 "RecipeScheduler" "input" "LRecipeScheduler$Text;", Cond.fieldLink RX11 45 "RecipeScheduler" "output" "LRecipeScheduler$Text;", Cond.fieldLink RX11 48 "RecipeScheduler" "tokens" "LRecipeScheduler$Tokens;", Cond.fieldLink RX11 52 "RecipeScheduler" "setupReader" "LRecipeScheduler$SetupReader;", Cond.classLink RX11 56 RX6, Cond.instantiable RX6 5, Cond.initialized RX6, Cond.fieldLink RX11 59 "RecipeScheduler" "scriptReader" "LRecipeScheduler$ScriptReader;", Cond.classLink RX11 63 RX3, Cond.instantiable RX3 5, Cond.initialized RX3, Cond.fieldLink RX11 67 "RecipeScheduler" "now" "LRecipeScheduler$Kitchen;", Cond.fieldLink RX11 71 "RecipeScheduler" "forecast" "LRecipeScheduler$Kitchen;", Cond.classLink RX11 74 RX2, Cond.instantiable RX2 3, Cond.initialized RX2, Cond.fieldLink RX11 77 "RecipeScheduler" "history" "LRecipeScheduler$History;", Cond.classLink RX11 81 RX8, Cond.fieldLink RX11 83 "RecipeScheduler" "saved" "[LRecipeScheduler$State;", Cond.instantiable RX8 15, Cond.initialized RX8, Cond.arrayClass .boolean, Cond.fieldLink RX11 88 "RecipeScheduler" "isSaved" "[Z"]
def wsL_law0_r3 : List Cond := [Cond.fieldLink RX11 92 "RecipeScheduler" "spare" "LRecipeScheduler$Recipe;", Cond.methodLink RX11 11 yX9_init, Cond.instanceMethod yX9_init, Cond.code yX9_init cX9_init 2 none, Cond.methodLink RX9 1 objectInit, Cond.arrayClass .byte, Cond.fieldLink RX9 7 "RecipeScheduler$Text" "bytes" "[B", Cond.methodLink RX11 16 yX10_init, Cond.instanceMethod yX10_init, Cond.code yX10_init cX10_init 2 none, Cond.methodLink RX10 3 objectInit, Cond.fieldLink RX10 9 "RecipeScheduler$Tokens" "text" "LRecipeScheduler$Text;", Cond.fieldLink RX10 15 "RecipeScheduler$Tokens" "errorPosition" "I", Cond.methodLink RX11 21 yX7_init, Cond.instanceMethod yX7_init, Cond.code yX7_init cX7_init 2 none, Cond.methodLink RX7 3 objectInit, Cond.fieldLink RX7 9 "RecipeScheduler$SetupReader" "tokens" "LRecipeScheduler$Tokens;", Cond.instanceMethod yX5_init, Cond.code yX5_init cX5_init 1 none, Cond.methodLink RX5 3 objectInit, Cond.classLink RX5 9 RX4, Cond.instantiable RX4 3, Cond.initialized RX4]
def wsL_law0_r4 : List Cond := [Cond.fieldLink RX5 14 "RecipeScheduler$Recipe" "pans" "LRecipeScheduler$Names;", Cond.arrayClass .int, Cond.fieldLink RX5 20 "RecipeScheduler$Recipe" "capacity" "[I", Cond.fieldLink RX5 24 "RecipeScheduler$Recipe" "panUsers" "[I", Cond.fieldLink RX5 27 "RecipeScheduler$Recipe" "steps" "LRecipeScheduler$Names;", Cond.fieldLink RX5 30 "RecipeScheduler$Recipe" "duration" "[I", Cond.fieldLink RX5 33 "RecipeScheduler$Recipe" "taste" "[I", Cond.fieldLink RX5 36 "RecipeScheduler$Recipe" "pan" "[I", Cond.classLink RX5 39 "[[I", Cond.fieldLink RX5 41 "RecipeScheduler$Recipe" "predecessors" "[[I", Cond.fieldLink RX5 44 "RecipeScheduler$Recipe" "predecessorCount" "[I", Cond.fieldLink RX5 47 "RecipeScheduler$Recipe" "predecessorSet" "[I", Cond.fieldLink RX5 50 "RecipeScheduler$Recipe" "successorSet" "[I", Cond.methodLink RX5 11 yX4_init, Cond.instanceMethod yX4_init, Cond.code yX4_init cX4_init 2 none, Cond.methodLink RX4 3 objectInit, Cond.classLink RX4 9 "[[B", Cond.fieldLink RX4 11 "RecipeScheduler$Names" "letters" "[[B", Cond.fieldLink RX4 16 "RecipeScheduler$Names" "lengths" "[I", Cond.methodLink RX11 29 yX9_addString, Cond.instanceMethod yX9_addString, Cond.selects RX9 yX9_addString yX9_addString, Cond.code yX9_addString cX9_addString 3 none]
def wsL_law0_r5 : List Cond := [Cond.methodLink RX9 21 yJ0_length_8abf5, Cond.instanceMethod yJ0_length_8abf5, Cond.selects RJ0 yJ0_length_8abf5 yJ0_length_8abf5, Cond.initialized RJ0, Cond.code yJ0_length_8abf5 cJ0_length_8abf5 1 (some .int), Cond.fieldLink RJ0 9 "java/lang/String" "value" "[B", Cond.methodLink RJ0 335 yJ0_coder_7d493, Cond.instanceMethod yJ0_coder_7d493, Cond.selects RJ0 yJ0_coder_7d493 yJ0_coder_7d493, Cond.code yJ0_coder_7d493 cJ0_coder_7d493 1 (some .byte), Cond.fieldLink RJ0 38 "java/lang/String" "COMPACT_STRINGS" "Z", Cond.fieldLink RJ0 15 "java/lang/String" "coder" "B", Cond.methodLink RX9 26 yJ0_charAt_5068e, Cond.instanceMethod yJ0_charAt_5068e, Cond.selects RJ0 yJ0_charAt_5068e yJ0_charAt_5068e, Cond.code yJ0_charAt_5068e cJ0_charAt_5068e 2 (some .char), Cond.methodLink RJ0 492 yJ0_isLatin1_aae02, Cond.instanceMethod yJ0_isLatin1_aae02, Cond.selects RJ0 yJ0_isLatin1_aae02 yJ0_isLatin1_aae02, Cond.code yJ0_isLatin1_aae02 cJ0_isLatin1_aae02 1 (some .boolean), Cond.methodLink RJ0 495 yJ1_charAt_3b067, Cond.static yJ1_charAt_3b067, Cond.initialized RJ1, Cond.code yJ1_charAt_3b067 cJ1_charAt_3b067 2 (some .char)]
def wsL_law0_r6 : List Cond := [Cond.methodLink RJ1 9 yJ0_checkIndex_df160, Cond.static yJ0_checkIndex_df160, Cond.code yJ0_checkIndex_df160 cJ0_checkIndex_df160 2 none, Cond.fieldLink RJ0 1053 "jdk/internal/util/Preconditions" "SIOOBE_FORMATTER" "Ljava/util/function/BiFunction;", Cond.methodLink RJ0 1059 yJ3_checkIndex_8e157, Cond.static yJ3_checkIndex_8e157, Cond.initialized RJ3, Cond.code yJ3_checkIndex_8e157 cJ3_checkIndex_8e157 3 (some .int), Cond.methodLink RJ0 498 yJ2_charAt_3b067, Cond.static yJ2_charAt_3b067, Cond.initialized RJ2, Cond.code yJ2_charAt_3b067 cJ2_charAt_3b067 2 (some .char), Cond.methodLink RJ2 67 yJ2_checkIndex_2214a, Cond.static yJ2_checkIndex_2214a, Cond.code yJ2_checkIndex_2214a cJ2_checkIndex_2214a 2 none, Cond.methodLink RJ2 48 yJ2_length_9d52b, Cond.static yJ2_length_9d52b, Cond.code yJ2_length_9d52b cJ2_length_9d52b 1 (some .int), Cond.methodLink RJ2 414 yJ0_checkIndex_df160, Cond.methodLink RJ2 71 yJ2_getChar_3b067, Cond.static yJ2_getChar_3b067, Cond.code yJ2_getChar_3b067 cJ2_getChar_3b067 2 (some .char), Cond.fieldLink RJ2 44 "java/lang/StringUTF16" "$assertionsDisabled" "Z", Cond.fieldLink RJ2 59 "java/lang/StringUTF16" "HI_BYTE_SHIFT" "I"]
def wsL_law0_r7 : List Cond := [Cond.fieldLink RJ2 63 "java/lang/StringUTF16" "LO_BYTE_SHIFT" "I", Cond.methodLink RX9 17 yX9_addByte, Cond.instanceMethod yX9_addByte, Cond.selects RX9 yX9_addByte yX9_addByte, Cond.code yX9_addByte cX9_addByte 2 none, Cond.fieldLink RX9 13 "RecipeScheduler$Text" "length" "I", Cond.methodLink RX11 33 yX7_readInto, Cond.instanceMethod yX7_readInto, Cond.selects RX7 yX7_readInto yX7_readInto, Cond.code yX7_readInto cX7_readInto 3 none, Cond.methodLink RX7 15 yX5_clear, Cond.instanceMethod yX5_clear, Cond.selects RX5 yX5_clear yX5_clear, Cond.code yX5_clear cX5_clear 1 none, Cond.fieldLink RX5 57 "RecipeScheduler$Recipe" "hot" "I", Cond.fieldLink RX5 60 "RecipeScheduler$Recipe" "alone" "I", Cond.methodLink RX5 63 yJ7_fill_53178, Cond.static yJ7_fill_53178, Cond.initialized RJ7, Cond.code yJ7_fill_53178 cJ7_fill_53178 4 none, Cond.methodLink RX7 20 yX10_begin, Cond.instanceMethod yX10_begin, Cond.selects RX10 yX10_begin yX10_begin, Cond.code yX10_begin cX10_begin 1 none]
def wsL_law0_r8 : List Cond := [Cond.fieldLink RX10 19 "RecipeScheduler$Tokens" "errorCode" "I", Cond.fieldLink RX10 22 "RecipeScheduler$Tokens" "end" "I", Cond.methodLink RX10 25 yX10_advance, Cond.instanceMethod yX10_advance, Cond.selects RX10 yX10_advance yX10_advance, Cond.code yX10_advance cX10_advance 1 none, Cond.fieldLink RX10 28 "RecipeScheduler$Tokens" "start" "I", Cond.fieldLink RX10 44 "RecipeScheduler$Tokens" "kind" "I", Cond.methodLink RX10 40 yX10_isGap, Cond.static yX10_isGap, Cond.code yX10_isGap cX10_isGap 1 (some .boolean), Cond.static yX11_isWithin, Cond.code yX11_isWithin cX11_isWithin 3 (some .boolean), Cond.methodLink RX10 51 yX10_passRun, Cond.instanceMethod yX10_passRun, Cond.selects RX10 yX10_passRun yX10_passRun, Cond.code yX10_passRun cX10_passRun 3 none, Cond.methodLink RX7 25 yX7_readHead, Cond.instanceMethod yX7_readHead, Cond.selects RX7 yX7_readHead yX7_readHead, Cond.code yX7_readHead cX7_readHead 2 none, Cond.methodLink RX7 47 yX10_accept, Cond.instanceMethod yX10_accept, Cond.selects RX10 yX10_accept yX10_accept]
def wsL_law0_r9 : List Cond := [Cond.code yX10_accept cX10_accept 3 (some .boolean), Cond.methodLink RX10 64 yX10_isWord, Cond.instanceMethod yX10_isWord, Cond.selects RX10 yX10_isWord yX10_isWord, Cond.code yX10_isWord cX10_isWord 3 (some .boolean), Cond.methodLink RX10 55 yJ0_length_8abf5, Cond.methodLink RX10 60 yJ0_charAt_5068e, Cond.methodLink RX7 50 yX10_fail, Cond.instanceMethod yX10_fail, Cond.selects RX10 yX10_fail yX10_fail, Cond.code yX10_fail cX10_fail 2 none, Cond.methodLink RX7 54 yX10_expectNumber, Cond.instanceMethod yX10_expectNumber, Cond.selects RX10 yX10_expectNumber yX10_expectNumber, Cond.code yX10_expectNumber cX10_expectNumber 5 (some .int), Cond.methodLink RX10 68 yX10_fail, Cond.methodLink RX7 71 yX10_expectSemicolon, Cond.instanceMethod yX10_expectSemicolon, Cond.selects RX10 yX10_expectSemicolon yX10_expectSemicolon, Cond.code yX10_expectSemicolon cX10_expectSemicolon 1 none, Cond.methodLink RX7 31 yX10_isWord, Cond.methodLink RX7 35 yX7_readPan, Cond.instanceMethod yX7_readPan, Cond.selects RX7 yX7_readPan yX7_readPan]
def wsL_law0_r10 : List Cond := [Cond.code yX7_readPan cX7_readPan 3 none, Cond.methodLink RX7 83 yX4_isFull, Cond.instanceMethod yX4_isFull, Cond.selects RX4 yX4_isFull yX4_isFull, Cond.code yX4_isFull cX4_isFull 1 (some .boolean), Cond.fieldLink RX4 20 "RecipeScheduler$Names" "count" "I", Cond.methodLink RX7 86 yX10_advance, Cond.methodLink RX7 89 yX10_expectNewName, Cond.instanceMethod yX10_expectNewName, Cond.selects RX10 yX10_expectNewName yX10_expectNewName, Cond.code yX10_expectNewName cX10_expectNewName 2 none, Cond.methodLink RX10 72 yX4_indexOf, Cond.instanceMethod yX4_indexOf, Cond.selects RX4 yX4_indexOf yX4_indexOf, Cond.code yX4_indexOf cX4_indexOf 5 (some .int), Cond.methodLink RX4 24 yX4_matches, Cond.instanceMethod yX4_matches, Cond.selects RX4 yX4_matches yX4_matches, Cond.code yX4_matches cX4_matches 5 (some .boolean), Cond.methodLink RX10 78 yX4_prepare, Cond.instanceMethod yX4_prepare, Cond.selects RX4 yX4_prepare yX4_prepare, Cond.code yX4_prepare cX4_prepare 5 none, Cond.methodLink RX4 34 yX4_isFull]
def wsL_law0_r11 : List Cond := [Cond.methodLink RX7 38 yX7_readStep, Cond.instanceMethod yX7_readStep, Cond.selects RX7 yX7_readStep yX7_readStep, Cond.code yX7_readStep cX7_readStep 3 none, Cond.methodLink RX7 108 yX7_readPanOf, Cond.instanceMethod yX7_readPanOf, Cond.selects RX7 yX7_readPanOf yX7_readPanOf, Cond.code yX7_readPanOf cX7_readPanOf 4 none, Cond.methodLink RX7 129 yX10_findName, Cond.instanceMethod yX10_findName, Cond.selects RX10 yX10_findName yX10_findName, Cond.code yX10_findName cX10_findName 3 (some .int), Cond.methodLink RX7 122 yX7_readPredecessors, Cond.instanceMethod yX7_readPredecessors, Cond.selects RX7 yX7_readPredecessors yX7_readPredecessors, Cond.code yX7_readPredecessors cX7_readPredecessors 5 none, Cond.methodLink RX7 136 yX10_isAnyWord, Cond.instanceMethod yX10_isAnyWord, Cond.selects RX10 yX10_isAnyWord yX10_isAnyWord, Cond.code yX10_isAnyWord cX10_isAnyWord 1 (some .boolean), Cond.static yX11_contains, Cond.code yX11_contains cX11_contains 2 (some .boolean), Cond.methodLink RX7 149 yX5_addPredecessor, Cond.instanceMethod yX5_addPredecessor]
def wsL_law0_r12 : List Cond := [Cond.selects RX5 yX5_addPredecessor yX5_addPredecessor, Cond.code yX5_addPredecessor cX5_addPredecessor 3 none, Cond.methodLink RX7 41 yX10_mayGoOn, Cond.instanceMethod yX10_mayGoOn, Cond.selects RX10 yX10_mayGoOn yX10_mayGoOn, Cond.code yX10_mayGoOn cX10_mayGoOn 1 (some .boolean), Cond.methodLink RX11 58 yX6_init, Cond.instanceMethod yX6_init, Cond.code yX6_init cX6_init 2 none, Cond.methodLink RX6 3 objectInit, Cond.classLink RX6 9 RX1, Cond.fieldLink RX6 11 "RecipeScheduler$ScriptReader" "commands" "[LRecipeScheduler$Command;", Cond.fieldLink RX6 17 "RecipeScheduler$ScriptReader" "steps" "[I", Cond.fieldLink RX6 21 "RecipeScheduler$ScriptReader" "numbers" "[I", Cond.fieldLink RX6 24 "RecipeScheduler$ScriptReader" "tokens" "LRecipeScheduler$Tokens;", Cond.methodLink RX11 65 yX3_init, Cond.instanceMethod yX3_init, Cond.code yX3_init cX3_init 2 none, Cond.methodLink RX3 3 objectInit, Cond.classLink RX3 9 RX8, Cond.fieldLink RX3 12 "RecipeScheduler$Kitchen" "state" "LRecipeScheduler$State;", Cond.fieldLink RX3 18 "RecipeScheduler$Kitchen" "path" "[I", Cond.fieldLink RX3 22 "RecipeScheduler$Kitchen" "order" "[I", Cond.fieldLink RX3 25 "RecipeScheduler$Kitchen" "head" "[I"]
def wsL_law0_r13 : List Cond := [Cond.fieldLink RX3 28 "RecipeScheduler$Kitchen" "recipe" "LRecipeScheduler$Recipe;", Cond.instanceMethod yX8_init, Cond.code yX8_init cX8_init 1 none, Cond.methodLink RX8 3 objectInit, Cond.fieldLink RX8 9 "RecipeScheduler$State" "duration" "[I", Cond.fieldLink RX8 15 "RecipeScheduler$State" "remaining" "[I", Cond.fieldLink RX8 18 "RecipeScheduler$State" "age" "[I", Cond.fieldLink RX8 21 "RecipeScheduler$State" "starts" "[I", Cond.fieldLink RX8 24 "RecipeScheduler$State" "completions" "[I", Cond.fieldLink RX8 27 "RecipeScheduler$State" "burns" "[I", Cond.methodLink RX3 32 yX8_begin, Cond.instanceMethod yX8_begin, Cond.selects RX8 yX8_begin yX8_begin, Cond.code yX8_begin cX8_begin 2 none, Cond.fieldLink RX8 36 "RecipeScheduler$State" "cooks" "I", Cond.fieldLink RX8 37 "RecipeScheduler$State" "minute" "I", Cond.fieldLink RX8 40 "RecipeScheduler$State" "salt" "I", Cond.fieldLink RX8 43 "RecipeScheduler$State" "cookMinutes" "I", Cond.fieldLink RX8 46 "RecipeScheduler$State" "stops" "I", Cond.fieldLink RX8 49 "RecipeScheduler$State" "served" "Z", Cond.fieldLink RX8 53 "RecipeScheduler$State" "running" "I", Cond.fieldLink RX8 56 "RecipeScheduler$State" "done" "I", Cond.fieldLink RX8 59 "RecipeScheduler$State" "burnt" "I", Cond.methodLink RX8 63 arraycopyName]
def wsL_law0_r14 : List Cond := [Cond.native arraycopyName, Cond.static arraycopyName, Cond.initialized "java/lang/System", Cond.methodLink RX8 69 yJ7_fill_53178, Cond.methodLink RX11 76 yX2_init, Cond.instanceMethod yX2_init, Cond.code yX2_init cX2_init 2 none, Cond.methodLink RX2 3 objectInit, Cond.classLink RX2 9 RX8, Cond.fieldLink RX2 11 "RecipeScheduler$History" "states" "[LRecipeScheduler$State;", Cond.methodLink RL 152 yX12_init, Cond.instanceMethod yX12_init, Cond.code yX12_init cX12_init 3 none, Cond.methodLink RX12 7 objectInit, Cond.fieldLink RX12 13 "RecipeSchedulerModel" "m" "[I", Cond.fieldLink RX12 17 "RecipeSchedulerModel" "isSaved" "[Z", Cond.fieldLink RX12 21 "RecipeSchedulerModel" "undoable" "I", Cond.fieldLink RX12 24 "RecipeSchedulerModel" "buffer" "[I", Cond.fieldLink RX12 27 "RecipeSchedulerModel" "length" "I", Cond.fieldLink RX12 30 "RecipeSchedulerModel" "errorCode" "I", Cond.fieldLink RX12 33 "RecipeSchedulerModel" "errorPosition" "I", Cond.fieldLink RX12 36 "RecipeSchedulerModel" "written" "[I", Cond.fieldLink RX12 39 "RecipeSchedulerModel" "writtenLength" "I", Cond.fieldLink RX12 1 "RecipeSchedulerModel" "thrown" "I"]
def wsL_law0_r15 : List Cond := [Cond.fieldLink RX12 42 "RecipeSchedulerModel" "paths" "[I", Cond.fieldLink RX12 45 "RecipeSchedulerModel" "heads" "[I", Cond.fieldLink RX12 48 "RecipeSchedulerModel" "isReached" "[Z", Cond.fieldLink RX12 51 "RecipeSchedulerModel" "queue" "[I", Cond.fieldLink RX12 54 "RecipeSchedulerModel" "ahead" "I", Cond.fieldLink RX12 57 "RecipeSchedulerModel" "type" "I", Cond.fieldLink RX12 60 "RecipeSchedulerModel" "from" "I", Cond.fieldLink RX12 63 "RecipeSchedulerModel" "value" "I", Cond.fieldLink RX12 66 "RecipeSchedulerModel" "commands" "[I", Cond.methodLink RX12 71 yJ0_length_8abf5, Cond.methodLink RX12 76 yJ0_charAt_5068e, Cond.methodLink RX12 80 yX12_begin, Cond.instanceMethod yX12_begin, Cond.selects RX12 yX12_begin yX12_begin, Cond.code yX12_begin cX12_begin 1 none, Cond.methodLink RX12 180 yX12_token, Cond.instanceMethod yX12_token, Cond.selects RX12 yX12_token yX12_token, Cond.code yX12_token cX12_token 1 none, Cond.methodLink RX12 174 yX12_isSmall, Cond.static yX12_isSmall, Cond.code yX12_isSmall cX12_isSmall 1 (some .boolean), Cond.methodLink RX12 177 yX12_isDigit, Cond.static yX12_isDigit]
def wsL_law0_r16 : List Cond := [Cond.code yX12_isDigit cX12_isDigit 1 (some .boolean), Cond.methodLink RX12 83 yX12_parseSetup, Cond.instanceMethod yX12_parseSetup, Cond.selects RX12 yX12_parseSetup yX12_parseSetup, Cond.code yX12_parseSetup cX12_parseSetup 2 (some .boolean), Cond.methodLink RX12 183 yX12_isWord, Cond.instanceMethod yX12_isWord, Cond.selects RX12 yX12_isWord yX12_isWord, Cond.code yX12_isWord cX12_isWord 3 (some .boolean), Cond.methodLink RX12 187 yX12_wrong, Cond.instanceMethod yX12_wrong, Cond.selects RX12 yX12_wrong yX12_wrong, Cond.code yX12_wrong cX12_wrong 2 (some .boolean), Cond.methodLink RX12 202 yX12_parseRanged, Cond.instanceMethod yX12_parseRanged, Cond.selects RX12 yX12_parseRanged yX12_parseRanged, Cond.code yX12_parseRanged cX12_parseRanged 4 (some .boolean), Cond.methodLink RX12 87 yX12_in, Cond.static yX12_in, Cond.code yX12_in cX12_in 3 (some .boolean), Cond.methodLink RX12 205 yX12_semicolon, Cond.instanceMethod yX12_semicolon, Cond.selects RX12 yX12_semicolon yX12_semicolon, Cond.code yX12_semicolon cX12_semicolon 1 (some .boolean)]
def wsL_law0_r17 : List Cond := [Cond.methodLink RX12 231 yX12_parsePan, Cond.instanceMethod yX12_parsePan, Cond.selects RX12 yX12_parsePan yX12_parsePan, Cond.code yX12_parsePan cX12_parsePan 2 (some .boolean), Cond.methodLink RX12 193 yX12_isShortWord, Cond.instanceMethod yX12_isShortWord, Cond.selects RX12 yX12_isShortWord yX12_isShortWord, Cond.code yX12_isShortWord cX12_isShortWord 1 (some .boolean), Cond.methodLink RX12 196 yX12_panNamed, Cond.instanceMethod yX12_panNamed, Cond.selects RX12 yX12_panNamed yX12_panNamed, Cond.code yX12_panNamed cX12_panNamed 4 (some .int), Cond.methodLink RX12 190 yX12_isNamed, Cond.instanceMethod yX12_isNamed, Cond.selects RX12 yX12_isNamed yX12_isNamed, Cond.code yX12_isNamed cX12_isNamed 5 (some .boolean), Cond.methodLink RX12 199 yX12_putName, Cond.instanceMethod yX12_putName, Cond.selects RX12 yX12_putName yX12_putName, Cond.code yX12_putName cX12_putName 3 none, Cond.methodLink RX12 236 yX12_parseStep, Cond.instanceMethod yX12_parseStep, Cond.selects RX12 yX12_parseStep yX12_parseStep, Cond.code yX12_parseStep cX12_parseStep 3 (some .boolean)]
def wsL_law0_r18 : List Cond := [Cond.methodLink RX12 208 yX12_stepNamed, Cond.instanceMethod yX12_stepNamed, Cond.selects RX12 yX12_stepNamed yX12_stepNamed, Cond.code yX12_stepNamed cX12_stepNamed 4 (some .int), Cond.methodLink RX12 215 yX12_parsePanType, Cond.instanceMethod yX12_parsePanType, Cond.selects RX12 yX12_parsePanType yX12_parsePanType, Cond.code yX12_parsePanType cX12_parsePanType 2 (some .boolean), Cond.methodLink RX12 212 yX12_takes, Cond.instanceMethod yX12_takes, Cond.selects RX12 yX12_takes yX12_takes, Cond.code yX12_takes cX12_takes 2 (some .boolean), Cond.methodLink RX12 224 yX12_parsePredecessor, Cond.instanceMethod yX12_parsePredecessor, Cond.selects RX12 yX12_parsePredecessor yX12_parsePredecessor, Cond.code yX12_parsePredecessor cX12_parsePredecessor 4 (some .boolean), Cond.methodLink RL 153 yL_append, Cond.static yL_append, Cond.initialized RL, Cond.codeWith yL_append cL_append 8 (some .int) [(0, 16, 19, 13)], Cond.classLink RL 13 "java/lang/IllegalStateException", Cond.methodLink RL 7 yX11_append, Cond.instanceMethod yX11_append, Cond.selects RX11 yX11_append yX11_append]
def wsL_law0_r19 : List Cond := [Cond.code yX11_append cX11_append 6 (some .int), Cond.classLink RX11 96 "java/lang/IllegalStateException", Cond.initialized "java/lang/IllegalStateException", Cond.methodLink RX11 102 yX9_addFourBytes, Cond.instanceMethod yX9_addFourBytes, Cond.selects RX9 yX9_addFourBytes yX9_addFourBytes, Cond.code yX9_addFourBytes cX9_addFourBytes 2 none, Cond.methodLink RL 158 yX12_append, Cond.instanceMethod yX12_append, Cond.selects RX12 yX12_append yX12_append, Cond.code yX12_append cX12_append 6 (some .int), Cond.methodLink RX12 167 yX12_fails, Cond.instanceMethod yX12_fails, Cond.selects RX12 yX12_fails yX12_fails, Cond.code yX12_fails cX12_fails 4 (some .boolean), Cond.methodLink RX12 171 yX12_appendWord, Cond.instanceMethod yX12_appendWord, Cond.selects RX12 yX12_appendWord yX12_appendWord, Cond.code yX12_appendWord cX12_appendWord 3 none, Cond.methodLink RL 159 yX12_thrown, Cond.instanceMethod yX12_thrown, Cond.selects RX12 yX12_thrown yX12_thrown, Cond.code yX12_thrown cX12_thrown 1 (some .int), Cond.methodLink RL 162 yL_truncate]
def wsL_law0_r20 : List Cond := [Cond.static yL_truncate, Cond.codeWith yL_truncate cL_truncate 4 (some .int) [(0, 9, 12, 19)], Cond.classLink RL 19 "java/lang/IllegalArgumentException", Cond.methodLink RL 15 yX11_truncate, Cond.instanceMethod yX11_truncate, Cond.selects RX11 yX11_truncate yX11_truncate, Cond.code yX11_truncate cX11_truncate 2 (some .int), Cond.classLink RX11 109 "java/lang/IllegalArgumentException", Cond.initialized "java/lang/IllegalArgumentException", Cond.methodLink RX11 105 yX11_isWithin, Cond.methodLink RL 165 yX12_truncate, Cond.instanceMethod yX12_truncate, Cond.selects RX12 yX12_truncate yX12_truncate, Cond.code yX12_truncate cX12_truncate 2 (some .int), Cond.methodLink RL 166 yL_load, Cond.static yL_load, Cond.codeWith yL_load cL_load 3 (some .int) [(0, 8, 11, 19)], Cond.methodLink RL 21 yX11_load, Cond.instanceMethod yX11_load, Cond.selects RX11 yX11_load yX11_load, Cond.code yX11_load cX11_load 3 (some .int), Cond.methodLink RX11 114 yX11_requireNoError, Cond.instanceMethod yX11_requireNoError, Cond.selects RX11 yX11_requireNoError yX11_requireNoError]
def wsL_law0_r21 : List Cond := [Cond.code yX11_requireNoError cX11_requireNoError 1 none, Cond.methodLink RX11 120 yX3_open, Cond.instanceMethod yX3_open, Cond.selects RX3 yX3_open yX3_open, Cond.code yX3_open cX3_open 2 none, Cond.methodLink RL 169 yX12_load, Cond.instanceMethod yX12_load, Cond.selects RX12 yX12_load yX12_load, Cond.code yX12_load cX12_load 2 (some .int), Cond.methodLink RX12 91 yX12_copyBlock, Cond.instanceMethod yX12_copyBlock, Cond.selects RX12 yX12_copyBlock yX12_copyBlock, Cond.code yX12_copyBlock cX12_copyBlock 4 none, Cond.methodLink RL 170 yX11_errorCode, Cond.instanceMethod yX11_errorCode, Cond.selects RX11 yX11_errorCode yX11_errorCode, Cond.code yX11_errorCode cX11_errorCode 1 (some .int), Cond.methodLink RL 173 yX12_errorCode, Cond.instanceMethod yX12_errorCode, Cond.selects RX12 yX12_errorCode yX12_errorCode, Cond.code yX12_errorCode cX12_errorCode 1 (some .int), Cond.methodLink RL 174 yX11_errorPosition, Cond.instanceMethod yX11_errorPosition, Cond.selects RX11 yX11_errorPosition yX11_errorPosition]
def wsL_law0_r22 : List Cond := [Cond.code yX11_errorPosition cX11_errorPosition 1 (some .int), Cond.methodLink RL 177 yX12_errorPosition, Cond.instanceMethod yX12_errorPosition, Cond.selects RX12 yX12_errorPosition yX12_errorPosition, Cond.code yX12_errorPosition cX12_errorPosition 1 (some .int), Cond.methodLink RL 178 yX11_stepCount, Cond.instanceMethod yX11_stepCount, Cond.selects RX11 yX11_stepCount yX11_stepCount, Cond.code yX11_stepCount cX11_stepCount 1 (some .int), Cond.methodLink RL 181 yX12_stepCount, Cond.instanceMethod yX12_stepCount, Cond.selects RX12 yX12_stepCount yX12_stepCount, Cond.code yX12_stepCount cX12_stepCount 1 (some .int), Cond.methodLink RX12 298 yX12_plain, Cond.instanceMethod yX12_plain, Cond.selects RX12 yX12_plain yX12_plain, Cond.code yX12_plain cX12_plain 2 (some .int), Cond.methodLink RL 182 yX11_cooks, Cond.instanceMethod yX11_cooks, Cond.selects RX11 yX11_cooks yX11_cooks, Cond.code yX11_cooks cX11_cooks 1 (some .int), Cond.methodLink RL 185 yX12_cooks, Cond.instanceMethod yX12_cooks, Cond.selects RX12 yX12_cooks yX12_cooks]
def wsL_law0_r23 : List Cond := [Cond.code yX12_cooks cX12_cooks 1 (some .int), Cond.methodLink RL 186 yX11_minute, Cond.instanceMethod yX11_minute, Cond.selects RX11 yX11_minute yX11_minute, Cond.code yX11_minute cX11_minute 1 (some .int), Cond.methodLink RL 189 yX12_minute, Cond.instanceMethod yX12_minute, Cond.selects RX12 yX12_minute yX12_minute, Cond.code yX12_minute cX12_minute 1 (some .int), Cond.methodLink RL 190 yX11_salt, Cond.instanceMethod yX11_salt, Cond.selects RX11 yX11_salt yX11_salt, Cond.code yX11_salt cX11_salt 1 (some .int), Cond.methodLink RL 193 yX12_salt, Cond.instanceMethod yX12_salt, Cond.selects RX12 yX12_salt yX12_salt, Cond.code yX12_salt cX12_salt 1 (some .int), Cond.methodLink RL 194 yX11_taste, Cond.instanceMethod yX11_taste, Cond.selects RX11 yX11_taste yX11_taste, Cond.code yX11_taste cX11_taste 1 (some .int), Cond.methodLink RX11 152 yX3_dishTaste, Cond.instanceMethod yX3_dishTaste, Cond.selects RX3 yX3_dishTaste yX3_dishTaste]
def wsL_law0_r24 : List Cond := [Cond.code yX3_dishTaste cX3_dishTaste 3 (some .int), Cond.methodLink RL 197 yX12_taste, Cond.instanceMethod yX12_taste, Cond.selects RX12 yX12_taste yX12_taste, Cond.code yX12_taste cX12_taste 1 (some .int), Cond.methodLink RX12 164 yX12_tasteNow, Cond.instanceMethod yX12_tasteNow, Cond.selects RX12 yX12_tasteNow yX12_tasteNow, Cond.code yX12_tasteNow cX12_tasteNow 3 (some .int), Cond.methodLink RX12 95 yX12_of, Cond.instanceMethod yX12_of, Cond.selects RX12 yX12_of yX12_of, Cond.code yX12_of cX12_of 3 (some .int), Cond.methodLink RL 198 yL_countWithStatus, Cond.static yL_countWithStatus, Cond.codeWith yL_countWithStatus cL_countWithStatus 4 (some .int) [(0, 9, 12, 19)], Cond.methodLink RL 25 yX11_countWithStatus, Cond.instanceMethod yX11_countWithStatus, Cond.selects RX11 yX11_countWithStatus yX11_countWithStatus, Cond.code yX11_countWithStatus cX11_countWithStatus 4 (some .int), Cond.methodLink RX11 158 yX8_statusOf, Cond.instanceMethod yX8_statusOf, Cond.selects RX8 yX8_statusOf yX8_statusOf, Cond.code yX8_statusOf cX8_statusOf 2 (some .int)]
def wsL_law0_r25 : List Cond := [Cond.methodLink RL 200 yX12_countWithStatus, Cond.instanceMethod yX12_countWithStatus, Cond.selects RX12 yX12_countWithStatus yX12_countWithStatus, Cond.code yX12_countWithStatus cX12_countWithStatus 2 (some .int), Cond.methodLink RX12 123 yX12_withStatus, Cond.instanceMethod yX12_withStatus, Cond.selects RX12 yX12_withStatus yX12_withStatus, Cond.code yX12_withStatus cX12_withStatus 4 (some .int), Cond.methodLink RL 201 yX11_starts, Cond.instanceMethod yX11_starts, Cond.selects RX11 yX11_starts yX11_starts, Cond.code yX11_starts cX11_starts 1 (some .int), Cond.methodLink RX11 166 yX11_sum, Cond.static yX11_sum, Cond.code yX11_sum cX11_sum 4 (some .int), Cond.methodLink RL 204 yX12_starts, Cond.instanceMethod yX12_starts, Cond.selects RX12 yX12_starts yX12_starts, Cond.code yX12_starts cX12_starts 1 (some .int), Cond.methodLink RL 205 yX11_completions, Cond.instanceMethod yX11_completions, Cond.selects RX11 yX11_completions yX11_completions, Cond.code yX11_completions cX11_completions 1 (some .int), Cond.methodLink RL 208 yX12_completions]
def wsL_law0_r26 : List Cond := [Cond.instanceMethod yX12_completions, Cond.selects RX12 yX12_completions yX12_completions, Cond.code yX12_completions cX12_completions 1 (some .int), Cond.methodLink RL 209 yX11_burns, Cond.instanceMethod yX11_burns, Cond.selects RX11 yX11_burns yX11_burns, Cond.code yX11_burns cX11_burns 1 (some .int), Cond.methodLink RL 212 yX12_burns, Cond.instanceMethod yX12_burns, Cond.selects RX12 yX12_burns yX12_burns, Cond.code yX12_burns cX12_burns 1 (some .int), Cond.methodLink RL 213 yX11_cookMinutes, Cond.instanceMethod yX11_cookMinutes, Cond.selects RX11 yX11_cookMinutes yX11_cookMinutes, Cond.code yX11_cookMinutes cX11_cookMinutes 1 (some .int), Cond.methodLink RL 216 yX12_cookMinutes, Cond.instanceMethod yX12_cookMinutes, Cond.selects RX12 yX12_cookMinutes yX12_cookMinutes, Cond.code yX12_cookMinutes cX12_cookMinutes 1 (some .int), Cond.methodLink RL 217 yL_panCapacity, Cond.static yL_panCapacity, Cond.codeWith yL_panCapacity cL_panCapacity 4 (some .int) [(0, 9, 12, 31)], Cond.classLink RL 31 "java/lang/IndexOutOfBoundsException", Cond.methodLink RL 28 yX11_panCapacity]
def wsL_law0_r27 : List Cond := [Cond.instanceMethod yX11_panCapacity, Cond.selects RX11 yX11_panCapacity yX11_panCapacity, Cond.code yX11_panCapacity cX11_panCapacity 2 (some .int), Cond.methodLink RX11 179 yX11_requirePan, Cond.instanceMethod yX11_requirePan, Cond.selects RX11 yX11_requirePan yX11_requirePan, Cond.code yX11_requirePan cX11_requirePan 2 none, Cond.classLink RX11 237 "java/lang/IndexOutOfBoundsException", Cond.initialized "java/lang/IndexOutOfBoundsException", Cond.methodLink RL 219 yX12_panCapacity, Cond.instanceMethod yX12_panCapacity, Cond.selects RX12 yX12_panCapacity yX12_panCapacity, Cond.code yX12_panCapacity cX12_panCapacity 2 (some .int), Cond.methodLink RX12 301 yX12_isPan, Cond.instanceMethod yX12_isPan, Cond.selects RX12 yX12_isPan yX12_isPan, Cond.code yX12_isPan cX12_isPan 2 (some .boolean), Cond.methodLink RX12 116 yX12_capacity, Cond.instanceMethod yX12_capacity, Cond.selects RX12 yX12_capacity yX12_capacity, Cond.code yX12_capacity cX12_capacity 2 (some .int), Cond.methodLink RL 220 yL_pansInUse, Cond.static yL_pansInUse, Cond.codeWith yL_pansInUse cL_pansInUse 4 (some .int) [(0, 9, 12, 31)]]
def wsL_law0_r28 : List Cond := [Cond.methodLink RL 33 yX11_pansInUse, Cond.instanceMethod yX11_pansInUse, Cond.selects RX11 yX11_pansInUse yX11_pansInUse, Cond.code yX11_pansInUse cX11_pansInUse 2 (some .int), Cond.methodLink RX11 185 yX3_occupants, Cond.instanceMethod yX3_occupants, Cond.selects RX3 yX3_occupants yX3_occupants, Cond.code yX3_occupants cX3_occupants 7 (some .int), Cond.methodLink RX11 188 yJ6_bitCount_0f7a4, Cond.static yJ6_bitCount_0f7a4, Cond.initialized RJ6, Cond.code yJ6_bitCount_0f7a4 cJ6_bitCount_0f7a4 1 (some .int), Cond.constant RJ6 265 (1431655765), Cond.constant RJ6 266 (858993459), Cond.constant RJ6 267 (252645135), Cond.methodLink RL 222 yX12_pansInUse, Cond.instanceMethod yX12_pansInUse, Cond.selects RX12 yX12_pansInUse yX12_pansInUse, Cond.code yX12_pansInUse cX12_pansInUse 2 (some .int), Cond.methodLink RX12 113 yX12_usedPans, Cond.instanceMethod yX12_usedPans, Cond.selects RX12 yX12_usedPans yX12_usedPans, Cond.code yX12_usedPans cX12_usedPans 4 (some .int), Cond.methodLink RX12 110 yX12_occupies]
def wsL_law0_r29 : List Cond := [Cond.instanceMethod yX12_occupies, Cond.selects RX12 yX12_occupies yX12_occupies, Cond.code yX12_occupies cX12_occupies 3 (some .boolean), Cond.methodLink RX12 103 yX12_hasSuccessor, Cond.instanceMethod yX12_hasSuccessor, Cond.selects RX12 yX12_hasSuccessor yX12_hasSuccessor, Cond.code yX12_hasSuccessor cX12_hasSuccessor 5 (some .boolean), Cond.methodLink RX12 99 yX12_isPredecessor, Cond.instanceMethod yX12_isPredecessor, Cond.selects RX12 yX12_isPredecessor yX12_isPredecessor, Cond.code yX12_isPredecessor cX12_isPredecessor 4 (some .boolean), Cond.methodLink RL 223 yL_duration, Cond.static yL_duration, Cond.codeWith yL_duration cL_duration 4 (some .int) [(0, 9, 12, 31)], Cond.methodLink RL 36 yX11_duration, Cond.instanceMethod yX11_duration, Cond.selects RX11 yX11_duration yX11_duration, Cond.code yX11_duration cX11_duration 2 (some .int), Cond.methodLink RX11 193 yX11_requireStep, Cond.instanceMethod yX11_requireStep, Cond.selects RX11 yX11_requireStep yX11_requireStep, Cond.code yX11_requireStep cX11_requireStep 2 none, Cond.methodLink RL 225 yX12_duration, Cond.instanceMethod yX12_duration]
def wsL_law0_r30 : List Cond := [Cond.selects RX12 yX12_duration yX12_duration, Cond.code yX12_duration cX12_duration 2 (some .int), Cond.methodLink RX12 307 yX12_field, Cond.instanceMethod yX12_field, Cond.selects RX12 yX12_field yX12_field, Cond.code yX12_field cX12_field 3 (some .int), Cond.methodLink RX12 304 yX12_isStep, Cond.instanceMethod yX12_isStep, Cond.selects RX12 yX12_isStep yX12_isStep, Cond.code yX12_isStep cX12_isStep 2 (some .boolean), Cond.methodLink RL 226 yL_stepTaste, Cond.static yL_stepTaste, Cond.codeWith yL_stepTaste cL_stepTaste 4 (some .int) [(0, 9, 12, 31)], Cond.methodLink RL 39 yX11_stepTaste, Cond.instanceMethod yX11_stepTaste, Cond.selects RX11 yX11_stepTaste yX11_stepTaste, Cond.code yX11_stepTaste cX11_stepTaste 2 (some .int), Cond.methodLink RL 228 yX12_stepTaste, Cond.instanceMethod yX12_stepTaste, Cond.selects RX12 yX12_stepTaste yX12_stepTaste, Cond.code yX12_stepTaste cX12_stepTaste 2 (some .int), Cond.methodLink RL 229 yL_panType, Cond.static yL_panType, Cond.codeWith yL_panType cL_panType 4 (some .int) [(0, 9, 12, 31)]]
def wsL_law0_r31 : List Cond := [Cond.methodLink RL 42 yX11_panType, Cond.instanceMethod yX11_panType, Cond.selects RX11 yX11_panType yX11_panType, Cond.code yX11_panType cX11_panType 2 (some .int), Cond.methodLink RL 231 yX12_panType, Cond.instanceMethod yX12_panType, Cond.selects RX12 yX12_panType yX12_panType, Cond.code yX12_panType cX12_panType 2 (some .int), Cond.methodLink RL 232 yL_isHot, Cond.static yL_isHot, Cond.codeWith yL_isHot cL_isHot 4 (some .int) [(0, 16, 19, 31)], Cond.methodLink RL 45 yX11_isHot, Cond.instanceMethod yX11_isHot, Cond.selects RX11 yX11_isHot yX11_isHot, Cond.code yX11_isHot cX11_isHot 2 (some .boolean), Cond.methodLink RX11 208 yX11_contains, Cond.methodLink RL 234 yX12_isHot, Cond.instanceMethod yX12_isHot, Cond.selects RX12 yX12_isHot yX12_isHot, Cond.code yX12_isHot cX12_isHot 2 (some .boolean), Cond.methodLink RL 235 yL_isUnattended, Cond.static yL_isUnattended, Cond.codeWith yL_isUnattended cL_isUnattended 4 (some .int) [(0, 16, 19, 31)], Cond.methodLink RL 49 yX11_isUnattended]
def wsL_law0_r32 : List Cond := [Cond.instanceMethod yX11_isUnattended, Cond.selects RX11 yX11_isUnattended yX11_isUnattended, Cond.code yX11_isUnattended cX11_isUnattended 2 (some .boolean), Cond.methodLink RL 237 yX12_isUnattended, Cond.instanceMethod yX12_isUnattended, Cond.selects RX12 yX12_isUnattended yX12_isUnattended, Cond.code yX12_isUnattended cX12_isUnattended 2 (some .boolean), Cond.methodLink RL 238 yL_predecessor, Cond.static yL_predecessor, Cond.codeWith yL_predecessor cL_predecessor 5 (some .int) [(0, 10, 13, 31)], Cond.methodLink RL 52 yX11_predecessor, Cond.instanceMethod yX11_predecessor, Cond.selects RX11 yX11_predecessor yX11_predecessor, Cond.code yX11_predecessor cX11_predecessor 3 (some .int), Cond.methodLink RL 241 yX12_predecessor, Cond.instanceMethod yX12_predecessor, Cond.selects RX12 yX12_predecessor yX12_predecessor, Cond.code yX12_predecessor cX12_predecessor 3 (some .int), Cond.methodLink RL 242 yL_successorCount, Cond.static yL_successorCount, Cond.codeWith yL_successorCount cL_successorCount 4 (some .int) [(0, 9, 12, 31)], Cond.methodLink RL 56 yX11_successorCount, Cond.instanceMethod yX11_successorCount, Cond.selects RX11 yX11_successorCount yX11_successorCount]
def wsL_law0_r33 : List Cond := [Cond.code yX11_successorCount cX11_successorCount 2 (some .int), Cond.methodLink RL 244 yX12_successorCount, Cond.instanceMethod yX12_successorCount, Cond.selects RX12 yX12_successorCount yX12_successorCount, Cond.code yX12_successorCount cX12_successorCount 2 (some .int), Cond.methodLink RX12 310 yX12_successors, Cond.instanceMethod yX12_successors, Cond.selects RX12 yX12_successors yX12_successors, Cond.code yX12_successors cX12_successors 4 (some .int), Cond.methodLink RL 245 yL_dependsOn, Cond.static yL_dependsOn, Cond.codeWith yL_dependsOn cL_dependsOn 5 (some .int) [(0, 17, 20, 31)], Cond.methodLink RL 59 yX11_dependsOn, Cond.instanceMethod yX11_dependsOn, Cond.selects RX11 yX11_dependsOn yX11_dependsOn, Cond.code yX11_dependsOn cX11_dependsOn 3 (some .boolean), Cond.methodLink RX11 225 yX5_allBefore, Cond.instanceMethod yX5_allBefore, Cond.selects RX5 yX5_allBefore yX5_allBefore, Cond.code yX5_allBefore cX5_allBefore 4 (some .int), Cond.methodLink RL 247 yX12_dependsOn, Cond.instanceMethod yX12_dependsOn, Cond.selects RX12 yX12_dependsOn yX12_dependsOn, Cond.code yX12_dependsOn cX12_dependsOn 5 (some .boolean)]
def wsL_law0_r34 : List Cond := [Cond.methodLink RL 248 yL_pathLength, Cond.static yL_pathLength, Cond.codeWith yL_pathLength cL_pathLength 4 (some .int) [(0, 9, 12, 31)], Cond.methodLink RL 63 yX11_pathLength, Cond.instanceMethod yX11_pathLength, Cond.selects RX11 yX11_pathLength yX11_pathLength, Cond.code yX11_pathLength cX11_pathLength 2 (some .int), Cond.methodLink RX11 228 yX3_rank, Cond.instanceMethod yX3_rank, Cond.selects RX3 yX3_rank yX3_rank, Cond.code yX3_rank cX3_rank 3 none, Cond.methodLink RX3 159 yX3_longestOf, Cond.instanceMethod yX3_longestOf, Cond.selects RX3 yX3_longestOf yX3_longestOf, Cond.code yX3_longestOf cX3_longestOf 4 (some .int), Cond.methodLink RL 250 yX12_pathLength, Cond.instanceMethod yX12_pathLength, Cond.selects RX12 yX12_pathLength yX12_pathLength, Cond.code yX12_pathLength cX12_pathLength 2 (some .int), Cond.methodLink RX12 139 yX12_computePaths, Cond.instanceMethod yX12_computePaths, Cond.selects RX12 yX12_computePaths yX12_computePaths, Cond.code yX12_computePaths cX12_computePaths 4 none, Cond.methodLink RL 251 yL_nameLetter]
def wsL_law0_r35 : List Cond := [Cond.static yL_nameLetter, Cond.codeWith yL_nameLetter cL_nameLetter 5 (some .int) [(0, 10, 13, 31)], Cond.methodLink RL 66 yX11_nameLetter, Cond.instanceMethod yX11_nameLetter, Cond.selects RX11 yX11_nameLetter yX11_nameLetter, Cond.code yX11_nameLetter cX11_nameLetter 3 (some .int), Cond.methodLink RL 253 yX12_nameLetter, Cond.instanceMethod yX12_nameLetter, Cond.selects RX12 yX12_nameLetter yX12_nameLetter, Cond.code yX12_nameLetter cX12_nameLetter 3 (some .int), Cond.methodLink RL 254 yL_findStep, Cond.static yL_findStep, Cond.codeWith yL_findStep cL_findStep 3 (some .int) [(0, 8, 11, 72)], Cond.classLink RL 72 "java/util/NoSuchElementException", Cond.methodLink RL 69 yX11_findStep, Cond.instanceMethod yX11_findStep, Cond.selects RX11 yX11_findStep yX11_findStep, Cond.code yX11_findStep cX11_findStep 2 (some .int), Cond.classLink RX11 250 "java/util/NoSuchElementException", Cond.initialized "java/util/NoSuchElementException", Cond.methodLink RX11 246 yX4_indexOf, Cond.methodLink RL 256 yX12_findStep, Cond.instanceMethod yX12_findStep, Cond.selects RX12 yX12_findStep yX12_findStep]
def wsL_law0_r36 : List Cond := [Cond.code yX12_findStep cX12_findStep 2 (some .int), Cond.methodLink RL 257 yL_status, Cond.static yL_status, Cond.codeWith yL_status cL_status 4 (some .int) [(0, 9, 12, 31)], Cond.methodLink RL 74 yX11_status, Cond.instanceMethod yX11_status, Cond.selects RX11 yX11_status yX11_status, Cond.code yX11_status cX11_status 2 (some .int), Cond.methodLink RL 259 yX12_status, Cond.instanceMethod yX12_status, Cond.selects RX12 yX12_status yX12_status, Cond.code yX12_status cX12_status 2 (some .int), Cond.methodLink RL 260 yL_remaining, Cond.static yL_remaining, Cond.codeWith yL_remaining cL_remaining 4 (some .int) [(0, 9, 12, 31)], Cond.methodLink RL 77 yX11_remaining, Cond.instanceMethod yX11_remaining, Cond.selects RX11 yX11_remaining yX11_remaining, Cond.code yX11_remaining cX11_remaining 2 (some .int), Cond.methodLink RL 262 yX12_remaining, Cond.instanceMethod yX12_remaining, Cond.selects RX12 yX12_remaining yX12_remaining, Cond.code yX12_remaining cX12_remaining 2 (some .int), Cond.methodLink RL 263 yL_age]
def wsL_law0_r37 : List Cond := [Cond.static yL_age, Cond.codeWith yL_age cL_age 4 (some .int) [(0, 9, 12, 31)], Cond.methodLink RL 80 yX11_age, Cond.instanceMethod yX11_age, Cond.selects RX11 yX11_age yX11_age, Cond.code yX11_age cX11_age 2 (some .int), Cond.methodLink RL 265 yX12_age, Cond.instanceMethod yX12_age, Cond.selects RX12 yX12_age yX12_age, Cond.code yX12_age cX12_age 2 (some .int), Cond.methodLink RL 266 yL_startsOf, Cond.static yL_startsOf, Cond.codeWith yL_startsOf cL_startsOf 4 (some .int) [(0, 9, 12, 31)], Cond.methodLink RL 83 yX11_startsOf, Cond.instanceMethod yX11_startsOf, Cond.selects RX11 yX11_startsOf yX11_startsOf, Cond.code yX11_startsOf cX11_startsOf 2 (some .int), Cond.methodLink RL 268 yX12_startsOf, Cond.instanceMethod yX12_startsOf, Cond.selects RX12 yX12_startsOf yX12_startsOf, Cond.code yX12_startsOf cX12_startsOf 2 (some .int), Cond.methodLink RL 269 yL_isTakenUp, Cond.static yL_isTakenUp, Cond.codeWith yL_isTakenUp cL_isTakenUp 4 (some .int) [(0, 16, 19, 31)]]
def wsL_law0_r38 : List Cond := [Cond.methodLink RL 86 yX11_isTakenUp, Cond.instanceMethod yX11_isTakenUp, Cond.selects RX11 yX11_isTakenUp yX11_isTakenUp, Cond.code yX11_isTakenUp cX11_isTakenUp 2 (some .boolean), Cond.methodLink RX11 264 yX3_isContinued, Cond.instanceMethod yX3_isContinued, Cond.selects RX3 yX3_isContinued yX3_isContinued, Cond.code yX3_isContinued cX3_isContinued 2 (some .boolean), Cond.methodLink RL 271 yX12_isTakenUp, Cond.instanceMethod yX12_isTakenUp, Cond.selects RX12 yX12_isTakenUp yX12_isTakenUp, Cond.code yX12_isTakenUp cX12_isTakenUp 2 (some .boolean), Cond.methodLink RX12 130 yX12_isTaken, Cond.instanceMethod yX12_isTaken, Cond.selects RX12 yX12_isTaken yX12_isTaken, Cond.code yX12_isTaken cX12_isTaken 2 (some .boolean), Cond.methodLink RL 272 yX11_readyStep, Cond.instanceMethod yX11_readyStep, Cond.selects RX11 yX11_readyStep yX11_readyStep, Cond.code yX11_readyStep cX11_readyStep 2 (some .int), Cond.methodLink RX11 268 yX3_readyAt, Cond.instanceMethod yX3_readyAt, Cond.selects RX3 yX3_readyAt yX3_readyAt, Cond.code yX3_readyAt cX3_readyAt 5 (some .int)]
def wsL_law0_r39 : List Cond := [Cond.methodLink RX3 40 yX3_rank, Cond.methodLink RX3 126 yX3_readySteps, Cond.instanceMethod yX3_readySteps, Cond.selects RX3 yX3_readySteps yX3_readySteps, Cond.code yX3_readySteps cX3_readySteps 4 (some .int), Cond.methodLink RX3 51 yX5_allSteps, Cond.instanceMethod yX5_allSteps, Cond.selects RX5 yX5_allSteps yX5_allSteps, Cond.code yX5_allSteps cX5_allSteps 1 (some .int), Cond.methodLink RL 275 yX12_readyStep, Cond.instanceMethod yX12_readyStep, Cond.selects RX12 yX12_readyStep yX12_readyStep, Cond.code yX12_readyStep cX12_readyStep 2 (some .int), Cond.methodLink RX12 152 yX12_queueReady, Cond.instanceMethod yX12_queueReady, Cond.selects RX12 yX12_queueReady yX12_queueReady, Cond.code yX12_queueReady cX12_queueReady 4 (some .int), Cond.methodLink RX12 142 yX12_isReady, Cond.instanceMethod yX12_isReady, Cond.selects RX12 yX12_isReady yX12_isReady, Cond.code yX12_isReady cX12_isReady 2 (some .boolean), Cond.methodLink RX12 106 yX12_firstOpen, Cond.instanceMethod yX12_firstOpen, Cond.selects RX12 yX12_firstOpen yX12_firstOpen]
def wsL_law0_r40 : List Cond := [Cond.code yX12_firstOpen cX12_firstOpen 3 (some .int), Cond.methodLink RL 276 yL_whyNotRunning, Cond.static yL_whyNotRunning, Cond.codeWith yL_whyNotRunning cL_whyNotRunning 4 (some .int) [(0, 9, 12, 31)], Cond.methodLink RL 89 yX11_whyNotRunning, Cond.instanceMethod yX11_whyNotRunning, Cond.selects RX11 yX11_whyNotRunning yX11_whyNotRunning, Cond.code yX11_whyNotRunning cX11_whyNotRunning 2 (some .int), Cond.methodLink RX11 271 yX3_obstacle, Cond.instanceMethod yX3_obstacle, Cond.selects RX3 yX3_obstacle yX3_obstacle, Cond.code yX3_obstacle cX3_obstacle 2 (some .int), Cond.methodLink RX3 132 yX3_hasFreePan, Cond.instanceMethod yX3_hasFreePan, Cond.selects RX3 yX3_hasFreePan yX3_hasFreePan, Cond.code yX3_hasFreePan cX3_hasFreePan 3 (some .boolean), Cond.methodLink RX3 150 yX3_occupants, Cond.methodLink RX3 76 yJ6_bitCount_0f7a4, Cond.methodLink RX3 129 yX3_hasFreeCook, Cond.instanceMethod yX3_hasFreeCook, Cond.selects RX3 yX3_hasFreeCook yX3_hasFreeCook, Cond.code yX3_hasFreeCook cX3_hasFreeCook 2 (some .boolean), Cond.methodLink RL 278 yX12_whyNotRunning, Cond.instanceMethod yX12_whyNotRunning]
def wsL_law0_r41 : List Cond := [Cond.selects RX12 yX12_whyNotRunning yX12_whyNotRunning, Cond.code yX12_whyNotRunning cX12_whyNotRunning 2 (some .int), Cond.methodLink RX12 313 yX12_reasonFor, Cond.instanceMethod yX12_reasonFor, Cond.selects RX12 yX12_reasonFor yX12_reasonFor, Cond.code yX12_reasonFor cX12_reasonFor 2 (some .int), Cond.methodLink RX12 136 yX12_hasPan, Cond.instanceMethod yX12_hasPan, Cond.selects RX12 yX12_hasPan yX12_hasPan, Cond.code yX12_hasPan cX12_hasPan 3 (some .boolean), Cond.methodLink RX12 133 yX12_hasCook, Cond.instanceMethod yX12_hasCook, Cond.selects RX12 yX12_hasCook yX12_hasCook, Cond.code yX12_hasCook cX12_hasCook 4 (some .boolean), Cond.methodLink RX12 119 yX12_isCooked, Cond.instanceMethod yX12_isCooked, Cond.selects RX12 yX12_isCooked yX12_isCooked, Cond.code yX12_isCooked cX12_isCooked 2 (some .boolean), Cond.methodLink RL 279 yL_blockingStep, Cond.static yL_blockingStep, Cond.codeWith yL_blockingStep cL_blockingStep 4 (some .int) [(0, 9, 12, 31)], Cond.methodLink RL 92 yX11_blockingStep, Cond.instanceMethod yX11_blockingStep, Cond.selects RX11 yX11_blockingStep yX11_blockingStep]
def wsL_law0_r42 : List Cond := [Cond.code yX11_blockingStep cX11_blockingStep 2 (some .int), Cond.methodLink RX11 274 yX3_blocker, Cond.instanceMethod yX3_blocker, Cond.selects RX3 yX3_blocker yX3_blocker, Cond.code yX3_blocker cX3_blocker 2 (some .int), Cond.methodLink RX3 175 yX3_obstacle, Cond.methodLink RX3 178 yX3_missingBefore, Cond.instanceMethod yX3_missingBefore, Cond.selects RX3 yX3_missingBefore yX3_missingBefore, Cond.code yX3_missingBefore cX3_missingBefore 4 (some .int), Cond.static yX11_lowestOf, Cond.code yX11_lowestOf cX11_lowestOf 2 (some .int), Cond.methodLink RL 281 yX12_blockingStep, Cond.instanceMethod yX12_blockingStep, Cond.selects RX12 yX12_blockingStep yX12_blockingStep, Cond.code yX12_blockingStep cX12_blockingStep 2 (some .int), Cond.methodLink RX12 316 yX12_blocker, Cond.instanceMethod yX12_blocker, Cond.selects RX12 yX12_blocker yX12_blocker, Cond.code yX12_blocker cX12_blocker 4 (some .int), Cond.methodLink RL 282 yL_rootBlocker, Cond.static yL_rootBlocker, Cond.codeWith yL_rootBlocker cL_rootBlocker 4 (some .int) [(0, 9, 12, 31)], Cond.methodLink RL 95 yX11_rootBlocker]
def wsL_law0_r43 : List Cond := [Cond.instanceMethod yX11_rootBlocker, Cond.selects RX11 yX11_rootBlocker yX11_rootBlocker, Cond.code yX11_rootBlocker cX11_rootBlocker 2 (some .int), Cond.methodLink RX11 277 yX3_deepestMissing, Cond.instanceMethod yX3_deepestMissing, Cond.selects RX3 yX3_deepestMissing yX3_deepestMissing, Cond.code yX3_deepestMissing cX3_deepestMissing 5 (some .int), Cond.methodLink RL 284 yX12_rootBlocker, Cond.instanceMethod yX12_rootBlocker, Cond.selects RX12 yX12_rootBlocker yX12_rootBlocker, Cond.code yX12_rootBlocker cX12_rootBlocker 4 (some .int), Cond.methodLink RL 285 yX11_whyNotServed, Cond.instanceMethod yX11_whyNotServed, Cond.selects RX11 yX11_whyNotServed yX11_whyNotServed, Cond.code yX11_whyNotServed cX11_whyNotServed 1 (some .int), Cond.methodLink RX11 280 yX3_servingObstacle, Cond.instanceMethod yX3_servingObstacle, Cond.selects RX3 yX3_servingObstacle yX3_servingObstacle, Cond.code yX3_servingObstacle cX3_servingObstacle 1 (some .int), Cond.methodLink RX3 200 yX3_dishTaste, Cond.methodLink RL 288 yX12_whyNotServed, Cond.instanceMethod yX12_whyNotServed, Cond.selects RX12 yX12_whyNotServed yX12_whyNotServed, Cond.code yX12_whyNotServed cX12_whyNotServed 1 (some .int)]
def wsL_law0_r44 : List Cond := [Cond.methodLink RX12 274 yX12_servingReason, Cond.instanceMethod yX12_servingReason, Cond.selects RX12 yX12_servingReason yX12_servingReason, Cond.code yX12_servingReason cX12_servingReason 1 (some .int), Cond.methodLink RX12 161 yX12_isFinished, Cond.instanceMethod yX12_isFinished, Cond.selects RX12 yX12_isFinished yX12_isFinished, Cond.code yX12_isFinished cX12_isFinished 1 (some .boolean), Cond.methodLink RL 289 yX11_criticalStep, Cond.instanceMethod yX11_criticalStep, Cond.selects RX11 yX11_criticalStep yX11_criticalStep, Cond.code yX11_criticalStep cX11_criticalStep 2 (some .int), Cond.methodLink RX11 283 yX3_criticalAt, Cond.instanceMethod yX3_criticalAt, Cond.selects RX3 yX3_criticalAt yX3_criticalAt, Cond.code yX3_criticalAt cX3_criticalAt 4 (some .int), Cond.methodLink RL 292 yX12_criticalStep, Cond.instanceMethod yX12_criticalStep, Cond.selects RX12 yX12_criticalStep yX12_criticalStep, Cond.code yX12_criticalStep cX12_criticalStep 7 (some .int), Cond.methodLink RL 293 yL_slack, Cond.static yL_slack, Cond.codeWith yL_slack cL_slack 4 (some .int) [(0, 9, 12, 31)], Cond.methodLink RL 98 yX11_slack]
def wsL_law0_r45 : List Cond := [Cond.instanceMethod yX11_slack, Cond.selects RX11 yX11_slack yX11_slack, Cond.code yX11_slack cX11_slack 2 (some .int), Cond.methodLink RX11 286 yX3_spareMinutes, Cond.instanceMethod yX3_spareMinutes, Cond.selects RX3 yX3_spareMinutes yX3_spareMinutes, Cond.code yX3_spareMinutes cX3_spareMinutes 5 (some .int), Cond.methodLink RX3 169 Lib.Math.max.name, Cond.static Lib.Math.max.name, Cond.initialized "java/lang/Math", Cond.code Lib.Math.max.name Lib.Math.max.code 2 (some .int), Cond.methodLink RL 295 yX12_slack, Cond.instanceMethod yX12_slack, Cond.selects RX12 yX12_slack yX12_slack, Cond.code yX12_slack cX12_slack 2 (some .int), Cond.methodLink RX12 319 yX12_computeHeads, Cond.instanceMethod yX12_computeHeads, Cond.selects RX12 yX12_computeHeads yX12_computeHeads, Cond.code yX12_computeHeads cX12_computeHeads 4 none, Cond.methodLink RX12 322 yX12_longestPath, Cond.instanceMethod yX12_longestPath, Cond.selects RX12 yX12_longestPath yX12_longestPath, Cond.code yX12_longestPath cX12_longestPath 3 (some .int), Cond.methodLink RL 296 yX11_minutesToFinish]
def wsL_law0_r46 : List Cond := [Cond.instanceMethod yX11_minutesToFinish, Cond.selects RX11 yX11_minutesToFinish yX11_minutesToFinish, Cond.code yX11_minutesToFinish cX11_minutesToFinish 1 (some .int), Cond.methodLink RX11 289 yX3_copyFrom, Cond.instanceMethod yX3_copyFrom, Cond.selects RX3 yX3_copyFrom yX3_copyFrom, Cond.code yX3_copyFrom cX3_copyFrom 2 none, Cond.methodLink RX3 36 yX8_copyFrom, Cond.instanceMethod yX8_copyFrom, Cond.selects RX8 yX8_copyFrom yX8_copyFrom, Cond.code yX8_copyFrom cX8_copyFrom 2 none, Cond.methodLink RX11 293 yX3_runToFinish, Cond.instanceMethod yX3_runToFinish, Cond.selects RX3 yX3_runToFinish yX3_runToFinish, Cond.code yX3_runToFinish cX3_runToFinish 2 (some .int), Cond.methodLink RX3 43 yX3_runMinute, Cond.instanceMethod yX3_runMinute, Cond.selects RX3 yX3_runMinute yX3_runMinute, Cond.code yX3_runMinute cX3_runMinute 2 (some .int), Cond.methodLink RX3 63 yX3_work, Cond.instanceMethod yX3_work, Cond.selects RX3 yX3_work yX3_work, Cond.code yX3_work cX3_work 4 (some .int), Cond.methodLink RX3 107 yX8_complete]
def wsL_law0_r47 : List Cond := [Cond.instanceMethod yX8_complete, Cond.selects RX8 yX8_complete yX8_complete, Cond.code yX8_complete cX8_complete 2 none, Cond.methodLink RX3 66 yX3_growOld, Cond.instanceMethod yX3_growOld, Cond.selects RX3 yX3_growOld yX3_growOld, Cond.code yX3_growOld cX3_growOld 4 none, Cond.methodLink RX3 113 yX3_isContinued, Cond.methodLink RX3 123 yX8_burn, Cond.instanceMethod yX8_burn, Cond.selects RX8 yX8_burn yX8_burn, Cond.code yX8_burn cX8_burn 2 none, Cond.methodLink RX3 70 yX3_startSteps, Cond.instanceMethod yX3_startSteps, Cond.selects RX3 yX3_startSteps yX3_startSteps, Cond.code yX3_startSteps cX3_startSteps 4 none, Cond.methodLink RX3 135 yX8_start, Cond.instanceMethod yX8_start, Cond.selects RX8 yX8_start yX8_start, Cond.code yX8_start cX8_start 2 none, Cond.methodLink RL 299 yX12_minutesToFinish, Cond.instanceMethod yX12_minutesToFinish, Cond.selects RX12 yX12_minutesToFinish yX12_minutesToFinish, Cond.code yX12_minutesToFinish cX12_minutesToFinish 2 (some .int)]
def wsL_law0_r48 : List Cond := [Cond.methodLink RX12 325 yX12_simulate, Cond.instanceMethod yX12_simulate, Cond.selects RX12 yX12_simulate yX12_simulate, Cond.code yX12_simulate cX12_simulate 2 (some .int), Cond.methodLink RX12 158 yX12_passMinute, Cond.instanceMethod yX12_passMinute, Cond.selects RX12 yX12_passMinute yX12_passMinute, Cond.code yX12_passMinute cX12_passMinute 3 none, Cond.methodLink RX12 145 yX12_work, Cond.instanceMethod yX12_work, Cond.selects RX12 yX12_work yX12_work, Cond.code yX12_work cX12_work 2 none, Cond.methodLink RX12 126 yX12_set, Cond.instanceMethod yX12_set, Cond.selects RX12 yX12_set yX12_set, Cond.code yX12_set cX12_set 4 none, Cond.methodLink RX12 149 yX12_cool, Cond.instanceMethod yX12_cool, Cond.selects RX12 yX12_cool yX12_cool, Cond.code yX12_cool cX12_cool 2 none, Cond.methodLink RX12 155 yX12_startIfPossible, Cond.instanceMethod yX12_startIfPossible, Cond.selects RX12 yX12_startIfPossible yX12_startIfPossible, Cond.code yX12_startIfPossible cX12_startIfPossible 2 none]
def wsL_law0_r49 : List Cond := [Cond.methodLink RL 300 yL_statusAfter, Cond.static yL_statusAfter, Cond.codeWith yL_statusAfter cL_statusAfter 5 (some .int) [(0, 10, 13, 31), (0, 10, 17, 19)], Cond.methodLink RL 101 yX11_statusAfter, Cond.instanceMethod yX11_statusAfter, Cond.selects RX11 yX11_statusAfter yX11_statusAfter, Cond.code yX11_statusAfter cX11_statusAfter 3 (some .int), Cond.methodLink RX11 298 yX3_runMinutes, Cond.instanceMethod yX3_runMinutes, Cond.selects RX3 yX3_runMinutes yX3_runMinutes, Cond.code yX3_runMinutes cX3_runMinutes 4 (some .int), Cond.methodLink RL 302 yX12_statusAfter, Cond.instanceMethod yX12_statusAfter, Cond.selects RX12 yX12_statusAfter yX12_statusAfter, Cond.code yX12_statusAfter cX12_statusAfter 4 (some .int), Cond.methodLink RX12 277 yX12_passMinutes, Cond.instanceMethod yX12_passMinutes, Cond.selects RX12 yX12_passMinutes yX12_passMinutes, Cond.code yX12_passMinutes cX12_passMinutes 4 (some .int), Cond.methodLink RL 303 yL_minutesToBurn, Cond.static yL_minutesToBurn, Cond.codeWith yL_minutesToBurn cL_minutesToBurn 4 (some .int) [(0, 9, 12, 31)], Cond.methodLink RL 104 yX11_minutesToBurn, Cond.instanceMethod yX11_minutesToBurn]
def wsL_law0_r50 : List Cond := [Cond.selects RX11 yX11_minutesToBurn yX11_minutesToBurn, Cond.code yX11_minutesToBurn cX11_minutesToBurn 2 (some .int), Cond.methodLink RX11 301 yX3_runToBurn, Cond.instanceMethod yX3_runToBurn, Cond.selects RX3 yX3_runToBurn yX3_runToBurn, Cond.code yX3_runToBurn cX3_runToBurn 4 (some .int), Cond.methodLink RL 305 yX12_minutesToBurn, Cond.instanceMethod yX12_minutesToBurn, Cond.selects RX12 yX12_minutesToBurn yX12_minutesToBurn, Cond.code yX12_minutesToBurn cX12_minutesToBurn 5 (some .int), Cond.methodLink RL 306 yL_minutesWithCooks, Cond.static yL_minutesWithCooks, Cond.codeWith yL_minutesWithCooks cL_minutesWithCooks 4 (some .int) [(0, 9, 12, 19)], Cond.methodLink RL 107 yX11_minutesWithCooks, Cond.instanceMethod yX11_minutesWithCooks, Cond.selects RX11 yX11_minutesWithCooks yX11_minutesWithCooks, Cond.code yX11_minutesWithCooks cX11_minutesWithCooks 2 (some .int), Cond.methodLink RX11 304 yX11_requireCooks, Cond.instanceMethod yX11_requireCooks, Cond.selects RX11 yX11_requireCooks yX11_requireCooks, Cond.code yX11_requireCooks cX11_requireCooks 2 none, Cond.methodLink RX11 432 yX11_isCookCount, Cond.instanceMethod yX11_isCookCount, Cond.selects RX11 yX11_isCookCount yX11_isCookCount]
def wsL_law0_r51 : List Cond := [Cond.code yX11_isCookCount cX11_isCookCount 2 (some .boolean), Cond.methodLink RX11 307 yX11_finishWithCooks, Cond.instanceMethod yX11_finishWithCooks, Cond.selects RX11 yX11_finishWithCooks yX11_finishWithCooks, Cond.code yX11_finishWithCooks cX11_finishWithCooks 2 (some .int), Cond.methodLink RL 308 yX12_minutesWithCooks, Cond.instanceMethod yX12_minutesWithCooks, Cond.selects RX12 yX12_minutesWithCooks yX12_minutesWithCooks, Cond.code yX12_minutesWithCooks cX12_minutesWithCooks 2 (some .int), Cond.methodLink RX12 328 yX12_finishWith, Cond.instanceMethod yX12_finishWith, Cond.selects RX12 yX12_finishWith yX12_finishWith, Cond.code yX12_finishWith cX12_finishWith 3 (some .int), Cond.methodLink RL 309 yX11_fewestCooks, Cond.instanceMethod yX11_fewestCooks, Cond.selects RX11 yX11_fewestCooks yX11_fewestCooks, Cond.code yX11_fewestCooks cX11_fewestCooks 3 (some .int), Cond.methodLink RL 312 yX12_fewestCooks, Cond.instanceMethod yX12_fewestCooks, Cond.selects RX12 yX12_fewestCooks yX12_fewestCooks, Cond.code yX12_fewestCooks cX12_fewestCooks 3 (some .int), Cond.methodLink RL 313 yL_bottleneck, Cond.static yL_bottleneck, Cond.codeWith yL_bottleneck cL_bottleneck 3 (some .int) [(0, 8, 11, 72)]]
def wsL_law0_r52 : List Cond := [Cond.methodLink RL 110 yX11_bottleneck, Cond.instanceMethod yX11_bottleneck, Cond.selects RX11 yX11_bottleneck yX11_bottleneck, Cond.code yX11_bottleneck cX11_bottleneck 5 (some .int), Cond.methodLink RX11 310 yX11_finishWithShorter, Cond.instanceMethod yX11_finishWithShorter, Cond.selects RX11 yX11_finishWithShorter yX11_finishWithShorter, Cond.code yX11_finishWithShorter cX11_finishWithShorter 3 (some .int), Cond.methodLink RL 315 yX12_bottleneck, Cond.instanceMethod yX12_bottleneck, Cond.selects RX12 yX12_bottleneck yX12_bottleneck, Cond.code yX12_bottleneck cX12_bottleneck 5 (some .int), Cond.methodLink RL 316 yX11_saltNeeded, Cond.instanceMethod yX11_saltNeeded, Cond.selects RX11 yX11_saltNeeded yX11_saltNeeded, Cond.code yX11_saltNeeded cX11_saltNeeded 2 (some .int), Cond.methodLink RL 319 yX12_saltNeeded, Cond.instanceMethod yX12_saltNeeded, Cond.selects RX12 yX12_saltNeeded yX12_saltNeeded, Cond.code yX12_saltNeeded cX12_saltNeeded 3 (some .int), Cond.methodLink RL 320 yX11_doneShare, Cond.instanceMethod yX11_doneShare, Cond.selects RX11 yX11_doneShare yX11_doneShare, Cond.code yX11_doneShare cX11_doneShare 1 (some .float)]
def wsL_law0_r53 : List Cond := [Cond.methodLink RL 324 yX12_doneShare, Cond.instanceMethod yX12_doneShare, Cond.selects RX12 yX12_doneShare yX12_doneShare, Cond.code yX12_doneShare cX12_doneShare 1 (some .float), Cond.methodLink RL 325 yX11_meanDuration, Cond.instanceMethod yX11_meanDuration, Cond.selects RX11 yX11_meanDuration yX11_meanDuration, Cond.code yX11_meanDuration cX11_meanDuration 2 (some .double), Cond.methodLink RL 329 yX12_meanDuration, Cond.instanceMethod yX12_meanDuration, Cond.selects RX12 yX12_meanDuration yX12_meanDuration, Cond.code yX12_meanDuration cX12_meanDuration 3 (some .double), Cond.methodLink RL 330 yX11_inconsistencies, Cond.instanceMethod yX11_inconsistencies, Cond.selects RX11 yX11_inconsistencies yX11_inconsistencies, Cond.code yX11_inconsistencies cX11_inconsistencies 3 (some .int), Cond.methodLink RX11 327 yX3_prematureSteps, Cond.instanceMethod yX3_prematureSteps, Cond.selects RX3 yX3_prematureSteps yX3_prematureSteps, Cond.code yX3_prematureSteps cX3_prematureSteps 4 (some .int), Cond.methodLink RL 333 yX12_inconsistencies, Cond.instanceMethod yX12_inconsistencies, Cond.selects RX12 yX12_inconsistencies yX12_inconsistencies, Cond.code yX12_inconsistencies cX12_inconsistencies 5 (some .int)]
def wsL_law0_r54 : List Cond := [Cond.methodLink RL 334 yL_pass, Cond.static yL_pass, Cond.codeWith yL_pass cL_pass 4 (some .int) [(0, 9, 12, 19), (0, 9, 15, 13)], Cond.methodLink RL 113 yX11_pass, Cond.instanceMethod yX11_pass, Cond.selects RX11 yX11_pass yX11_pass, Cond.code yX11_pass cX11_pass 2 (some .int), Cond.methodLink RX11 330 yX11_isPassLength, Cond.instanceMethod yX11_isPassLength, Cond.selects RX11 yX11_isPassLength yX11_isPassLength, Cond.code yX11_isPassLength cX11_isPassLength 2 (some .boolean), Cond.methodLink RX11 333 yX11_fitsClock, Cond.instanceMethod yX11_fitsClock, Cond.selects RX11 yX11_fitsClock yX11_fitsClock, Cond.code yX11_fitsClock cX11_fitsClock 2 (some .boolean), Cond.methodLink RX11 338 yX2_push, Cond.instanceMethod yX2_push, Cond.selects RX2 yX2_push yX2_push, Cond.code yX2_push cX2_push 2 none, Cond.fieldLink RX2 18 "RecipeScheduler$History" "next" "I", Cond.fieldLink RX2 26 "RecipeScheduler$History" "count" "I", Cond.methodLink RX2 29 Lib.Math.min.name, Cond.static Lib.Math.min.name, Cond.code Lib.Math.min.name Lib.Math.min.code 2 (some .int)]
def wsL_law0_r55 : List Cond := [Cond.methodLink RX2 22 yX8_copyFrom, Cond.methodLink RL 336 yX12_pass, Cond.instanceMethod yX12_pass, Cond.selects RX12 yX12_pass yX12_pass, Cond.code yX12_pass cX12_pass 3 (some .int), Cond.methodLink RX12 289 yX12_remember, Cond.instanceMethod yX12_remember, Cond.selects RX12 yX12_remember yX12_remember, Cond.code yX12_remember cX12_remember 3 none, Cond.methodLink RL 337 yL_addSalt, Cond.static yL_addSalt, Cond.codeWith yL_addSalt cL_addSalt 4 (some .int) [(0, 9, 12, 19), (0, 9, 15, 13)], Cond.methodLink RL 116 yX11_addSalt, Cond.instanceMethod yX11_addSalt, Cond.selects RX11 yX11_addSalt yX11_addSalt, Cond.code yX11_addSalt cX11_addSalt 2 (some .int), Cond.methodLink RX11 342 yX11_isSaltAmount, Cond.instanceMethod yX11_isSaltAmount, Cond.selects RX11 yX11_isSaltAmount yX11_isSaltAmount, Cond.code yX11_isSaltAmount cX11_isSaltAmount 2 (some .boolean), Cond.methodLink RL 339 yX12_addSalt, Cond.instanceMethod yX12_addSalt, Cond.selects RX12 yX12_addSalt yX12_addSalt, Cond.code yX12_addSalt cX12_addSalt 2 (some .int)]
def wsL_law0_r56 : List Cond := [Cond.methodLink RL 340 yL_stop, Cond.static yL_stop, Cond.codeWith yL_stop cL_stop 4 (some .int) [(0, 9, 12, 31), (0, 9, 15, 13)], Cond.methodLink RL 119 yX11_stop, Cond.instanceMethod yX11_stop, Cond.selects RX11 yX11_stop yX11_stop, Cond.code yX11_stop cX11_stop 2 (some .int), Cond.methodLink RX11 355 yX8_halt, Cond.instanceMethod yX8_halt, Cond.selects RX8 yX8_halt yX8_halt, Cond.code yX8_halt cX8_halt 3 (some .int), Cond.methodLink RL 342 yX12_stop, Cond.instanceMethod yX12_stop, Cond.selects RX12 yX12_stop yX12_stop, Cond.code yX12_stop cX12_stop 3 (some .int), Cond.methodLink RX12 280 yX12_stopIt, Cond.instanceMethod yX12_stopIt, Cond.selects RX12 yX12_stopIt yX12_stopIt, Cond.code yX12_stopIt cX12_stopIt 3 (some .int), Cond.methodLink RL 343 yL_redo, Cond.static yL_redo, Cond.codeWith yL_redo cL_redo 4 (some .int) [(0, 9, 12, 31), (0, 9, 15, 13)], Cond.methodLink RL 122 yX11_redo, Cond.instanceMethod yX11_redo]
def wsL_law0_r57 : List Cond := [Cond.selects RX11 yX11_redo yX11_redo, Cond.code yX11_redo cX11_redo 2 (some .int), Cond.methodLink RX11 358 yX3_isRedoable, Cond.instanceMethod yX3_isRedoable, Cond.selects RX3 yX3_isRedoable yX3_isRedoable, Cond.code yX3_isRedoable cX3_isRedoable 2 (some .boolean), Cond.methodLink RX11 363 yX8_discard, Cond.instanceMethod yX8_discard, Cond.selects RX8 yX8_discard yX8_discard, Cond.code yX8_discard cX8_discard 3 (some .int), Cond.methodLink RL 345 yX12_redo, Cond.instanceMethod yX12_redo, Cond.selects RX12 yX12_redo yX12_redo, Cond.code yX12_redo cX12_redo 3 (some .int), Cond.methodLink RX12 271 yX12_canRedo, Cond.instanceMethod yX12_canRedo, Cond.selects RX12 yX12_canRedo yX12_canRedo, Cond.code yX12_canRedo cX12_canRedo 2 (some .boolean), Cond.methodLink RX12 283 yX12_redoIt, Cond.instanceMethod yX12_redoIt, Cond.selects RX12 yX12_redoIt yX12_redoIt, Cond.code yX12_redoIt cX12_redoIt 3 (some .int), Cond.methodLink RL 346 yL_setCooks, Cond.static yL_setCooks]
def wsL_law0_r58 : List Cond := [Cond.codeWith yL_setCooks cL_setCooks 4 (some .int) [(0, 9, 12, 19)], Cond.methodLink RL 125 yX11_setCooks, Cond.instanceMethod yX11_setCooks, Cond.selects RX11 yX11_setCooks yX11_setCooks, Cond.code yX11_setCooks cX11_setCooks 3 (some .int), Cond.methodLink RL 348 yX12_setCooks, Cond.instanceMethod yX12_setCooks, Cond.selects RX12 yX12_setCooks yX12_setCooks, Cond.code yX12_setCooks cX12_setCooks 3 (some .int), Cond.methodLink RL 349 yL_setDuration, Cond.static yL_setDuration, Cond.codeWith yL_setDuration cL_setDuration 5 (some .int) [(0, 10, 13, 31), (0, 10, 17, 19)], Cond.methodLink RL 128 yX11_setDuration, Cond.instanceMethod yX11_setDuration, Cond.selects RX11 yX11_setDuration yX11_setDuration, Cond.code yX11_setDuration cX11_setDuration 4 (some .int), Cond.methodLink RX11 366 yX11_isDuration, Cond.instanceMethod yX11_isDuration, Cond.selects RX11 yX11_isDuration yX11_isDuration, Cond.code yX11_isDuration cX11_isDuration 2 (some .boolean), Cond.methodLink RL 351 yX12_setDuration, Cond.instanceMethod yX12_setDuration, Cond.selects RX12 yX12_setDuration yX12_setDuration, Cond.code yX12_setDuration cX12_setDuration 4 (some .int)]
def wsL_law0_r59 : List Cond := [Cond.methodLink RL 352 yL_serve, Cond.static yL_serve, Cond.codeWith yL_serve cL_serve 3 (some .int) [(0, 8, 11, 13)], Cond.methodLink RL 131 yX11_serve, Cond.instanceMethod yX11_serve, Cond.selects RX11 yX11_serve yX11_serve, Cond.code yX11_serve cX11_serve 1 (some .int), Cond.methodLink RL 354 yX12_serve, Cond.instanceMethod yX12_serve, Cond.selects RX12 yX12_serve yX12_serve, Cond.code yX12_serve cX12_serve 1 (some .int), Cond.methodLink RL 355 yL_runScript, Cond.static yL_runScript, Cond.codeWith yL_runScript cL_runScript 3 (some .int) [(0, 8, 11, 19)], Cond.methodLink RL 134 yX11_runScript, Cond.instanceMethod yX11_runScript, Cond.selects RX11 yX11_runScript yX11_runScript, Cond.code yX11_runScript cX11_runScript 5 (some .int), Cond.methodLink RX11 373 yX6_read, Cond.instanceMethod yX6_read, Cond.selects RX6 yX6_read yX6_read, Cond.code yX6_read cX6_read 3 none, Cond.fieldLink RX6 28 "RecipeScheduler$ScriptReader" "count" "I", Cond.methodLink RX6 32 yX10_begin]
def wsL_law0_r60 : List Cond := [Cond.methodLink RX6 37 yX10_mayGoOn, Cond.methodLink RX6 41 yX6_readCommand, Cond.instanceMethod yX6_readCommand, Cond.selects RX6 yX6_readCommand yX6_readCommand, Cond.code yX6_readCommand cX6_readCommand 3 none, Cond.methodLink RX6 45 yX6_findCommand, Cond.instanceMethod yX6_findCommand, Cond.selects RX6 yX6_findCommand yX6_findCommand, Cond.code yX6_findCommand cX6_findCommand 5 (some (.object "RecipeScheduler$Command")), Cond.methodLink RX6 81 yX10_isWord, Cond.methodLink RX6 49 yX10_fail, Cond.methodLink RX6 53 yX10_advance, Cond.methodLink RX6 60 yX6_readStepName, Cond.instanceMethod yX6_readStepName, Cond.selects RX6 yX6_readStepName yX6_readStepName, Cond.code yX6_readStepName cX6_readStepName 3 (some .int), Cond.methodLink RX6 85 yX10_findName, Cond.methodLink RX6 67 yX10_expectNumber, Cond.methodLink RX6 71 yX10_expectSemicolon, Cond.methodLink RX11 387 yX11_isAllowed, Cond.instanceMethod yX11_isAllowed, Cond.selects RX11 yX11_isAllowed yX11_isAllowed, Cond.code yX11_isAllowed cX11_isAllowed 4 (some .boolean), Cond.fieldLink RX11 439 "RecipeScheduler$1" "$SwitchMap$RecipeScheduler$Command" "[I"]
def wsL_law0_r61 : List Cond := [Cond.methodLink RX11 444 ⟨"RecipeScheduler$Command", "ordinal", "()I"⟩, Cond.sameMethod "RecipeScheduler$Command" "java/lang/Enum" "ordinal" "()I", Cond.selects RX1 ⟨"RecipeScheduler$Command", "ordinal", "()I"⟩ yJx29ce0_ordinal_8abf5, Cond.instanceMethod yJx29ce0_ordinal_8abf5, Cond.initialized RJx29ce0, Cond.code yJx29ce0_ordinal_8abf5 cJx29ce0_ordinal_8abf5 1 (some .int), Cond.fieldLink RJx29ce0 7 "java/lang/Enum" "ordinal" "I", Cond.methodLink RX11 391 yX11_carryOut, Cond.instanceMethod yX11_carryOut, Cond.selects RX11 yX11_carryOut yX11_carryOut, Cond.code yX11_carryOut cX11_carryOut 4 none, Cond.methodLink RL 357 yX12_runScript, Cond.instanceMethod yX12_runScript, Cond.selects RX12 yX12_runScript yX12_runScript, Cond.code yX12_runScript cX12_runScript 3 (some .int), Cond.methodLink RX12 286 yX12_parseScript, Cond.instanceMethod yX12_parseScript, Cond.selects RX12 yX12_parseScript yX12_parseScript, Cond.code yX12_parseScript cX12_parseScript 4 (some .int), Cond.methodLink RX12 265 yX12_commandHere, Cond.instanceMethod yX12_commandHere, Cond.selects RX12 yX12_commandHere yX12_commandHere, Cond.code yX12_commandHere cX12_commandHere 2 (some .int), Cond.methodLink RX12 255 yX12_nameOf]
def wsL_law0_r62 : List Cond := [Cond.static yX12_nameOf, Cond.code yX12_nameOf cX12_nameOf 1 (some (.object "java/lang/String")), Cond.methodLink RX12 268 yX12_parseArguments, Cond.instanceMethod yX12_parseArguments, Cond.selects RX12 yX12_parseArguments yX12_parseArguments, Cond.code yX12_parseArguments cX12_parseArguments 3 (some .boolean), Cond.methodLink RX12 259 yX12_parseStepName, Cond.instanceMethod yX12_parseStepName, Cond.selects RX12 yX12_parseStepName yX12_parseStepName, Cond.code yX12_parseStepName cX12_parseStepName 2 (some .boolean), Cond.methodLink RX12 262 yX12_parseNumber, Cond.instanceMethod yX12_parseNumber, Cond.selects RX12 yX12_parseNumber yX12_parseNumber, Cond.code yX12_parseNumber cX12_parseNumber 2 (some .boolean), Cond.methodLink RX12 292 yX12_canDo, Cond.instanceMethod yX12_canDo, Cond.selects RX12 yX12_canDo yX12_canDo, Cond.code yX12_canDo cX12_canDo 4 (some .boolean), Cond.methodLink RX12 295 yX12_doIt, Cond.instanceMethod yX12_doIt, Cond.selects RX12 yX12_doIt yX12_doIt, Cond.code yX12_doIt cX12_doIt 4 none, Cond.methodLink RL 358 yL_undo, Cond.static yL_undo]
def wsL_law0_r63 : List Cond := [Cond.codeWith yL_undo cL_undo 3 (some .int) [(0, 8, 11, 13)], Cond.methodLink RL 137 yX11_undo, Cond.instanceMethod yX11_undo, Cond.selects RX11 yX11_undo yX11_undo, Cond.code yX11_undo cX11_undo 1 (some .int), Cond.methodLink RX11 397 yX2_popInto, Cond.instanceMethod yX2_popInto, Cond.selects RX2 yX2_popInto yX2_popInto, Cond.code yX2_popInto cX2_popInto 2 none, Cond.methodLink RL 360 yX12_undo, Cond.instanceMethod yX12_undo, Cond.selects RX12 yX12_undo yX12_undo, Cond.code yX12_undo cX12_undo 1 (some .int), Cond.methodLink RL 361 yL_save, Cond.static yL_save, Cond.codeWith yL_save cL_save 4 (some .int) [(0, 9, 12, 31)], Cond.methodLink RL 140 yX11_save, Cond.instanceMethod yX11_save, Cond.selects RX11 yX11_save yX11_save, Cond.code yX11_save cX11_save 2 (some .int), Cond.methodLink RX11 400 yX11_requireSlot, Cond.instanceMethod yX11_requireSlot, Cond.selects RX11 yX11_requireSlot yX11_requireSlot, Cond.code yX11_requireSlot cX11_requireSlot 2 none]
def wsL_law0_r64 : List Cond := [Cond.methodLink RX11 403 yX8_copyFrom, Cond.methodLink RL 363 yX12_save, Cond.instanceMethod yX12_save, Cond.selects RX12 yX12_save yX12_save, Cond.code yX12_save cX12_save 2 (some .int), Cond.methodLink RL 364 yL_restore, Cond.static yL_restore, Cond.codeWith yL_restore cL_restore 4 (some .int) [(0, 9, 12, 31), (0, 9, 15, 13)], Cond.methodLink RL 143 yX11_restore, Cond.instanceMethod yX11_restore, Cond.selects RX11 yX11_restore yX11_restore, Cond.code yX11_restore cX11_restore 2 (some .int), Cond.methodLink RL 366 yX12_restore, Cond.instanceMethod yX12_restore, Cond.selects RX12 yX12_restore yX12_restore, Cond.code yX12_restore cX12_restore 3 (some .int), Cond.methodLink RL 367 yX11_writeSummary, Cond.instanceMethod yX11_writeSummary, Cond.selects RX11 yX11_writeSummary yX11_writeSummary, Cond.code yX11_writeSummary cX11_writeSummary 2 (some .int), Cond.methodLink RX11 407 yX9_addByte, Cond.methodLink RX11 410 yX4_copyTo, Cond.instanceMethod yX4_copyTo, Cond.selects RX4 yX4_copyTo yX4_copyTo]
def wsL_law0_r65 : List Cond := [Cond.code yX4_copyTo cX4_copyTo 4 none, Cond.methodLink RX4 38 yX9_addByte, Cond.methodLink RX11 414 yX11_writeProgress, Cond.instanceMethod yX11_writeProgress, Cond.selects RX11 yX11_writeProgress yX11_writeProgress, Cond.code yX11_writeProgress cX11_writeProgress 2 none, Cond.methodLink RX11 449 yX9_addTwoDigits, Cond.instanceMethod yX9_addTwoDigits, Cond.selects RX9 yX9_addTwoDigits yX9_addTwoDigits, Cond.code yX9_addTwoDigits cX9_addTwoDigits 2 none, Cond.methodLink RL 370 yX12_writeSummary, Cond.instanceMethod yX12_writeSummary, Cond.selects RX12 yX12_writeSummary yX12_writeSummary, Cond.code yX12_writeSummary cX12_writeSummary 3 (some .int), Cond.methodLink RX12 331 yX12_put, Cond.instanceMethod yX12_put, Cond.selects RX12 yX12_put yX12_put, Cond.code yX12_put cX12_put 2 none, Cond.methodLink RX12 334 yX12_putMark, Cond.instanceMethod yX12_putMark, Cond.selects RX12 yX12_putMark yX12_putMark, Cond.code yX12_putMark cX12_putMark 2 none, Cond.methodLink RL 371 yL_outputByte, Cond.static yL_outputByte]
def wsL_law0_r66 : List Cond := [Cond.codeWith yL_outputByte cL_outputByte 4 (some .int) [(0, 9, 12, 31)], Cond.methodLink RL 146 yX11_outputByte, Cond.instanceMethod yX11_outputByte, Cond.selects RX11 yX11_outputByte yX11_outputByte, Cond.code yX11_outputByte cX11_outputByte 2 (some .int), Cond.methodLink RL 373 yX12_outputByte, Cond.instanceMethod yX12_outputByte, Cond.selects RX12 yX12_outputByte yX12_outputByte, Cond.code yX12_outputByte cX12_outputByte 2 (some .int)]
def wsL_law0 : List Cond := (wsL_law0_r1 ++ (wsL_law0_r2 ++ (wsL_law0_r3 ++ (wsL_law0_r4 ++ (wsL_law0_r5 ++ (wsL_law0_r6 ++ (wsL_law0_r7 ++ (wsL_law0_r8 ++ (wsL_law0_r9 ++ (wsL_law0_r10 ++ (wsL_law0_r11 ++ (wsL_law0_r12 ++ (wsL_law0_r13 ++ (wsL_law0_r14 ++ (wsL_law0_r15 ++ (wsL_law0_r16 ++ (wsL_law0_r17 ++ (wsL_law0_r18 ++ (wsL_law0_r19 ++ (wsL_law0_r20 ++ (wsL_law0_r21 ++ (wsL_law0_r22 ++ (wsL_law0_r23 ++ (wsL_law0_r24 ++ (wsL_law0_r25 ++ (wsL_law0_r26 ++ (wsL_law0_r27 ++ (wsL_law0_r28 ++ (wsL_law0_r29 ++ (wsL_law0_r30 ++ (wsL_law0_r31 ++ (wsL_law0_r32 ++ (wsL_law0_r33 ++ (wsL_law0_r34 ++ (wsL_law0_r35 ++ (wsL_law0_r36 ++ (wsL_law0_r37 ++ (wsL_law0_r38 ++ (wsL_law0_r39 ++ (wsL_law0_r40 ++ (wsL_law0_r41 ++ (wsL_law0_r42 ++ (wsL_law0_r43 ++ (wsL_law0_r44 ++ (wsL_law0_r45 ++ (wsL_law0_r46 ++ (wsL_law0_r47 ++ (wsL_law0_r48 ++ (wsL_law0_r49 ++ (wsL_law0_r50 ++ (wsL_law0_r51 ++ (wsL_law0_r52 ++ (wsL_law0_r53 ++ (wsL_law0_r54 ++ (wsL_law0_r55 ++ (wsL_law0_r56 ++ (wsL_law0_r57 ++ (wsL_law0_r58 ++ (wsL_law0_r59 ++ (wsL_law0_r60 ++ (wsL_law0_r61 ++ (wsL_law0_r62 ++ (wsL_law0_r63 ++ (wsL_law0_r64 ++ (wsL_law0_r65 ++ wsL_law0_r66))))))))))))))))))))))))))))))))))))))))))))))))))))))))))))))))) ++ wsX110 ++ wsX120 ++ wsX90 ++ wsX100 ++ wsX70 ++ wsX50 ++ wsX60 ++ wsX30 ++ wsX20 ++ wsX80 ++ wsX40 ++ ([] : List Cond)
def wsL_law : List Cond := wsL_law0 ++ (vx_atS RX11 100 "java/lang/IllegalStateException" ["java/lang/RuntimeException", "java/lang/Exception"]).filter goodWord ++ (vx_atS RX11 113 "java/lang/IllegalArgumentException" ["java/lang/RuntimeException", "java/lang/Exception"]).filter goodWord ++ (vx_atS RX11 241 "java/lang/IndexOutOfBoundsException" ["java/lang/RuntimeException", "java/lang/Exception"]).filter goodWord ++ (vx_atS RX11 254 "java/util/NoSuchElementException" ["java/lang/RuntimeException", "java/lang/Exception"]).filter goodWord
theorem wsL_law_x0 : ∀ w ∈ (vx_atS RX11 100 "java/lang/IllegalStateException" ["java/lang/RuntimeException", "java/lang/Exception"]).filter goodWord, w ∈ lw_tbl := by decide +kernel
theorem wsL_law_x1 : ∀ w ∈ (vx_atS RX11 113 "java/lang/IllegalArgumentException" ["java/lang/RuntimeException", "java/lang/Exception"]).filter goodWord, w ∈ lw_tbl := by decide +kernel
theorem wsL_law_x2 : ∀ w ∈ (vx_atS RX11 241 "java/lang/IndexOutOfBoundsException" ["java/lang/RuntimeException", "java/lang/Exception"]).filter goodWord, w ∈ lw_tbl := by decide +kernel
theorem inX0 : ∀ w ∈ wsX00, w ∈ lw_tbl := by decide +kernel
theorem inX1 : ∀ w ∈ wsX10, w ∈ lw_tbl := by decide +kernel
theorem inlX2 : ∀ w ∈ wsX20, w ∈ wsL_law := fun _ h => List.mem_append_left _ (List.mem_append_left _ (List.mem_append_left _ (List.mem_append_left _ (List.mem_append_left _ (List.mem_append_left _ (List.mem_append_left _ (List.mem_append_right _ h)))))))
theorem inlX3 : ∀ w ∈ wsX30, w ∈ wsL_law := fun _ h => List.mem_append_left _ (List.mem_append_left _ (List.mem_append_left _ (List.mem_append_left _ (List.mem_append_left _ (List.mem_append_left _ (List.mem_append_left _ (List.mem_append_left _ (List.mem_append_right _ h))))))))
theorem inlX4 : ∀ w ∈ wsX40, w ∈ wsL_law := fun _ h => List.mem_append_left _ (List.mem_append_left _ (List.mem_append_left _ (List.mem_append_left _ (List.mem_append_left _ (List.mem_append_right _ h)))))
theorem inlX5 : ∀ w ∈ wsX50, w ∈ wsL_law := fun _ h => List.mem_append_left _ (List.mem_append_left _ (List.mem_append_left _ (List.mem_append_left _ (List.mem_append_left _ (List.mem_append_left _ (List.mem_append_left _ (List.mem_append_left _ (List.mem_append_left _ (List.mem_append_left _ (List.mem_append_right _ h))))))))))
theorem inlX6 : ∀ w ∈ wsX60, w ∈ wsL_law := fun _ h => List.mem_append_left _ (List.mem_append_left _ (List.mem_append_left _ (List.mem_append_left _ (List.mem_append_left _ (List.mem_append_left _ (List.mem_append_left _ (List.mem_append_left _ (List.mem_append_left _ (List.mem_append_right _ h)))))))))
theorem inlX7 : ∀ w ∈ wsX70, w ∈ wsL_law := fun _ h => List.mem_append_left _ (List.mem_append_left _ (List.mem_append_left _ (List.mem_append_left _ (List.mem_append_left _ (List.mem_append_left _ (List.mem_append_left _ (List.mem_append_left _ (List.mem_append_left _ (List.mem_append_left _ (List.mem_append_left _ (List.mem_append_right _ h)))))))))))
theorem inlX8 : ∀ w ∈ wsX80, w ∈ wsL_law := fun _ h => List.mem_append_left _ (List.mem_append_left _ (List.mem_append_left _ (List.mem_append_left _ (List.mem_append_left _ (List.mem_append_left _ (List.mem_append_right _ h))))))
theorem inlX9 : ∀ w ∈ wsX90, w ∈ wsL_law := fun _ h => List.mem_append_left _ (List.mem_append_left _ (List.mem_append_left _ (List.mem_append_left _ (List.mem_append_left _ (List.mem_append_left _ (List.mem_append_left _ (List.mem_append_left _ (List.mem_append_left _ (List.mem_append_left _ (List.mem_append_left _ (List.mem_append_left _ (List.mem_append_left _ (List.mem_append_right _ h)))))))))))))
theorem inlX10 : ∀ w ∈ wsX100, w ∈ wsL_law := fun _ h => List.mem_append_left _ (List.mem_append_left _ (List.mem_append_left _ (List.mem_append_left _ (List.mem_append_left _ (List.mem_append_left _ (List.mem_append_left _ (List.mem_append_left _ (List.mem_append_left _ (List.mem_append_left _ (List.mem_append_left _ (List.mem_append_left _ (List.mem_append_right _ h))))))))))))
theorem inlX11 : ∀ w ∈ wsX110, w ∈ wsL_law := fun _ h => List.mem_append_left _ (List.mem_append_left _ (List.mem_append_left _ (List.mem_append_left _ (List.mem_append_left _ (List.mem_append_left _ (List.mem_append_left _ (List.mem_append_left _ (List.mem_append_left _ (List.mem_append_left _ (List.mem_append_left _ (List.mem_append_left _ (List.mem_append_left _ (List.mem_append_left _ (List.mem_append_left _ (List.mem_append_right _ h)))))))))))))))
theorem inlX12 : ∀ w ∈ wsX120, w ∈ wsL_law := fun _ h => List.mem_append_left _ (List.mem_append_left _ (List.mem_append_left _ (List.mem_append_left _ (List.mem_append_left _ (List.mem_append_left _ (List.mem_append_left _ (List.mem_append_left _ (List.mem_append_left _ (List.mem_append_left _ (List.mem_append_left _ (List.mem_append_left _ (List.mem_append_left _ (List.mem_append_left _ (List.mem_append_right _ h))))))))))))))
theorem inJx145de : ∀ w ∈ wsJx145de0, w ∈ lw_tbl := by decide +kernel
theorem inJx9f9b0 : ∀ w ∈ wsJx9f9b00, w ∈ lw_tbl := by decide +kernel
theorem inJxb160c : ∀ w ∈ wsJxb160c0, w ∈ lw_tbl := by decide +kernel
theorem inJx29ce0 : ∀ w ∈ wsJx29ce00, w ∈ lw_tbl := by decide +kernel
theorem inJ6 : ∀ w ∈ wsJ60, w ∈ lw_tbl := by decide +kernel
theorem inJ9 : ∀ w ∈ wsJ90, w ∈ lw_tbl := by decide +kernel
theorem inJ0 : ∀ w ∈ wsJ00, w ∈ lw_tbl := by decide +kernel
theorem inJ1 : ∀ w ∈ wsJ10, w ∈ lw_tbl := by decide +kernel
theorem inJ2 : ∀ w ∈ wsJ20, w ∈ lw_tbl := by decide +kernel
theorem inJ10 : ∀ w ∈ wsJ100, w ∈ lw_tbl := by decide +kernel
theorem inJxfd54e : ∀ w ∈ wsJxfd54e0, w ∈ lw_tbl := by decide +kernel
theorem inJx3cf43 : ∀ w ∈ wsJx3cf430, w ∈ lw_tbl := by decide +kernel
theorem inJ7 : ∀ w ∈ wsJ70, w ∈ lw_tbl := by decide +kernel
theorem inJ3 : ∀ w ∈ wsJ30, w ∈ lw_tbl := by decide +kernel
set_option maxRecDepth 20000 in
theorem ggX2_init_X8_init : GoodIn wsX2_init wsX8_init := goodIn_r _ [9, 10, 2, 3, 11, 12, 13, 14, 15, 16, 17, 21, 22, 23, 24, 25, 26, 27, 28, 29, 30, 31, 32, 33, 34, 35] rfl (by decide +kernel)
set_option maxRecDepth 20000 in
theorem gX2_init_X8_init_n17 : GoodIn wsX2_init (wsX8_init) := ggX2_init_X8_init
theorem dX2_init_0 : decode cX2_init 0 = .ok (.aload_n 0, 1) := by decide +kernel
theorem dX2_init_1 : decode cX2_init 1 = .ok (.invokespecial 3, 3) := by decide +kernel
theorem dX2_init_4 : decode cX2_init 4 = .ok (.aload_n 0, 1) := by decide +kernel
theorem dX2_init_5 : decode cX2_init 5 = .ok (.bipush 6, 2) := by decide +kernel
theorem dX2_init_7 : decode cX2_init 7 = .ok (.anewarray 9, 3) := by decide +kernel
theorem dX2_init_10 : decode cX2_init 10 = .ok (.putfield 11, 3) := by decide +kernel
theorem dX2_init_13 : decode cX2_init 13 = .ok (.iconst 0, 1) := by decide +kernel
theorem dX2_init_14 : decode cX2_init 14 = .ok (.istore_n 1, 1) := by decide +kernel
theorem dX2_init_15 : decode cX2_init 15 = .ok (.iload_n 1, 1) := by decide +kernel
theorem dX2_init_16 : decode cX2_init 16 = .ok (.bipush 6, 2) := by decide +kernel
theorem dX2_init_18 : decode cX2_init 18 = .ok (.if_icmp .ge 22, 3) := by decide +kernel
theorem dX2_init_21 : decode cX2_init 21 = .ok (.aload_n 0, 1) := by decide +kernel
theorem dX2_init_22 : decode cX2_init 22 = .ok (.getfield 11, 3) := by decide +kernel
theorem dX2_init_25 : decode cX2_init 25 = .ok (.iload_n 1, 1) := by decide +kernel
theorem dX2_init_26 : decode cX2_init 26 = .ok (.new 9, 3) := by decide +kernel
theorem dX2_init_29 : decode cX2_init 29 = .ok (.dup, 1) := by decide +kernel
theorem dX2_init_30 : decode cX2_init 30 = .ok (.invokespecial 17, 3) := by decide +kernel
theorem dX2_init_33 : decode cX2_init 33 = .ok (.aastore, 1) := by decide +kernel
theorem dX2_init_34 : decode cX2_init 34 = .ok (.iinc 1 1, 3) := by decide +kernel
theorem dX2_init_37 : decode cX2_init 37 = .ok (.goto (-22), 3) := by decide +kernel
theorem dX2_init_40 : decode cX2_init 40 = .ok (.return_, 1) := by decide +kernel
set_option maxRecDepth 20000 in
theorem ggX2_push_X8_copyFrom : GoodIn wsX2_push wsX8_copyFrom := goodIn_r _ [12, 13, 14, 15, 16, 17, 18, 19, 20, 21, 22, 23, 24, 25, 26, 27, 28, 29, 30, 31, 35, 36, 37, 38, 39, 40, 41, 42, 43, 44, 45, 46, 47, 48, 49] rfl (by decide +kernel)
set_option maxRecDepth 20000 in
theorem gX2_push_X8_copyFrom : GoodIn wsX2_push (wsV RX2 22 RX8 yX8_copyFrom wsX8_copyFrom) := goodIn_app (goodIn_of _ (by decide +kernel)) ggX2_push_X8_copyFrom
theorem dX2_push_0 : decode cX2_push 0 = .ok (.aload_n 0, 1) := by decide +kernel
theorem dX2_push_1 : decode cX2_push 1 = .ok (.getfield 11, 3) := by decide +kernel
theorem dX2_push_4 : decode cX2_push 4 = .ok (.aload_n 0, 1) := by decide +kernel
theorem dX2_push_5 : decode cX2_push 5 = .ok (.getfield 18, 3) := by decide +kernel
theorem dX2_push_8 : decode cX2_push 8 = .ok (.aaload, 1) := by decide +kernel
theorem dX2_push_9 : decode cX2_push 9 = .ok (.aload_n 1, 1) := by decide +kernel
theorem dX2_push_10 : decode cX2_push 10 = .ok (.invokevirtual 22, 3) := by decide +kernel
theorem dX2_push_13 : decode cX2_push 13 = .ok (.aload_n 0, 1) := by decide +kernel
theorem dX2_push_14 : decode cX2_push 14 = .ok (.aload_n 0, 1) := by decide +kernel
theorem dX2_push_15 : decode cX2_push 15 = .ok (.getfield 18, 3) := by decide +kernel
theorem dX2_push_18 : decode cX2_push 18 = .ok (.iconst 1, 1) := by decide +kernel
theorem dX2_push_19 : decode cX2_push 19 = .ok (.iadd, 1) := by decide +kernel
theorem dX2_push_20 : decode cX2_push 20 = .ok (.bipush 6, 2) := by decide +kernel
theorem dX2_push_22 : decode cX2_push 22 = .ok (.irem, 1) := by decide +kernel
theorem dX2_push_23 : decode cX2_push 23 = .ok (.putfield 18, 3) := by decide +kernel
theorem dX2_push_26 : decode cX2_push 26 = .ok (.aload_n 0, 1) := by decide +kernel
theorem dX2_push_27 : decode cX2_push 27 = .ok (.aload_n 0, 1) := by decide +kernel
theorem dX2_push_28 : decode cX2_push 28 = .ok (.getfield 26, 3) := by decide +kernel
theorem dX2_push_31 : decode cX2_push 31 = .ok (.iconst 1, 1) := by decide +kernel
theorem dX2_push_32 : decode cX2_push 32 = .ok (.iadd, 1) := by decide +kernel
theorem dX2_push_33 : decode cX2_push 33 = .ok (.bipush 6, 2) := by decide +kernel
theorem dX2_push_35 : decode cX2_push 35 = .ok (.invokestatic 29, 3) := by decide +kernel
theorem dX2_push_38 : decode cX2_push 38 = .ok (.putfield 26, 3) := by decide +kernel
theorem dX2_push_41 : decode cX2_push 41 = .ok (.return_, 1) := by decide +kernel
set_option maxRecDepth 20000 in
theorem ggX2_popInto_X8_copyFrom : GoodIn wsX2_popInto wsX8_copyFrom := goodIn_r _ [8, 9, 10, 11, 12, 13, 14, 15, 16, 17, 18, 19, 20, 21, 22, 23, 24, 25, 26, 27, 31, 32, 33, 34, 35, 36, 37, 38, 39, 40, 41, 42, 43, 44, 45] rfl (by decide +kernel)
set_option maxRecDepth 20000 in
theorem gX2_popInto_X8_copyFrom : GoodIn wsX2_popInto (wsV RX2 22 RX8 yX8_copyFrom wsX8_copyFrom) := goodIn_app (goodIn_of _ (by decide +kernel)) ggX2_popInto_X8_copyFrom
theorem dX2_popInto_0 : decode cX2_popInto 0 = .ok (.aload_n 0, 1) := by decide +kernel
theorem dX2_popInto_1 : decode cX2_popInto 1 = .ok (.aload_n 0, 1) := by decide +kernel
theorem dX2_popInto_2 : decode cX2_popInto 2 = .ok (.getfield 18, 3) := by decide +kernel
theorem dX2_popInto_5 : decode cX2_popInto 5 = .ok (.bipush 6, 2) := by decide +kernel
theorem dX2_popInto_7 : decode cX2_popInto 7 = .ok (.iadd, 1) := by decide +kernel
theorem dX2_popInto_8 : decode cX2_popInto 8 = .ok (.iconst 1, 1) := by decide +kernel
theorem dX2_popInto_9 : decode cX2_popInto 9 = .ok (.isub, 1) := by decide +kernel
theorem dX2_popInto_10 : decode cX2_popInto 10 = .ok (.bipush 6, 2) := by decide +kernel
theorem dX2_popInto_12 : decode cX2_popInto 12 = .ok (.irem, 1) := by decide +kernel
theorem dX2_popInto_13 : decode cX2_popInto 13 = .ok (.putfield 18, 3) := by decide +kernel
theorem dX2_popInto_16 : decode cX2_popInto 16 = .ok (.aload_n 1, 1) := by decide +kernel
theorem dX2_popInto_17 : decode cX2_popInto 17 = .ok (.aload_n 0, 1) := by decide +kernel
theorem dX2_popInto_18 : decode cX2_popInto 18 = .ok (.getfield 11, 3) := by decide +kernel
theorem dX2_popInto_21 : decode cX2_popInto 21 = .ok (.aload_n 0, 1) := by decide +kernel
theorem dX2_popInto_22 : decode cX2_popInto 22 = .ok (.getfield 18, 3) := by decide +kernel
theorem dX2_popInto_25 : decode cX2_popInto 25 = .ok (.aaload, 1) := by decide +kernel
theorem dX2_popInto_26 : decode cX2_popInto 26 = .ok (.invokevirtual 22, 3) := by decide +kernel
theorem dX2_popInto_29 : decode cX2_popInto 29 = .ok (.aload_n 0, 1) := by decide +kernel
theorem dX2_popInto_30 : decode cX2_popInto 30 = .ok (.dup, 1) := by decide +kernel
theorem dX2_popInto_31 : decode cX2_popInto 31 = .ok (.getfield 26, 3) := by decide +kernel
theorem dX2_popInto_34 : decode cX2_popInto 34 = .ok (.iconst 1, 1) := by decide +kernel
theorem dX2_popInto_35 : decode cX2_popInto 35 = .ok (.isub, 1) := by decide +kernel
theorem dX2_popInto_36 : decode cX2_popInto 36 = .ok (.putfield 26, 3) := by decide +kernel
theorem dX2_popInto_39 : decode cX2_popInto 39 = .ok (.return_, 1) := by decide +kernel
set_option maxRecDepth 20000 in
theorem ggX3_init_X8_init : GoodIn wsX3_init wsX8_init := goodIn_r _ [14, 15, 2, 3, 8, 16, 17, 18, 19, 20, 21, 43, 44, 45, 46, 47, 48, 49, 50, 51, 52, 53, 54, 55, 56, 57] rfl (by decide +kernel)
set_option maxRecDepth 20000 in
theorem gX3_init_X8_init_n11 : GoodIn wsX3_init (wsX8_init) := ggX3_init_X8_init
set_option maxRecDepth 20000 in
theorem ggX3_init_X8_begin : GoodIn wsX3_init wsX8_begin := goodIn_r _ [25, 26, 27, 28, 29, 30, 31, 32, 33, 34, 16, 35, 36, 37, 38, 17, 18, 19, 20, 21, 39, 40, 41, 42, 63, 64, 65, 66, 67, 68, 69, 70, 71, 72, 73, 74, 75, 76, 77, 78, 79, 43, 44, 45, 46, 47, 48, 49, 50, 51, 52, 53, 54, 55, 56, 57] rfl (by decide +kernel)
set_option maxRecDepth 20000 in
theorem gX3_init_X8_begin : GoodIn wsX3_init (wsV RX3 32 RX8 yX8_begin wsX8_begin) := goodIn_app (goodIn_of _ (by decide +kernel)) ggX3_init_X8_begin
theorem dX3_init_0 : decode cX3_init 0 = .ok (.aload_n 0, 1) := by decide +kernel
theorem dX3_init_1 : decode cX3_init 1 = .ok (.invokespecial 3, 3) := by decide +kernel
theorem dX3_init_4 : decode cX3_init 4 = .ok (.aload_n 0, 1) := by decide +kernel
theorem dX3_init_5 : decode cX3_init 5 = .ok (.new 9, 3) := by decide +kernel
theorem dX3_init_8 : decode cX3_init 8 = .ok (.dup, 1) := by decide +kernel
theorem dX3_init_9 : decode cX3_init 9 = .ok (.invokespecial 11, 3) := by decide +kernel
theorem dX3_init_12 : decode cX3_init 12 = .ok (.putfield 12, 3) := by decide +kernel
theorem dX3_init_15 : decode cX3_init 15 = .ok (.aload_n 0, 1) := by decide +kernel
theorem dX3_init_16 : decode cX3_init 16 = .ok (.bipush 14, 2) := by decide +kernel
theorem dX3_init_18 : decode cX3_init 18 = .ok (.newarray .int, 2) := by decide +kernel
theorem dX3_init_20 : decode cX3_init 20 = .ok (.putfield 18, 3) := by decide +kernel
theorem dX3_init_23 : decode cX3_init 23 = .ok (.aload_n 0, 1) := by decide +kernel
theorem dX3_init_24 : decode cX3_init 24 = .ok (.bipush 14, 2) := by decide +kernel
theorem dX3_init_26 : decode cX3_init 26 = .ok (.newarray .int, 2) := by decide +kernel
theorem dX3_init_28 : decode cX3_init 28 = .ok (.putfield 22, 3) := by decide +kernel
theorem dX3_init_31 : decode cX3_init 31 = .ok (.aload_n 0, 1) := by decide +kernel
theorem dX3_init_32 : decode cX3_init 32 = .ok (.bipush 14, 2) := by decide +kernel
theorem dX3_init_34 : decode cX3_init 34 = .ok (.newarray .int, 2) := by decide +kernel
theorem dX3_init_36 : decode cX3_init 36 = .ok (.putfield 25, 3) := by decide +kernel
theorem dX3_init_39 : decode cX3_init 39 = .ok (.aload_n 0, 1) := by decide +kernel
theorem dX3_init_40 : decode cX3_init 40 = .ok (.aload_n 1, 1) := by decide +kernel
theorem dX3_init_41 : decode cX3_init 41 = .ok (.putfield 28, 3) := by decide +kernel
theorem dX3_init_44 : decode cX3_init 44 = .ok (.aload_n 0, 1) := by decide +kernel
theorem dX3_init_45 : decode cX3_init 45 = .ok (.getfield 12, 3) := by decide +kernel
theorem dX3_init_48 : decode cX3_init 48 = .ok (.aload_n 1, 1) := by decide +kernel
theorem dX3_init_49 : decode cX3_init 49 = .ok (.invokevirtual 32, 3) := by decide +kernel
theorem dX3_init_52 : decode cX3_init 52 = .ok (.return_, 1) := by decide +kernel
set_option maxRecDepth 20000 in
theorem ggX3_open_X8_begin : GoodIn wsX3_open wsX8_begin := goodIn_r _ [7, 8, 9, 10, 11, 12, 13, 14, 15, 16, 17, 18, 19, 20, 21, 22, 23, 24, 25, 26, 27, 28, 29, 30, 36, 37, 38, 39, 40, 41, 42, 43, 44, 45, 46, 47, 48, 49, 50, 51, 52, 53, 54, 55, 56, 57, 58, 59, 60, 61, 62, 63, 64, 65, 66, 67] rfl (by decide +kernel)
set_option maxRecDepth 20000 in
theorem gX3_open_X8_begin : GoodIn wsX3_open (wsV RX3 32 RX8 yX8_begin wsX8_begin) := goodIn_app (goodIn_of _ (by decide +kernel)) ggX3_open_X8_begin
theorem dX3_open_0 : decode cX3_open 0 = .ok (.aload_n 0, 1) := by decide +kernel
theorem dX3_open_1 : decode cX3_open 1 = .ok (.aload_n 1, 1) := by decide +kernel
theorem dX3_open_2 : decode cX3_open 2 = .ok (.putfield 28, 3) := by decide +kernel
theorem dX3_open_5 : decode cX3_open 5 = .ok (.aload_n 0, 1) := by decide +kernel
theorem dX3_open_6 : decode cX3_open 6 = .ok (.getfield 12, 3) := by decide +kernel
theorem dX3_open_9 : decode cX3_open 9 = .ok (.aload_n 1, 1) := by decide +kernel
theorem dX3_open_10 : decode cX3_open 10 = .ok (.invokevirtual 32, 3) := by decide +kernel
theorem dX3_open_13 : decode cX3_open 13 = .ok (.return_, 1) := by decide +kernel
set_option maxRecDepth 20000 in
theorem ggX3_copyFrom_X8_copyFrom : GoodIn wsX3_copyFrom wsX8_copyFrom := goodIn_r _ [7, 8, 9, 10, 11, 12, 13, 14, 15, 16, 17, 18, 19, 20, 21, 22, 23, 24, 25, 26, 32, 33, 34, 35, 36, 37, 38, 39, 40, 41, 42, 43, 44, 45, 46] rfl (by decide +kernel)
set_option maxRecDepth 20000 in
theorem gX3_copyFrom_X8_copyFrom : GoodIn wsX3_copyFrom (wsV RX3 36 RX8 yX8_copyFrom wsX8_copyFrom) := goodIn_app (goodIn_of _ (by decide +kernel)) ggX3_copyFrom_X8_copyFrom
theorem dX3_copyFrom_0 : decode cX3_copyFrom 0 = .ok (.aload_n 0, 1) := by decide +kernel
theorem dX3_copyFrom_1 : decode cX3_copyFrom 1 = .ok (.aload_n 1, 1) := by decide +kernel
theorem dX3_copyFrom_2 : decode cX3_copyFrom 2 = .ok (.getfield 28, 3) := by decide +kernel
theorem dX3_copyFrom_5 : decode cX3_copyFrom 5 = .ok (.putfield 28, 3) := by decide +kernel
theorem dX3_copyFrom_8 : decode cX3_copyFrom 8 = .ok (.aload_n 0, 1) := by decide +kernel
theorem dX3_copyFrom_9 : decode cX3_copyFrom 9 = .ok (.getfield 12, 3) := by decide +kernel
theorem dX3_copyFrom_12 : decode cX3_copyFrom 12 = .ok (.aload_n 1, 1) := by decide +kernel
theorem dX3_copyFrom_13 : decode cX3_copyFrom 13 = .ok (.getfield 12, 3) := by decide +kernel
theorem dX3_copyFrom_16 : decode cX3_copyFrom 16 = .ok (.invokevirtual 36, 3) := by decide +kernel
theorem dX3_copyFrom_19 : decode cX3_copyFrom 19 = .ok (.return_, 1) := by decide +kernel
set_option maxRecDepth 20000 in
theorem ggX3_runMinutes_X3_rank : GoodIn wsX3_runMinutes wsX3_rank := goodIn_r _ [5, 6, 7, 8, 9, 10, 11, 12, 4, 13, 14, 15, 16, 88, 89, 90, 91, 92, 93, 94, 95, 96, 97, 98, 99, 100, 101, 102, 103, 104, 105, 106, 107, 108, 109, 110, 111, 112, 113, 114, 115, 116, 117, 118, 119, 120, 121, 122, 123, 124, 125, 126, 127] rfl (by decide +kernel)
set_option maxRecDepth 20000 in
theorem gX3_runMinutes_X3_rank : GoodIn wsX3_runMinutes (wsV RX3 40 RX3 yX3_rank wsX3_rank) := goodIn_app (goodIn_of _ (by decide +kernel)) ggX3_runMinutes_X3_rank
set_option maxRecDepth 20000 in
theorem ggX3_runMinutes_X3_runMinute : GoodIn wsX3_runMinutes wsX3_runMinute := goodIn_r _ [20, 8, 21, 22, 23, 4, 24, 6, 25, 26, 27, 28, 29, 30, 31, 14, 15, 16, 32, 33, 34, 35, 36, 37, 38, 39, 40, 41, 42, 43, 44, 45, 46, 47, 48, 49, 50, 51, 52, 53, 54, 55, 56, 57, 58, 9, 59, 60, 61, 62, 63, 64, 65, 66, 67, 68, 69, 70, 71, 72, 73, 74, 75, 76, 77, 78, 79, 80, 81, 82, 83, 84, 85, 86, 87, 88, 89, 90, 91, 92, 113, 114, 115, 116, 117, 118, 119, 120, 121, 122, 123, 124, 125, 126, 127, 93, 94, 95, 96, 97, 98, 99, 100, 101, 102, 103, 104, 105, 106, 107, 108, 109, 110, 111, 112] rfl (by decide +kernel)
set_option maxRecDepth 20000 in
theorem gX3_runMinutes_X3_runMinute : GoodIn wsX3_runMinutes (wsV RX3 43 RX3 yX3_runMinute wsX3_runMinute) := goodIn_app (goodIn_of _ (by decide +kernel)) ggX3_runMinutes_X3_runMinute
theorem dX3_runMinutes_0 : decode cX3_runMinutes 0 = .ok (.aload_n 0, 1) := by decide +kernel
theorem dX3_runMinutes_1 : decode cX3_runMinutes 1 = .ok (.invokevirtual 40, 3) := by decide +kernel
theorem dX3_runMinutes_4 : decode cX3_runMinutes 4 = .ok (.iconst 0, 1) := by decide +kernel
theorem dX3_runMinutes_5 : decode cX3_runMinutes 5 = .ok (.istore_n 2, 1) := by decide +kernel
theorem dX3_runMinutes_6 : decode cX3_runMinutes 6 = .ok (.iconst 0, 1) := by decide +kernel
theorem dX3_runMinutes_7 : decode cX3_runMinutes 7 = .ok (.istore_n 3, 1) := by decide +kernel
theorem dX3_runMinutes_8 : decode cX3_runMinutes 8 = .ok (.iload_n 3, 1) := by decide +kernel
theorem dX3_runMinutes_9 : decode cX3_runMinutes 9 = .ok (.iload_n 1, 1) := by decide +kernel
theorem dX3_runMinutes_10 : decode cX3_runMinutes 10 = .ok (.if_icmp .ge 16, 3) := by decide +kernel
theorem dX3_runMinutes_13 : decode cX3_runMinutes 13 = .ok (.iload_n 2, 1) := by decide +kernel
theorem dX3_runMinutes_14 : decode cX3_runMinutes 14 = .ok (.aload_n 0, 1) := by decide +kernel
theorem dX3_runMinutes_15 : decode cX3_runMinutes 15 = .ok (.invokevirtual 43, 3) := by decide +kernel
theorem dX3_runMinutes_18 : decode cX3_runMinutes 18 = .ok (.iadd, 1) := by decide +kernel
theorem dX3_runMinutes_19 : decode cX3_runMinutes 19 = .ok (.istore_n 2, 1) := by decide +kernel
theorem dX3_runMinutes_20 : decode cX3_runMinutes 20 = .ok (.iinc 3 1, 3) := by decide +kernel
theorem dX3_runMinutes_23 : decode cX3_runMinutes 23 = .ok (.goto (-15), 3) := by decide +kernel
theorem dX3_runMinutes_26 : decode cX3_runMinutes 26 = .ok (.iload_n 2, 1) := by decide +kernel
theorem dX3_runMinutes_27 : decode cX3_runMinutes 27 = .ok (.ireturn, 1) := by decide +kernel
set_option maxRecDepth 20000 in
theorem ggX3_runToFinish_X3_rank : GoodIn wsX3_runToFinish wsX3_rank := goodIn_r _ [7, 2, 8, 1, 9, 10, 11, 12, 6, 13, 14, 15, 16, 88, 89, 90, 91, 92, 108, 109, 110, 111, 112, 113, 114, 115, 116, 117, 118, 119, 120, 121, 122, 123, 124, 125, 126, 127, 93, 94, 95, 96, 97, 98, 99, 100, 101, 102, 103, 104, 105, 106, 107] rfl (by decide +kernel)
set_option maxRecDepth 20000 in
theorem gX3_runToFinish_X3_rank : GoodIn wsX3_runToFinish (wsV RX3 40 RX3 yX3_rank wsX3_rank) := goodIn_app (goodIn_of _ (by decide +kernel)) ggX3_runToFinish_X3_rank
set_option maxRecDepth 20000 in
theorem ggX3_runToFinish_X5_allSteps : GoodIn wsX3_runToFinish wsX5_allSteps := goodIn_r _ [21, 22, 108, 109, 110, 111, 112, 113, 114, 115, 116, 117, 118, 119, 120, 121, 122, 123, 124, 125, 126, 127] rfl (by decide +kernel)
set_option maxRecDepth 20000 in
theorem gX3_runToFinish_X5_allSteps : GoodIn wsX3_runToFinish (wsV RX3 51 RX5 yX5_allSteps wsX5_allSteps) := goodIn_app (goodIn_of _ (by decide +kernel)) ggX3_runToFinish_X5_allSteps
set_option maxRecDepth 20000 in
theorem ggX3_runToFinish_X3_runMinute : GoodIn wsX3_runToFinish wsX3_runMinute := goodIn_r _ [26, 1, 27, 28, 29, 6, 30, 2, 31, 32, 33, 34, 35, 36, 37, 14, 15, 16, 38, 39, 40, 41, 42, 43, 44, 45, 46, 47, 48, 49, 50, 51, 52, 53, 54, 55, 56, 57, 58, 59, 60, 61, 62, 63, 64, 9, 65, 66, 67, 68, 17, 18, 19, 20, 21, 22, 69, 70, 71, 72, 73, 74, 75, 76, 77, 78, 79, 80, 81, 82, 83, 84, 85, 86, 87, 88, 89, 90, 91, 92, 93, 94, 95, 96, 97, 98, 99, 100, 101, 102, 103, 104, 105, 106, 107, 108, 109, 110, 111, 112, 113, 114, 115, 116, 117, 118, 119, 120, 121, 122, 123, 124, 125, 126, 127] rfl (by decide +kernel)
set_option maxRecDepth 20000 in
theorem gX3_runToFinish_X3_runMinute : GoodIn wsX3_runToFinish (wsV RX3 43 RX3 yX3_runMinute wsX3_runMinute) := goodIn_app (goodIn_of _ (by decide +kernel)) ggX3_runToFinish_X3_runMinute
theorem dX3_runToFinish_0 : decode cX3_runToFinish 0 = .ok (.aload_n 0, 1) := by decide +kernel
theorem dX3_runToFinish_1 : decode cX3_runToFinish 1 = .ok (.invokevirtual 40, 3) := by decide +kernel
theorem dX3_runToFinish_4 : decode cX3_runToFinish 4 = .ok (.iconst 0, 1) := by decide +kernel
theorem dX3_runToFinish_5 : decode cX3_runToFinish 5 = .ok (.istore_n 1, 1) := by decide +kernel
theorem dX3_runToFinish_6 : decode cX3_runToFinish 6 = .ok (.iload_n 1, 1) := by decide +kernel
theorem dX3_runToFinish_7 : decode cX3_runToFinish 7 = .ok (.sipush 500, 3) := by decide +kernel
theorem dX3_runToFinish_10 : decode cX3_runToFinish 10 = .ok (.if_icmp .ge 33, 3) := by decide +kernel
theorem dX3_runToFinish_13 : decode cX3_runToFinish 13 = .ok (.aload_n 0, 1) := by decide +kernel
theorem dX3_runToFinish_14 : decode cX3_runToFinish 14 = .ok (.getfield 12, 3) := by decide +kernel
theorem dX3_runToFinish_17 : decode cX3_runToFinish 17 = .ok (.getfield 47, 3) := by decide +kernel
theorem dX3_runToFinish_20 : decode cX3_runToFinish 20 = .ok (.aload_n 0, 1) := by decide +kernel
theorem dX3_runToFinish_21 : decode cX3_runToFinish 21 = .ok (.getfield 28, 3) := by decide +kernel
theorem dX3_runToFinish_24 : decode cX3_runToFinish 24 = .ok (.invokevirtual 51, 3) := by decide +kernel
theorem dX3_runToFinish_27 : decode cX3_runToFinish 27 = .ok (.if_icmp .ne 5, 3) := by decide +kernel
theorem dX3_runToFinish_30 : decode cX3_runToFinish 30 = .ok (.iload_n 1, 1) := by decide +kernel
theorem dX3_runToFinish_31 : decode cX3_runToFinish 31 = .ok (.ireturn, 1) := by decide +kernel
theorem dX3_runToFinish_32 : decode cX3_runToFinish 32 = .ok (.aload_n 0, 1) := by decide +kernel
theorem dX3_runToFinish_33 : decode cX3_runToFinish 33 = .ok (.invokevirtual 43, 3) := by decide +kernel
theorem dX3_runToFinish_36 : decode cX3_runToFinish 36 = .ok (.pop, 1) := by decide +kernel
theorem dX3_runToFinish_37 : decode cX3_runToFinish 37 = .ok (.iinc 1 1, 3) := by decide +kernel
theorem dX3_runToFinish_40 : decode cX3_runToFinish 40 = .ok (.goto (-34), 3) := by decide +kernel
theorem dX3_runToFinish_43 : decode cX3_runToFinish 43 = .ok (.aload_n 0, 1) := by decide +kernel
theorem dX3_runToFinish_44 : decode cX3_runToFinish 44 = .ok (.getfield 12, 3) := by decide +kernel
theorem dX3_runToFinish_47 : decode cX3_runToFinish 47 = .ok (.getfield 47, 3) := by decide +kernel
theorem dX3_runToFinish_50 : decode cX3_runToFinish 50 = .ok (.aload_n 0, 1) := by decide +kernel
theorem dX3_runToFinish_51 : decode cX3_runToFinish 51 = .ok (.getfield 28, 3) := by decide +kernel
theorem dX3_runToFinish_54 : decode cX3_runToFinish 54 = .ok (.invokevirtual 51, 3) := by decide +kernel
theorem dX3_runToFinish_57 : decode cX3_runToFinish 57 = .ok (.if_icmp .ne 9, 3) := by decide +kernel
theorem dX3_runToFinish_60 : decode cX3_runToFinish 60 = .ok (.sipush 500, 3) := by decide +kernel
theorem dX3_runToFinish_63 : decode cX3_runToFinish 63 = .ok (.goto 4, 3) := by decide +kernel
theorem dX3_runToFinish_66 : decode cX3_runToFinish 66 = .ok (.iconst (-1), 1) := by decide +kernel
theorem dX3_runToFinish_67 : decode cX3_runToFinish 67 = .ok (.ireturn, 1) := by decide +kernel
set_option maxRecDepth 20000 in
theorem ggX3_runToBurn_X3_rank : GoodIn wsX3_runToBurn wsX3_rank := goodIn_r _ [6, 7, 8, 1, 9, 10, 11, 12, 5, 13, 14, 15, 16, 88, 89, 90, 91, 92, 108, 109, 110, 111, 112, 113, 114, 115, 116, 117, 118, 119, 120, 121, 122, 123, 124, 125, 126, 127, 93, 94, 95, 96, 97, 98, 99, 100, 101, 102, 103, 104, 105, 106, 107] rfl (by decide +kernel)
set_option maxRecDepth 20000 in
theorem gX3_runToBurn_X3_rank : GoodIn wsX3_runToBurn (wsV RX3 40 RX3 yX3_rank wsX3_rank) := goodIn_app (goodIn_of _ (by decide +kernel)) ggX3_runToBurn_X3_rank
set_option maxRecDepth 20000 in
theorem ggX3_runToBurn_X3_runMinute : GoodIn wsX3_runToBurn wsX3_runMinute := goodIn_r _ [20, 1, 21, 22, 23, 5, 24, 7, 25, 26, 27, 28, 29, 30, 31, 14, 15, 16, 32, 33, 34, 35, 36, 37, 38, 39, 40, 41, 42, 43, 44, 45, 46, 47, 48, 49, 50, 51, 52, 53, 54, 55, 56, 57, 58, 9, 59, 60, 61, 62, 63, 64, 65, 66, 67, 68, 69, 70, 71, 72, 73, 74, 75, 76, 77, 78, 79, 80, 81, 82, 83, 84, 85, 86, 87, 88, 89, 90, 91, 92, 93, 94, 95, 96, 97, 98, 99, 100, 101, 102, 103, 104, 105, 106, 107, 108, 109, 110, 111, 112, 113, 114, 115, 116, 117, 118, 119, 120, 121, 122, 123, 124, 125, 126, 127] rfl (by decide +kernel)
set_option maxRecDepth 20000 in
theorem gX3_runToBurn_X3_runMinute : GoodIn wsX3_runToBurn (wsV RX3 43 RX3 yX3_runMinute wsX3_runMinute) := goodIn_app (goodIn_of _ (by decide +kernel)) ggX3_runToBurn_X3_runMinute
theorem dX3_runToBurn_0 : decode cX3_runToBurn 0 = .ok (.aload_n 0, 1) := by decide +kernel
theorem dX3_runToBurn_1 : decode cX3_runToBurn 1 = .ok (.invokevirtual 40, 3) := by decide +kernel
theorem dX3_runToBurn_4 : decode cX3_runToBurn 4 = .ok (.aload_n 0, 1) := by decide +kernel
theorem dX3_runToBurn_5 : decode cX3_runToBurn 5 = .ok (.getfield 12, 3) := by decide +kernel
theorem dX3_runToBurn_8 : decode cX3_runToBurn 8 = .ok (.getfield 56, 3) := by decide +kernel
theorem dX3_runToBurn_11 : decode cX3_runToBurn 11 = .ok (.iload_n 1, 1) := by decide +kernel
theorem dX3_runToBurn_12 : decode cX3_runToBurn 12 = .ok (.iaload, 1) := by decide +kernel
theorem dX3_runToBurn_13 : decode cX3_runToBurn 13 = .ok (.istore_n 2, 1) := by decide +kernel
theorem dX3_runToBurn_14 : decode cX3_runToBurn 14 = .ok (.iconst 1, 1) := by decide +kernel
theorem dX3_runToBurn_15 : decode cX3_runToBurn 15 = .ok (.istore_n 3, 1) := by decide +kernel
theorem dX3_runToBurn_16 : decode cX3_runToBurn 16 = .ok (.iload_n 3, 1) := by decide +kernel
theorem dX3_runToBurn_17 : decode cX3_runToBurn 17 = .ok (.sipush 500, 3) := by decide +kernel
theorem dX3_runToBurn_20 : decode cX3_runToBurn 20 = .ok (.if_icmp .gt 29, 3) := by decide +kernel
theorem dX3_runToBurn_23 : decode cX3_runToBurn 23 = .ok (.aload_n 0, 1) := by decide +kernel
theorem dX3_runToBurn_24 : decode cX3_runToBurn 24 = .ok (.invokevirtual 43, 3) := by decide +kernel
theorem dX3_runToBurn_27 : decode cX3_runToBurn 27 = .ok (.pop, 1) := by decide +kernel
theorem dX3_runToBurn_28 : decode cX3_runToBurn 28 = .ok (.aload_n 0, 1) := by decide +kernel
theorem dX3_runToBurn_29 : decode cX3_runToBurn 29 = .ok (.getfield 12, 3) := by decide +kernel
theorem dX3_runToBurn_32 : decode cX3_runToBurn 32 = .ok (.getfield 56, 3) := by decide +kernel
theorem dX3_runToBurn_35 : decode cX3_runToBurn 35 = .ok (.iload_n 1, 1) := by decide +kernel
theorem dX3_runToBurn_36 : decode cX3_runToBurn 36 = .ok (.iaload, 1) := by decide +kernel
theorem dX3_runToBurn_37 : decode cX3_runToBurn 37 = .ok (.iload_n 2, 1) := by decide +kernel
theorem dX3_runToBurn_38 : decode cX3_runToBurn 38 = .ok (.if_icmp .le 5, 3) := by decide +kernel
theorem dX3_runToBurn_41 : decode cX3_runToBurn 41 = .ok (.iload_n 3, 1) := by decide +kernel
theorem dX3_runToBurn_42 : decode cX3_runToBurn 42 = .ok (.ireturn, 1) := by decide +kernel
theorem dX3_runToBurn_43 : decode cX3_runToBurn 43 = .ok (.iinc 3 1, 3) := by decide +kernel
theorem dX3_runToBurn_46 : decode cX3_runToBurn 46 = .ok (.goto (-30), 3) := by decide +kernel
theorem dX3_runToBurn_49 : decode cX3_runToBurn 49 = .ok (.iconst (-1), 1) := by decide +kernel
theorem dX3_runToBurn_50 : decode cX3_runToBurn 50 = .ok (.ireturn, 1) := by decide +kernel
set_option maxRecDepth 20000 in
theorem ggX3_runMinute_X3_work : GoodIn wsX3_runMinute wsX3_work := goodIn_r _ [6, 1, 7, 8, 9, 10, 11, 12, 13, 14, 15, 16, 17, 18, 19, 20, 21, 22, 23, 24, 25, 75, 76, 77, 78, 79, 80, 81, 82, 83, 84, 85, 86, 87, 88, 89, 90, 91, 92, 93, 94, 95, 96, 97, 98, 99, 100, 101, 102, 103, 104, 105, 106, 107, 108, 109, 110, 111, 112, 113, 114] rfl (by decide +kernel)
set_option maxRecDepth 20000 in
theorem gX3_runMinute_X3_work : GoodIn wsX3_runMinute (wsV RX3 63 RX3 yX3_work wsX3_work) := goodIn_app (goodIn_of _ (by decide +kernel)) ggX3_runMinute_X3_work
set_option maxRecDepth 20000 in
theorem ggX3_runMinute_X3_growOld : GoodIn wsX3_runMinute wsX3_growOld := goodIn_r _ [29, 1, 7, 15, 16, 17, 30, 31, 32, 5, 33, 34, 35, 36, 21, 37, 24, 38, 39, 40, 75, 76, 77, 78, 79, 80, 81, 82, 83, 84, 85, 86, 87, 88, 89, 90, 91, 92, 93, 94, 95, 96, 97, 98, 99, 100, 101, 102, 103, 104, 105, 106, 107, 108, 109, 110, 111, 112, 113, 114] rfl (by decide +kernel)
set_option maxRecDepth 20000 in
theorem gX3_runMinute_X3_growOld : GoodIn wsX3_runMinute (wsV RX3 66 RX3 yX3_growOld wsX3_growOld) := goodIn_app (goodIn_of _ (by decide +kernel)) ggX3_runMinute_X3_growOld
set_option maxRecDepth 20000 in
theorem ggX3_runMinute_X3_startSteps : GoodIn wsX3_runMinute wsX3_startSteps := goodIn_r _ [44, 7, 45, 1, 46, 47, 48, 5, 49, 50, 51, 52, 53, 54, 55, 15, 16, 17, 56, 57, 58, 59, 8, 9, 10, 11, 12, 13, 14, 60, 61, 62, 63, 64, 65, 66, 67, 68, 69, 70, 21, 71, 38, 23, 72, 73, 74, 75, 76, 77, 78, 79, 95, 96, 97, 98, 99, 100, 101, 102, 103, 104, 105, 106, 107, 108, 109, 110, 111, 112, 113, 114, 80, 81, 82, 83, 84, 85, 86, 87, 88, 89, 90, 91, 92, 93, 94] rfl (by decide +kernel)
set_option maxRecDepth 20000 in
theorem gX3_runMinute_X3_startSteps : GoodIn wsX3_runMinute (wsV RX3 70 RX3 yX3_startSteps wsX3_startSteps) := goodIn_app (goodIn_of _ (by decide +kernel)) ggX3_runMinute_X3_startSteps
set_option maxRecDepth 20000 in
theorem ggX3_runMinute_J6_bitCount_0f7a4 : GoodIn wsX3_runMinute wsJ6_bitCount_0f7a4 := goodIn_r _ [11, 12, 13, 14] rfl (by decide +kernel)
set_option maxRecDepth 20000 in
theorem gX3_runMinute_J6_bitCount_0f7a4 : GoodIn wsX3_runMinute (va_wsS RX3 76 yJ6_bitCount_0f7a4 wsJ6_bitCount_0f7a4) := goodIn_app (goodIn_of _ (by decide +kernel)) ggX3_runMinute_J6_bitCount_0f7a4
theorem dX3_runMinute_0 : decode cX3_runMinute 0 = .ok (.iconst 0, 1) := by decide +kernel
theorem dX3_runMinute_1 : decode cX3_runMinute 1 = .ok (.istore_n 1, 1) := by decide +kernel
theorem dX3_runMinute_2 : decode cX3_runMinute 2 = .ok (.aload_n 0, 1) := by decide +kernel
theorem dX3_runMinute_3 : decode cX3_runMinute 3 = .ok (.getfield 12, 3) := by decide +kernel
theorem dX3_runMinute_6 : decode cX3_runMinute 6 = .ok (.getfield 59, 3) := by decide +kernel
theorem dX3_runMinute_9 : decode cX3_runMinute 9 = .ok (.ifCond .ne 17, 3) := by decide +kernel
theorem dX3_runMinute_12 : decode cX3_runMinute 12 = .ok (.aload_n 0, 1) := by decide +kernel
theorem dX3_runMinute_13 : decode cX3_runMinute 13 = .ok (.invokevirtual 63, 3) := by decide +kernel
theorem dX3_runMinute_16 : decode cX3_runMinute 16 = .ok (.istore_n 1, 1) := by decide +kernel
theorem dX3_runMinute_17 : decode cX3_runMinute 17 = .ok (.aload_n 0, 1) := by decide +kernel
theorem dX3_runMinute_18 : decode cX3_runMinute 18 = .ok (.iload_n 1, 1) := by decide +kernel
theorem dX3_runMinute_19 : decode cX3_runMinute 19 = .ok (.invokevirtual 66, 3) := by decide +kernel
theorem dX3_runMinute_22 : decode cX3_runMinute 22 = .ok (.aload_n 0, 1) := by decide +kernel
theorem dX3_runMinute_23 : decode cX3_runMinute 23 = .ok (.invokevirtual 70, 3) := by decide +kernel
theorem dX3_runMinute_26 : decode cX3_runMinute 26 = .ok (.aload_n 0, 1) := by decide +kernel
theorem dX3_runMinute_27 : decode cX3_runMinute 27 = .ok (.getfield 12, 3) := by decide +kernel
theorem dX3_runMinute_30 : decode cX3_runMinute 30 = .ok (.dup, 1) := by decide +kernel
theorem dX3_runMinute_31 : decode cX3_runMinute 31 = .ok (.getfield 73, 3) := by decide +kernel
theorem dX3_runMinute_34 : decode cX3_runMinute 34 = .ok (.iconst 1, 1) := by decide +kernel
theorem dX3_runMinute_35 : decode cX3_runMinute 35 = .ok (.iadd, 1) := by decide +kernel
theorem dX3_runMinute_36 : decode cX3_runMinute 36 = .ok (.putfield 73, 3) := by decide +kernel
theorem dX3_runMinute_39 : decode cX3_runMinute 39 = .ok (.iload_n 1, 1) := by decide +kernel
theorem dX3_runMinute_40 : decode cX3_runMinute 40 = .ok (.invokestatic 76, 3) := by decide +kernel
theorem dX3_runMinute_43 : decode cX3_runMinute 43 = .ok (.ireturn, 1) := by decide +kernel
set_option maxRecDepth 20000 in
theorem ggX3_work_J6_bitCount_0f7a4 : GoodIn wsX3_work wsJ6_bitCount_0f7a4 := goodIn_r _ [6, 7, 8, 9] rfl (by decide +kernel)
set_option maxRecDepth 20000 in
theorem gX3_work_J6_bitCount_0f7a4 : GoodIn wsX3_work (va_wsS RX3 76 yJ6_bitCount_0f7a4 wsJ6_bitCount_0f7a4) := goodIn_app (goodIn_of _ (by decide +kernel)) ggX3_work_J6_bitCount_0f7a4
set_option maxRecDepth 20000 in
theorem ggX3_work_X11_contains : GoodIn wsX3_work wsX11_contains := goodIn_r _ [12] rfl (by decide +kernel)
set_option maxRecDepth 20000 in
theorem gX3_work_X11_contains_n100 : GoodIn wsX3_work (wsX11_contains) := ggX3_work_X11_contains
set_option maxRecDepth 20000 in
theorem ggX3_work_X8_complete : GoodIn wsX3_work wsX8_complete := goodIn_r _ [17, 18, 19, 20, 26, 27, 28, 29, 30, 31, 32, 33, 34, 35, 36, 37, 38, 39, 40] rfl (by decide +kernel)
set_option maxRecDepth 20000 in
theorem gX3_work_X8_complete : GoodIn wsX3_work (wsV RX3 107 RX8 yX8_complete wsX8_complete) := goodIn_app (goodIn_of _ (by decide +kernel)) ggX3_work_X8_complete
theorem dX3_work_0 : decode cX3_work 0 = .ok (.iconst 0, 1) := by decide +kernel
theorem dX3_work_1 : decode cX3_work 1 = .ok (.istore_n 1, 1) := by decide +kernel
theorem dX3_work_2 : decode cX3_work 2 = .ok (.aload_n 0, 1) := by decide +kernel
theorem dX3_work_3 : decode cX3_work 3 = .ok (.getfield 12, 3) := by decide +kernel
theorem dX3_work_6 : decode cX3_work 6 = .ok (.getfield 82, 3) := by decide +kernel
theorem dX3_work_9 : decode cX3_work 9 = .ok (.istore_n 2, 1) := by decide +kernel
theorem dX3_work_10 : decode cX3_work 10 = .ok (.aload_n 0, 1) := by decide +kernel
theorem dX3_work_11 : decode cX3_work 11 = .ok (.getfield 12, 3) := by decide +kernel
theorem dX3_work_14 : decode cX3_work 14 = .ok (.dup, 1) := by decide +kernel
theorem dX3_work_15 : decode cX3_work 15 = .ok (.getfield 85, 3) := by decide +kernel
theorem dX3_work_18 : decode cX3_work 18 = .ok (.iload_n 2, 1) := by decide +kernel
theorem dX3_work_19 : decode cX3_work 19 = .ok (.aload_n 0, 1) := by decide +kernel
theorem dX3_work_20 : decode cX3_work 20 = .ok (.getfield 28, 3) := by decide +kernel
theorem dX3_work_23 : decode cX3_work 23 = .ok (.getfield 88, 3) := by decide +kernel
theorem dX3_work_26 : decode cX3_work 26 = .ok (.iconst (-1), 1) := by decide +kernel
theorem dX3_work_27 : decode cX3_work 27 = .ok (.ixor, 1) := by decide +kernel
theorem dX3_work_28 : decode cX3_work 28 = .ok (.iand, 1) := by decide +kernel
theorem dX3_work_29 : decode cX3_work 29 = .ok (.invokestatic 76, 3) := by decide +kernel
theorem dX3_work_32 : decode cX3_work 32 = .ok (.iadd, 1) := by decide +kernel
theorem dX3_work_33 : decode cX3_work 33 = .ok (.putfield 85, 3) := by decide +kernel
theorem dX3_work_36 : decode cX3_work 36 = .ok (.iconst 0, 1) := by decide +kernel
theorem dX3_work_37 : decode cX3_work 37 = .ok (.istore_n 3, 1) := by decide +kernel
theorem dX3_work_38 : decode cX3_work 38 = .ok (.iload_n 3, 1) := by decide +kernel
theorem dX3_work_39 : decode cX3_work 39 = .ok (.aload_n 0, 1) := by decide +kernel
theorem dX3_work_40 : decode cX3_work 40 = .ok (.getfield 28, 3) := by decide +kernel
theorem dX3_work_43 : decode cX3_work 43 = .ok (.getfield 91, 3) := by decide +kernel
theorem dX3_work_46 : decode cX3_work 46 = .ok (.getfield 95, 3) := by decide +kernel
theorem dX3_work_49 : decode cX3_work 49 = .ok (.if_icmp .ge 56, 3) := by decide +kernel
theorem dX3_work_52 : decode cX3_work 52 = .ok (.iload_n 2, 1) := by decide +kernel
theorem dX3_work_53 : decode cX3_work 53 = .ok (.iload_n 3, 1) := by decide +kernel
theorem dX3_work_54 : decode cX3_work 54 = .ok (.invokestatic 100, 3) := by decide +kernel
theorem dX3_work_57 : decode cX3_work 57 = .ok (.ifCond .eq 42, 3) := by decide +kernel
theorem dX3_work_60 : decode cX3_work 60 = .ok (.aload_n 0, 1) := by decide +kernel
theorem dX3_work_61 : decode cX3_work 61 = .ok (.getfield 12, 3) := by decide +kernel
theorem dX3_work_64 : decode cX3_work 64 = .ok (.getfield 104, 3) := by decide +kernel
theorem dX3_work_67 : decode cX3_work 67 = .ok (.iload_n 3, 1) := by decide +kernel
theorem dX3_work_68 : decode cX3_work 68 = .ok (.dup2, 1) := by decide +kernel
theorem dX3_work_69 : decode cX3_work 69 = .ok (.iaload, 1) := by decide +kernel
theorem dX3_work_70 : decode cX3_work 70 = .ok (.iconst 1, 1) := by decide +kernel
theorem dX3_work_71 : decode cX3_work 71 = .ok (.isub, 1) := by decide +kernel
theorem dX3_work_72 : decode cX3_work 72 = .ok (.iastore, 1) := by decide +kernel
theorem dX3_work_73 : decode cX3_work 73 = .ok (.aload_n 0, 1) := by decide +kernel
theorem dX3_work_74 : decode cX3_work 74 = .ok (.getfield 12, 3) := by decide +kernel
theorem dX3_work_77 : decode cX3_work 77 = .ok (.getfield 104, 3) := by decide +kernel
theorem dX3_work_80 : decode cX3_work 80 = .ok (.iload_n 3, 1) := by decide +kernel
theorem dX3_work_81 : decode cX3_work 81 = .ok (.iaload, 1) := by decide +kernel
theorem dX3_work_82 : decode cX3_work 82 = .ok (.ifCond .ne 17, 3) := by decide +kernel
theorem dX3_work_85 : decode cX3_work 85 = .ok (.aload_n 0, 1) := by decide +kernel
theorem dX3_work_86 : decode cX3_work 86 = .ok (.getfield 12, 3) := by decide +kernel
theorem dX3_work_89 : decode cX3_work 89 = .ok (.iload_n 3, 1) := by decide +kernel
theorem dX3_work_90 : decode cX3_work 90 = .ok (.invokevirtual 107, 3) := by decide +kernel
theorem dX3_work_93 : decode cX3_work 93 = .ok (.iload_n 1, 1) := by decide +kernel
theorem dX3_work_94 : decode cX3_work 94 = .ok (.iconst 1, 1) := by decide +kernel
theorem dX3_work_95 : decode cX3_work 95 = .ok (.iload_n 3, 1) := by decide +kernel
theorem dX3_work_96 : decode cX3_work 96 = .ok (.ishl, 1) := by decide +kernel
theorem dX3_work_97 : decode cX3_work 97 = .ok (.ior, 1) := by decide +kernel
theorem dX3_work_98 : decode cX3_work 98 = .ok (.istore_n 1, 1) := by decide +kernel
theorem dX3_work_99 : decode cX3_work 99 = .ok (.iinc 3 1, 3) := by decide +kernel
theorem dX3_work_102 : decode cX3_work 102 = .ok (.goto (-64), 3) := by decide +kernel
theorem dX3_work_105 : decode cX3_work 105 = .ok (.iload_n 1, 1) := by decide +kernel
theorem dX3_work_106 : decode cX3_work 106 = .ok (.ireturn, 1) := by decide +kernel
set_option maxRecDepth 20000 in
theorem ggX3_growOld_X11_contains : GoodIn wsX3_growOld wsX11_contains := goodIn_r _ [5] rfl (by decide +kernel)
set_option maxRecDepth 20000 in
theorem gX3_growOld_X11_contains_n100 : GoodIn wsX3_growOld (wsX11_contains) := ggX3_growOld_X11_contains
set_option maxRecDepth 20000 in
theorem ggX3_growOld_X3_isContinued : GoodIn wsX3_growOld wsX3_isContinued := goodIn_r _ [10, 2, 1, 20, 21, 22, 23, 24, 40, 41, 42, 43, 44, 45, 46, 47, 48, 49, 50, 51, 52, 53, 54, 55, 56, 25, 26, 27, 28, 29, 30, 31, 32, 33, 34, 35, 36, 37, 38, 39] rfl (by decide +kernel)
set_option maxRecDepth 20000 in
theorem gX3_growOld_X3_isContinued : GoodIn wsX3_growOld (wsV RX3 113 RX3 yX3_isContinued wsX3_isContinued) := goodIn_app (goodIn_of _ (by decide +kernel)) ggX3_growOld_X3_isContinued
set_option maxRecDepth 20000 in
theorem ggX3_growOld_X8_burn : GoodIn wsX3_growOld wsX8_burn := goodIn_r _ [15, 16, 17, 18, 19, 25, 26, 27, 28, 29, 30, 31, 32, 33, 34, 35, 36, 37, 38, 39] rfl (by decide +kernel)
set_option maxRecDepth 20000 in
theorem gX3_growOld_X8_burn : GoodIn wsX3_growOld (wsV RX3 123 RX8 yX8_burn wsX8_burn) := goodIn_app (goodIn_of _ (by decide +kernel)) ggX3_growOld_X8_burn
theorem dX3_growOld_0 : decode cX3_growOld 0 = .ok (.aload_n 0, 1) := by decide +kernel
theorem dX3_growOld_1 : decode cX3_growOld 1 = .ok (.getfield 12, 3) := by decide +kernel
theorem dX3_growOld_4 : decode cX3_growOld 4 = .ok (.getfield 47, 3) := by decide +kernel
theorem dX3_growOld_7 : decode cX3_growOld 7 = .ok (.aload_n 0, 1) := by decide +kernel
theorem dX3_growOld_8 : decode cX3_growOld 8 = .ok (.getfield 28, 3) := by decide +kernel
theorem dX3_growOld_11 : decode cX3_growOld 11 = .ok (.getfield 110, 3) := by decide +kernel
theorem dX3_growOld_14 : decode cX3_growOld 14 = .ok (.iand, 1) := by decide +kernel
theorem dX3_growOld_15 : decode cX3_growOld 15 = .ok (.iload_n 1, 1) := by decide +kernel
theorem dX3_growOld_16 : decode cX3_growOld 16 = .ok (.iconst (-1), 1) := by decide +kernel
theorem dX3_growOld_17 : decode cX3_growOld 17 = .ok (.ixor, 1) := by decide +kernel
theorem dX3_growOld_18 : decode cX3_growOld 18 = .ok (.iand, 1) := by decide +kernel
theorem dX3_growOld_19 : decode cX3_growOld 19 = .ok (.istore_n 2, 1) := by decide +kernel
theorem dX3_growOld_20 : decode cX3_growOld 20 = .ok (.iconst 0, 1) := by decide +kernel
theorem dX3_growOld_21 : decode cX3_growOld 21 = .ok (.istore_n 3, 1) := by decide +kernel
theorem dX3_growOld_22 : decode cX3_growOld 22 = .ok (.iload_n 3, 1) := by decide +kernel
theorem dX3_growOld_23 : decode cX3_growOld 23 = .ok (.aload_n 0, 1) := by decide +kernel
theorem dX3_growOld_24 : decode cX3_growOld 24 = .ok (.getfield 28, 3) := by decide +kernel
theorem dX3_growOld_27 : decode cX3_growOld 27 = .ok (.getfield 91, 3) := by decide +kernel
theorem dX3_growOld_30 : decode cX3_growOld 30 = .ok (.getfield 95, 3) := by decide +kernel
theorem dX3_growOld_33 : decode cX3_growOld 33 = .ok (.if_icmp .ge 65, 3) := by decide +kernel
theorem dX3_growOld_36 : decode cX3_growOld 36 = .ok (.iload_n 2, 1) := by decide +kernel
theorem dX3_growOld_37 : decode cX3_growOld 37 = .ok (.iload_n 3, 1) := by decide +kernel
theorem dX3_growOld_38 : decode cX3_growOld 38 = .ok (.invokestatic 100, 3) := by decide +kernel
theorem dX3_growOld_41 : decode cX3_growOld 41 = .ok (.ifCond .eq 51, 3) := by decide +kernel
theorem dX3_growOld_44 : decode cX3_growOld 44 = .ok (.aload_n 0, 1) := by decide +kernel
theorem dX3_growOld_45 : decode cX3_growOld 45 = .ok (.iload_n 3, 1) := by decide +kernel
theorem dX3_growOld_46 : decode cX3_growOld 46 = .ok (.invokevirtual 113, 3) := by decide +kernel
theorem dX3_growOld_49 : decode cX3_growOld 49 = .ok (.ifCond .ne 43, 3) := by decide +kernel
theorem dX3_growOld_52 : decode cX3_growOld 52 = .ok (.aload_n 0, 1) := by decide +kernel
theorem dX3_growOld_53 : decode cX3_growOld 53 = .ok (.getfield 12, 3) := by decide +kernel
theorem dX3_growOld_56 : decode cX3_growOld 56 = .ok (.getfield 117, 3) := by decide +kernel
theorem dX3_growOld_59 : decode cX3_growOld 59 = .ok (.iload_n 3, 1) := by decide +kernel
theorem dX3_growOld_60 : decode cX3_growOld 60 = .ok (.dup2, 1) := by decide +kernel
theorem dX3_growOld_61 : decode cX3_growOld 61 = .ok (.iaload, 1) := by decide +kernel
theorem dX3_growOld_62 : decode cX3_growOld 62 = .ok (.iconst 1, 1) := by decide +kernel
theorem dX3_growOld_63 : decode cX3_growOld 63 = .ok (.iadd, 1) := by decide +kernel
theorem dX3_growOld_64 : decode cX3_growOld 64 = .ok (.iastore, 1) := by decide +kernel
theorem dX3_growOld_65 : decode cX3_growOld 65 = .ok (.aload_n 0, 1) := by decide +kernel
theorem dX3_growOld_66 : decode cX3_growOld 66 = .ok (.getfield 12, 3) := by decide +kernel
theorem dX3_growOld_69 : decode cX3_growOld 69 = .ok (.getfield 117, 3) := by decide +kernel
theorem dX3_growOld_72 : decode cX3_growOld 72 = .ok (.iload_n 3, 1) := by decide +kernel
theorem dX3_growOld_73 : decode cX3_growOld 73 = .ok (.iaload, 1) := by decide +kernel
theorem dX3_growOld_74 : decode cX3_growOld 74 = .ok (.aload_n 0, 1) := by decide +kernel
theorem dX3_growOld_75 : decode cX3_growOld 75 = .ok (.getfield 28, 3) := by decide +kernel
theorem dX3_growOld_78 : decode cX3_growOld 78 = .ok (.getfield 120, 3) := by decide +kernel
theorem dX3_growOld_81 : decode cX3_growOld 81 = .ok (.if_icmp .le 11, 3) := by decide +kernel
theorem dX3_growOld_84 : decode cX3_growOld 84 = .ok (.aload_n 0, 1) := by decide +kernel
theorem dX3_growOld_85 : decode cX3_growOld 85 = .ok (.getfield 12, 3) := by decide +kernel
theorem dX3_growOld_88 : decode cX3_growOld 88 = .ok (.iload_n 3, 1) := by decide +kernel
theorem dX3_growOld_89 : decode cX3_growOld 89 = .ok (.invokevirtual 123, 3) := by decide +kernel
theorem dX3_growOld_92 : decode cX3_growOld 92 = .ok (.iinc 3 1, 3) := by decide +kernel
theorem dX3_growOld_95 : decode cX3_growOld 95 = .ok (.goto (-73), 3) := by decide +kernel
theorem dX3_growOld_98 : decode cX3_growOld 98 = .ok (.return_, 1) := by decide +kernel
set_option maxRecDepth 20000 in
theorem ggX3_startSteps_X3_readySteps : GoodIn wsX3_startSteps wsX3_readySteps := goodIn_r _ [8, 1, 3, 9, 10, 11, 12, 13, 14, 15, 16, 17, 47, 48, 49, 50, 51, 72, 73, 74, 75, 76, 77, 78, 79, 80, 81, 82, 83, 84, 85, 86, 52, 53, 54, 55, 56, 57, 58, 59, 60, 61, 62, 63, 64, 65, 66, 67, 68, 69, 70, 71] rfl (by decide +kernel)
set_option maxRecDepth 20000 in
theorem gX3_startSteps_X3_readySteps : GoodIn wsX3_startSteps (wsV RX3 126 RX3 yX3_readySteps wsX3_readySteps) := goodIn_app (goodIn_of _ (by decide +kernel)) ggX3_startSteps_X3_readySteps
set_option maxRecDepth 20000 in
theorem ggX3_startSteps_X11_contains : GoodIn wsX3_startSteps wsX11_contains := goodIn_r _ [17] rfl (by decide +kernel)
set_option maxRecDepth 20000 in
theorem gX3_startSteps_X11_contains_n100 : GoodIn wsX3_startSteps (wsX11_contains) := ggX3_startSteps_X11_contains
set_option maxRecDepth 20000 in
theorem ggX3_startSteps_X3_hasFreeCook : GoodIn wsX3_startSteps wsX3_hasFreeCook := goodIn_r _ [21, 1, 3, 15, 16, 17, 22, 23, 24, 25, 26, 27, 28, 47, 48, 49, 50, 51, 52, 53, 54, 55, 56, 57, 58, 59, 60, 61, 62, 63, 64, 65, 66, 67, 68, 72, 73, 74, 75, 76, 77, 78, 79, 80, 81, 82, 83, 84, 85, 86] rfl (by decide +kernel)
set_option maxRecDepth 20000 in
theorem gX3_startSteps_X3_hasFreeCook : GoodIn wsX3_startSteps (wsV RX3 129 RX3 yX3_hasFreeCook wsX3_hasFreeCook) := goodIn_app (goodIn_of _ (by decide +kernel)) ggX3_startSteps_X3_hasFreeCook
set_option maxRecDepth 20000 in
theorem ggX3_startSteps_X3_hasFreePan : GoodIn wsX3_startSteps wsX3_hasFreePan := goodIn_r _ [32, 1, 33, 34, 35, 7, 36, 3, 22, 23, 24, 25, 26, 27, 28, 47, 48, 49, 50, 51, 52, 53, 54, 55, 56, 57, 58, 59, 60, 61, 62, 63, 64, 65, 66, 67, 68, 72, 73, 74, 75, 76, 77, 78, 79, 80, 81, 82, 83, 84, 85, 86, 69, 70, 71] rfl (by decide +kernel)
set_option maxRecDepth 20000 in
theorem gX3_startSteps_X3_hasFreePan : GoodIn wsX3_startSteps (wsV RX3 132 RX3 yX3_hasFreePan wsX3_hasFreePan) := goodIn_app (goodIn_of _ (by decide +kernel)) ggX3_startSteps_X3_hasFreePan
set_option maxRecDepth 20000 in
theorem ggX3_startSteps_X8_start : GoodIn wsX3_startSteps wsX8_start := goodIn_r _ [41, 42, 43, 44, 45, 46, 72, 73, 74, 75, 76, 77, 78, 79, 80, 81, 82, 83, 84, 85, 86] rfl (by decide +kernel)
set_option maxRecDepth 20000 in
theorem gX3_startSteps_X8_start : GoodIn wsX3_startSteps (wsV RX3 135 RX8 yX8_start wsX8_start) := goodIn_app (goodIn_of _ (by decide +kernel)) ggX3_startSteps_X8_start
theorem dX3_startSteps_0 : decode cX3_startSteps 0 = .ok (.aload_n 0, 1) := by decide +kernel
theorem dX3_startSteps_1 : decode cX3_startSteps 1 = .ok (.invokevirtual 126, 3) := by decide +kernel
theorem dX3_startSteps_4 : decode cX3_startSteps 4 = .ok (.istore_n 1, 1) := by decide +kernel
theorem dX3_startSteps_5 : decode cX3_startSteps 5 = .ok (.iconst 0, 1) := by decide +kernel
theorem dX3_startSteps_6 : decode cX3_startSteps 6 = .ok (.istore_n 2, 1) := by decide +kernel
theorem dX3_startSteps_7 : decode cX3_startSteps 7 = .ok (.iload_n 2, 1) := by decide +kernel
theorem dX3_startSteps_8 : decode cX3_startSteps 8 = .ok (.aload_n 0, 1) := by decide +kernel
theorem dX3_startSteps_9 : decode cX3_startSteps 9 = .ok (.getfield 28, 3) := by decide +kernel
theorem dX3_startSteps_12 : decode cX3_startSteps 12 = .ok (.getfield 91, 3) := by decide +kernel
theorem dX3_startSteps_15 : decode cX3_startSteps 15 = .ok (.getfield 95, 3) := by decide +kernel
theorem dX3_startSteps_18 : decode cX3_startSteps 18 = .ok (.if_icmp .ge 48, 3) := by decide +kernel
theorem dX3_startSteps_21 : decode cX3_startSteps 21 = .ok (.aload_n 0, 1) := by decide +kernel
theorem dX3_startSteps_22 : decode cX3_startSteps 22 = .ok (.getfield 22, 3) := by decide +kernel
theorem dX3_startSteps_25 : decode cX3_startSteps 25 = .ok (.iload_n 2, 1) := by decide +kernel
theorem dX3_startSteps_26 : decode cX3_startSteps 26 = .ok (.iaload, 1) := by decide +kernel
theorem dX3_startSteps_27 : decode cX3_startSteps 27 = .ok (.istore_n 3, 1) := by decide +kernel
theorem dX3_startSteps_28 : decode cX3_startSteps 28 = .ok (.iload_n 1, 1) := by decide +kernel
theorem dX3_startSteps_29 : decode cX3_startSteps 29 = .ok (.iload_n 3, 1) := by decide +kernel
theorem dX3_startSteps_30 : decode cX3_startSteps 30 = .ok (.invokestatic 100, 3) := by decide +kernel
theorem dX3_startSteps_33 : decode cX3_startSteps 33 = .ok (.ifCond .eq 27, 3) := by decide +kernel
theorem dX3_startSteps_36 : decode cX3_startSteps 36 = .ok (.aload_n 0, 1) := by decide +kernel
theorem dX3_startSteps_37 : decode cX3_startSteps 37 = .ok (.iload_n 3, 1) := by decide +kernel
theorem dX3_startSteps_38 : decode cX3_startSteps 38 = .ok (.invokevirtual 129, 3) := by decide +kernel
theorem dX3_startSteps_41 : decode cX3_startSteps 41 = .ok (.ifCond .eq 19, 3) := by decide +kernel
theorem dX3_startSteps_44 : decode cX3_startSteps 44 = .ok (.aload_n 0, 1) := by decide +kernel
theorem dX3_startSteps_45 : decode cX3_startSteps 45 = .ok (.iload_n 3, 1) := by decide +kernel
theorem dX3_startSteps_46 : decode cX3_startSteps 46 = .ok (.invokevirtual 132, 3) := by decide +kernel
theorem dX3_startSteps_49 : decode cX3_startSteps 49 = .ok (.ifCond .eq 11, 3) := by decide +kernel
theorem dX3_startSteps_52 : decode cX3_startSteps 52 = .ok (.aload_n 0, 1) := by decide +kernel
theorem dX3_startSteps_53 : decode cX3_startSteps 53 = .ok (.getfield 12, 3) := by decide +kernel
theorem dX3_startSteps_56 : decode cX3_startSteps 56 = .ok (.iload_n 3, 1) := by decide +kernel
theorem dX3_startSteps_57 : decode cX3_startSteps 57 = .ok (.invokevirtual 135, 3) := by decide +kernel
theorem dX3_startSteps_60 : decode cX3_startSteps 60 = .ok (.iinc 2 1, 3) := by decide +kernel
theorem dX3_startSteps_63 : decode cX3_startSteps 63 = .ok (.goto (-56), 3) := by decide +kernel
theorem dX3_startSteps_66 : decode cX3_startSteps 66 = .ok (.return_, 1) := by decide +kernel
set_option maxRecDepth 20000 in
theorem ggX3_readySteps_X5_allSteps : GoodIn wsX3_readySteps wsX5_allSteps := goodIn_r _ [7, 8, 32, 33, 34, 35, 36, 37, 38, 39, 40, 41, 42, 43, 44, 45, 46, 47, 48, 49, 50, 51] rfl (by decide +kernel)
set_option maxRecDepth 20000 in
theorem gX3_readySteps_X5_allSteps : GoodIn wsX3_readySteps (wsV RX3 51 RX5 yX5_allSteps wsX5_allSteps) := goodIn_app (goodIn_of _ (by decide +kernel)) ggX3_readySteps_X5_allSteps
set_option maxRecDepth 20000 in
theorem ggX3_readySteps_X11_contains : GoodIn wsX3_readySteps wsX11_contains := goodIn_r _ [11] rfl (by decide +kernel)
set_option maxRecDepth 20000 in
theorem gX3_readySteps_X11_contains_n100 : GoodIn wsX3_readySteps (wsX11_contains) := ggX3_readySteps_X11_contains
theorem dX3_readySteps_0 : decode cX3_readySteps 0 = .ok (.iconst 0, 1) := by decide +kernel
theorem dX3_readySteps_1 : decode cX3_readySteps 1 = .ok (.istore_n 1, 1) := by decide +kernel
theorem dX3_readySteps_2 : decode cX3_readySteps 2 = .ok (.aload_n 0, 1) := by decide +kernel
theorem dX3_readySteps_3 : decode cX3_readySteps 3 = .ok (.getfield 28, 3) := by decide +kernel
theorem dX3_readySteps_6 : decode cX3_readySteps 6 = .ok (.invokevirtual 51, 3) := by decide +kernel
theorem dX3_readySteps_9 : decode cX3_readySteps 9 = .ok (.aload_n 0, 1) := by decide +kernel
theorem dX3_readySteps_10 : decode cX3_readySteps 10 = .ok (.getfield 12, 3) := by decide +kernel
theorem dX3_readySteps_13 : decode cX3_readySteps 13 = .ok (.getfield 82, 3) := by decide +kernel
theorem dX3_readySteps_16 : decode cX3_readySteps 16 = .ok (.aload_n 0, 1) := by decide +kernel
theorem dX3_readySteps_17 : decode cX3_readySteps 17 = .ok (.getfield 12, 3) := by decide +kernel
theorem dX3_readySteps_20 : decode cX3_readySteps 20 = .ok (.getfield 47, 3) := by decide +kernel
theorem dX3_readySteps_23 : decode cX3_readySteps 23 = .ok (.ior, 1) := by decide +kernel
theorem dX3_readySteps_24 : decode cX3_readySteps 24 = .ok (.iconst (-1), 1) := by decide +kernel
theorem dX3_readySteps_25 : decode cX3_readySteps 25 = .ok (.ixor, 1) := by decide +kernel
theorem dX3_readySteps_26 : decode cX3_readySteps 26 = .ok (.iand, 1) := by decide +kernel
theorem dX3_readySteps_27 : decode cX3_readySteps 27 = .ok (.istore_n 2, 1) := by decide +kernel
theorem dX3_readySteps_28 : decode cX3_readySteps 28 = .ok (.iconst 0, 1) := by decide +kernel
theorem dX3_readySteps_29 : decode cX3_readySteps 29 = .ok (.istore_n 3, 1) := by decide +kernel
theorem dX3_readySteps_30 : decode cX3_readySteps 30 = .ok (.iload_n 3, 1) := by decide +kernel
theorem dX3_readySteps_31 : decode cX3_readySteps 31 = .ok (.aload_n 0, 1) := by decide +kernel
theorem dX3_readySteps_32 : decode cX3_readySteps 32 = .ok (.getfield 28, 3) := by decide +kernel
theorem dX3_readySteps_35 : decode cX3_readySteps 35 = .ok (.getfield 91, 3) := by decide +kernel
theorem dX3_readySteps_38 : decode cX3_readySteps 38 = .ok (.getfield 95, 3) := by decide +kernel
theorem dX3_readySteps_41 : decode cX3_readySteps 41 = .ok (.if_icmp .ge 45, 3) := by decide +kernel
theorem dX3_readySteps_44 : decode cX3_readySteps 44 = .ok (.iload_n 2, 1) := by decide +kernel
theorem dX3_readySteps_45 : decode cX3_readySteps 45 = .ok (.iload_n 3, 1) := by decide +kernel
theorem dX3_readySteps_46 : decode cX3_readySteps 46 = .ok (.invokestatic 100, 3) := by decide +kernel
theorem dX3_readySteps_49 : decode cX3_readySteps 49 = .ok (.ifCond .eq 31, 3) := by decide +kernel
theorem dX3_readySteps_52 : decode cX3_readySteps 52 = .ok (.aload_n 0, 1) := by decide +kernel
theorem dX3_readySteps_53 : decode cX3_readySteps 53 = .ok (.getfield 28, 3) := by decide +kernel
theorem dX3_readySteps_56 : decode cX3_readySteps 56 = .ok (.getfield 138, 3) := by decide +kernel
theorem dX3_readySteps_59 : decode cX3_readySteps 59 = .ok (.iload_n 3, 1) := by decide +kernel
theorem dX3_readySteps_60 : decode cX3_readySteps 60 = .ok (.iaload, 1) := by decide +kernel
theorem dX3_readySteps_61 : decode cX3_readySteps 61 = .ok (.aload_n 0, 1) := by decide +kernel
theorem dX3_readySteps_62 : decode cX3_readySteps 62 = .ok (.getfield 12, 3) := by decide +kernel
theorem dX3_readySteps_65 : decode cX3_readySteps 65 = .ok (.getfield 47, 3) := by decide +kernel
theorem dX3_readySteps_68 : decode cX3_readySteps 68 = .ok (.iconst (-1), 1) := by decide +kernel
theorem dX3_readySteps_69 : decode cX3_readySteps 69 = .ok (.ixor, 1) := by decide +kernel
theorem dX3_readySteps_70 : decode cX3_readySteps 70 = .ok (.iand, 1) := by decide +kernel
theorem dX3_readySteps_71 : decode cX3_readySteps 71 = .ok (.ifCond .ne 9, 3) := by decide +kernel
theorem dX3_readySteps_74 : decode cX3_readySteps 74 = .ok (.iload_n 1, 1) := by decide +kernel
theorem dX3_readySteps_75 : decode cX3_readySteps 75 = .ok (.iconst 1, 1) := by decide +kernel
theorem dX3_readySteps_76 : decode cX3_readySteps 76 = .ok (.iload_n 3, 1) := by decide +kernel
theorem dX3_readySteps_77 : decode cX3_readySteps 77 = .ok (.ishl, 1) := by decide +kernel
theorem dX3_readySteps_78 : decode cX3_readySteps 78 = .ok (.ior, 1) := by decide +kernel
theorem dX3_readySteps_79 : decode cX3_readySteps 79 = .ok (.istore_n 1, 1) := by decide +kernel
theorem dX3_readySteps_80 : decode cX3_readySteps 80 = .ok (.iinc 3 1, 3) := by decide +kernel
theorem dX3_readySteps_83 : decode cX3_readySteps 83 = .ok (.goto (-53), 3) := by decide +kernel
theorem dX3_readySteps_86 : decode cX3_readySteps 86 = .ok (.iload_n 1, 1) := by decide +kernel
theorem dX3_readySteps_87 : decode cX3_readySteps 87 = .ok (.ireturn, 1) := by decide +kernel
theorem dX3_isContinued_0 : decode cX3_isContinued 0 = .ok (.aload_n 0, 1) := by decide +kernel
theorem dX3_isContinued_1 : decode cX3_isContinued 1 = .ok (.getfield 28, 3) := by decide +kernel
theorem dX3_isContinued_4 : decode cX3_isContinued 4 = .ok (.getfield 141, 3) := by decide +kernel
theorem dX3_isContinued_7 : decode cX3_isContinued 7 = .ok (.iload_n 1, 1) := by decide +kernel
theorem dX3_isContinued_8 : decode cX3_isContinued 8 = .ok (.iaload, 1) := by decide +kernel
theorem dX3_isContinued_9 : decode cX3_isContinued 9 = .ok (.aload_n 0, 1) := by decide +kernel
theorem dX3_isContinued_10 : decode cX3_isContinued 10 = .ok (.getfield 12, 3) := by decide +kernel
theorem dX3_isContinued_13 : decode cX3_isContinued 13 = .ok (.getfield 82, 3) := by decide +kernel
theorem dX3_isContinued_16 : decode cX3_isContinued 16 = .ok (.aload_n 0, 1) := by decide +kernel
theorem dX3_isContinued_17 : decode cX3_isContinued 17 = .ok (.getfield 12, 3) := by decide +kernel
theorem dX3_isContinued_20 : decode cX3_isContinued 20 = .ok (.getfield 47, 3) := by decide +kernel
theorem dX3_isContinued_23 : decode cX3_isContinued 23 = .ok (.ior, 1) := by decide +kernel
theorem dX3_isContinued_24 : decode cX3_isContinued 24 = .ok (.iand, 1) := by decide +kernel
theorem dX3_isContinued_25 : decode cX3_isContinued 25 = .ok (.ifCond .eq 7, 3) := by decide +kernel
theorem dX3_isContinued_28 : decode cX3_isContinued 28 = .ok (.iconst 1, 1) := by decide +kernel
theorem dX3_isContinued_29 : decode cX3_isContinued 29 = .ok (.goto 4, 3) := by decide +kernel
theorem dX3_isContinued_32 : decode cX3_isContinued 32 = .ok (.iconst 0, 1) := by decide +kernel
theorem dX3_isContinued_33 : decode cX3_isContinued 33 = .ok (.ireturn, 1) := by decide +kernel
set_option maxRecDepth 20000 in
theorem ggX3_isRedoable_X11_contains : GoodIn wsX3_isRedoable wsX11_contains := goodIn_r _ [4] rfl (by decide +kernel)
set_option maxRecDepth 20000 in
theorem gX3_isRedoable_X11_contains_n100 : GoodIn wsX3_isRedoable (wsX11_contains) := ggX3_isRedoable_X11_contains
set_option maxRecDepth 20000 in
theorem ggX3_isRedoable_X3_isContinued : GoodIn wsX3_isRedoable wsX3_isContinued := goodIn_r _ [9, 10, 1, 11, 12, 13, 14, 15, 31, 32, 33, 34, 35, 36, 37, 38, 39, 40, 41, 42, 43, 44, 45, 46, 47, 16, 17, 18, 19, 20, 21, 22, 23, 24, 25, 26, 27, 28, 29, 30] rfl (by decide +kernel)
set_option maxRecDepth 20000 in
theorem gX3_isRedoable_X3_isContinued : GoodIn wsX3_isRedoable (wsV RX3 113 RX3 yX3_isContinued wsX3_isContinued) := goodIn_app (goodIn_of _ (by decide +kernel)) ggX3_isRedoable_X3_isContinued
theorem dX3_isRedoable_0 : decode cX3_isRedoable 0 = .ok (.aload_n 0, 1) := by decide +kernel
theorem dX3_isRedoable_1 : decode cX3_isRedoable 1 = .ok (.getfield 12, 3) := by decide +kernel
theorem dX3_isRedoable_4 : decode cX3_isRedoable 4 = .ok (.getfield 47, 3) := by decide +kernel
theorem dX3_isRedoable_7 : decode cX3_isRedoable 7 = .ok (.iload_n 1, 1) := by decide +kernel
theorem dX3_isRedoable_8 : decode cX3_isRedoable 8 = .ok (.invokestatic 100, 3) := by decide +kernel
theorem dX3_isRedoable_11 : decode cX3_isRedoable 11 = .ok (.ifCond .eq 25, 3) := by decide +kernel
theorem dX3_isRedoable_14 : decode cX3_isRedoable 14 = .ok (.aload_n 0, 1) := by decide +kernel
theorem dX3_isRedoable_15 : decode cX3_isRedoable 15 = .ok (.iload_n 1, 1) := by decide +kernel
theorem dX3_isRedoable_16 : decode cX3_isRedoable 16 = .ok (.invokevirtual 113, 3) := by decide +kernel
theorem dX3_isRedoable_19 : decode cX3_isRedoable 19 = .ok (.ifCond .ne 17, 3) := by decide +kernel
theorem dX3_isRedoable_22 : decode cX3_isRedoable 22 = .ok (.aload_n 0, 1) := by decide +kernel
theorem dX3_isRedoable_23 : decode cX3_isRedoable 23 = .ok (.getfield 12, 3) := by decide +kernel
theorem dX3_isRedoable_26 : decode cX3_isRedoable 26 = .ok (.getfield 59, 3) := by decide +kernel
theorem dX3_isRedoable_29 : decode cX3_isRedoable 29 = .ok (.ifCond .ne 7, 3) := by decide +kernel
theorem dX3_isRedoable_32 : decode cX3_isRedoable 32 = .ok (.iconst 1, 1) := by decide +kernel
theorem dX3_isRedoable_33 : decode cX3_isRedoable 33 = .ok (.goto 4, 3) := by decide +kernel
theorem dX3_isRedoable_36 : decode cX3_isRedoable 36 = .ok (.iconst 0, 1) := by decide +kernel
theorem dX3_isRedoable_37 : decode cX3_isRedoable 37 = .ok (.ireturn, 1) := by decide +kernel
set_option maxRecDepth 20000 in
theorem ggX3_hasFreeCook_X11_contains : GoodIn wsX3_hasFreeCook wsX11_contains := goodIn_r _ [5] rfl (by decide +kernel)
set_option maxRecDepth 20000 in
theorem gX3_hasFreeCook_X11_contains_n100 : GoodIn wsX3_hasFreeCook (wsX11_contains) := ggX3_hasFreeCook_X11_contains
set_option maxRecDepth 20000 in
theorem ggX3_hasFreeCook_J6_bitCount_0f7a4 : GoodIn wsX3_hasFreeCook wsJ6_bitCount_0f7a4 := goodIn_r _ [9, 10, 11, 12] rfl (by decide +kernel)
set_option maxRecDepth 20000 in
theorem gX3_hasFreeCook_J6_bitCount_0f7a4 : GoodIn wsX3_hasFreeCook (va_wsS RX3 76 yJ6_bitCount_0f7a4 wsJ6_bitCount_0f7a4) := goodIn_app (goodIn_of _ (by decide +kernel)) ggX3_hasFreeCook_J6_bitCount_0f7a4
theorem dX3_hasFreeCook_0 : decode cX3_hasFreeCook 0 = .ok (.aload_n 0, 1) := by decide +kernel
theorem dX3_hasFreeCook_1 : decode cX3_hasFreeCook 1 = .ok (.getfield 28, 3) := by decide +kernel
theorem dX3_hasFreeCook_4 : decode cX3_hasFreeCook 4 = .ok (.getfield 88, 3) := by decide +kernel
theorem dX3_hasFreeCook_7 : decode cX3_hasFreeCook 7 = .ok (.iload_n 1, 1) := by decide +kernel
theorem dX3_hasFreeCook_8 : decode cX3_hasFreeCook 8 = .ok (.invokestatic 100, 3) := by decide +kernel
theorem dX3_hasFreeCook_11 : decode cX3_hasFreeCook 11 = .ok (.ifCond .ne 33, 3) := by decide +kernel
theorem dX3_hasFreeCook_14 : decode cX3_hasFreeCook 14 = .ok (.aload_n 0, 1) := by decide +kernel
theorem dX3_hasFreeCook_15 : decode cX3_hasFreeCook 15 = .ok (.getfield 12, 3) := by decide +kernel
theorem dX3_hasFreeCook_18 : decode cX3_hasFreeCook 18 = .ok (.getfield 82, 3) := by decide +kernel
theorem dX3_hasFreeCook_21 : decode cX3_hasFreeCook 21 = .ok (.aload_n 0, 1) := by decide +kernel
theorem dX3_hasFreeCook_22 : decode cX3_hasFreeCook 22 = .ok (.getfield 28, 3) := by decide +kernel
theorem dX3_hasFreeCook_25 : decode cX3_hasFreeCook 25 = .ok (.getfield 88, 3) := by decide +kernel
theorem dX3_hasFreeCook_28 : decode cX3_hasFreeCook 28 = .ok (.iconst (-1), 1) := by decide +kernel
theorem dX3_hasFreeCook_29 : decode cX3_hasFreeCook 29 = .ok (.ixor, 1) := by decide +kernel
theorem dX3_hasFreeCook_30 : decode cX3_hasFreeCook 30 = .ok (.iand, 1) := by decide +kernel
theorem dX3_hasFreeCook_31 : decode cX3_hasFreeCook 31 = .ok (.invokestatic 76, 3) := by decide +kernel
theorem dX3_hasFreeCook_34 : decode cX3_hasFreeCook 34 = .ok (.aload_n 0, 1) := by decide +kernel
theorem dX3_hasFreeCook_35 : decode cX3_hasFreeCook 35 = .ok (.getfield 12, 3) := by decide +kernel
theorem dX3_hasFreeCook_38 : decode cX3_hasFreeCook 38 = .ok (.getfield 144, 3) := by decide +kernel
theorem dX3_hasFreeCook_41 : decode cX3_hasFreeCook 41 = .ok (.if_icmp .ge 7, 3) := by decide +kernel
theorem dX3_hasFreeCook_44 : decode cX3_hasFreeCook 44 = .ok (.iconst 1, 1) := by decide +kernel
theorem dX3_hasFreeCook_45 : decode cX3_hasFreeCook 45 = .ok (.goto 4, 3) := by decide +kernel
theorem dX3_hasFreeCook_48 : decode cX3_hasFreeCook 48 = .ok (.iconst 0, 1) := by decide +kernel
theorem dX3_hasFreeCook_49 : decode cX3_hasFreeCook 49 = .ok (.ireturn, 1) := by decide +kernel
set_option maxRecDepth 20000 in
theorem ggX3_hasFreePan_X3_occupants : GoodIn wsX3_hasFreePan wsX3_occupants := goodIn_r _ [6, 1, 7, 15, 16, 17, 18, 19, 20, 21, 22, 23, 24, 25, 26, 27, 28, 29, 30, 31, 32, 33, 34, 35, 36, 37, 38, 39, 40, 41, 42, 43, 44, 45, 46, 47, 48, 49, 50, 51, 52, 53, 54] rfl (by decide +kernel)
set_option maxRecDepth 20000 in
theorem gX3_hasFreePan_X3_occupants : GoodIn wsX3_hasFreePan (wsV RX3 150 RX3 yX3_occupants wsX3_occupants) := goodIn_app (goodIn_of _ (by decide +kernel)) ggX3_hasFreePan_X3_occupants
set_option maxRecDepth 20000 in
theorem ggX3_hasFreePan_J6_bitCount_0f7a4 : GoodIn wsX3_hasFreePan wsJ6_bitCount_0f7a4 := goodIn_r _ [11, 12, 13, 14] rfl (by decide +kernel)
set_option maxRecDepth 20000 in
theorem gX3_hasFreePan_J6_bitCount_0f7a4 : GoodIn wsX3_hasFreePan (va_wsS RX3 76 yJ6_bitCount_0f7a4 wsJ6_bitCount_0f7a4) := goodIn_app (goodIn_of _ (by decide +kernel)) ggX3_hasFreePan_J6_bitCount_0f7a4
theorem dX3_hasFreePan_0 : decode cX3_hasFreePan 0 = .ok (.aload_n 0, 1) := by decide +kernel
theorem dX3_hasFreePan_1 : decode cX3_hasFreePan 1 = .ok (.getfield 28, 3) := by decide +kernel
theorem dX3_hasFreePan_4 : decode cX3_hasFreePan 4 = .ok (.getfield 147, 3) := by decide +kernel
theorem dX3_hasFreePan_7 : decode cX3_hasFreePan 7 = .ok (.iload_n 1, 1) := by decide +kernel
theorem dX3_hasFreePan_8 : decode cX3_hasFreePan 8 = .ok (.iaload, 1) := by decide +kernel
theorem dX3_hasFreePan_9 : decode cX3_hasFreePan 9 = .ok (.istore_n 2, 1) := by decide +kernel
theorem dX3_hasFreePan_10 : decode cX3_hasFreePan 10 = .ok (.iload_n 2, 1) := by decide +kernel
theorem dX3_hasFreePan_11 : decode cX3_hasFreePan 11 = .ok (.iconst (-1), 1) := by decide +kernel
theorem dX3_hasFreePan_12 : decode cX3_hasFreePan 12 = .ok (.if_icmp .eq 23, 3) := by decide +kernel
theorem dX3_hasFreePan_15 : decode cX3_hasFreePan 15 = .ok (.aload_n 0, 1) := by decide +kernel
theorem dX3_hasFreePan_16 : decode cX3_hasFreePan 16 = .ok (.iload_n 2, 1) := by decide +kernel
theorem dX3_hasFreePan_17 : decode cX3_hasFreePan 17 = .ok (.invokevirtual 150, 3) := by decide +kernel
theorem dX3_hasFreePan_20 : decode cX3_hasFreePan 20 = .ok (.invokestatic 76, 3) := by decide +kernel
theorem dX3_hasFreePan_23 : decode cX3_hasFreePan 23 = .ok (.aload_n 0, 1) := by decide +kernel
theorem dX3_hasFreePan_24 : decode cX3_hasFreePan 24 = .ok (.getfield 28, 3) := by decide +kernel
theorem dX3_hasFreePan_27 : decode cX3_hasFreePan 27 = .ok (.getfield 153, 3) := by decide +kernel
theorem dX3_hasFreePan_30 : decode cX3_hasFreePan 30 = .ok (.iload_n 2, 1) := by decide +kernel
theorem dX3_hasFreePan_31 : decode cX3_hasFreePan 31 = .ok (.iaload, 1) := by decide +kernel
theorem dX3_hasFreePan_32 : decode cX3_hasFreePan 32 = .ok (.if_icmp .ge 7, 3) := by decide +kernel
theorem dX3_hasFreePan_35 : decode cX3_hasFreePan 35 = .ok (.iconst 1, 1) := by decide +kernel
theorem dX3_hasFreePan_36 : decode cX3_hasFreePan 36 = .ok (.goto 4, 3) := by decide +kernel
theorem dX3_hasFreePan_39 : decode cX3_hasFreePan 39 = .ok (.iconst 0, 1) := by decide +kernel
theorem dX3_hasFreePan_40 : decode cX3_hasFreePan 40 = .ok (.ireturn, 1) := by decide +kernel
theorem dX3_occupants_0 : decode cX3_occupants 0 = .ok (.aload_n 0, 1) := by decide +kernel
theorem dX3_occupants_1 : decode cX3_occupants 1 = .ok (.getfield 28, 3) := by decide +kernel
theorem dX3_occupants_4 : decode cX3_occupants 4 = .ok (.getfield 156, 3) := by decide +kernel
theorem dX3_occupants_7 : decode cX3_occupants 7 = .ok (.iload_n 1, 1) := by decide +kernel
theorem dX3_occupants_8 : decode cX3_occupants 8 = .ok (.iaload, 1) := by decide +kernel
theorem dX3_occupants_9 : decode cX3_occupants 9 = .ok (.istore_n 2, 1) := by decide +kernel
theorem dX3_occupants_10 : decode cX3_occupants 10 = .ok (.iload_n 2, 1) := by decide +kernel
theorem dX3_occupants_11 : decode cX3_occupants 11 = .ok (.aload_n 0, 1) := by decide +kernel
theorem dX3_occupants_12 : decode cX3_occupants 12 = .ok (.getfield 12, 3) := by decide +kernel
theorem dX3_occupants_15 : decode cX3_occupants 15 = .ok (.getfield 82, 3) := by decide +kernel
theorem dX3_occupants_18 : decode cX3_occupants 18 = .ok (.iand, 1) := by decide +kernel
theorem dX3_occupants_19 : decode cX3_occupants 19 = .ok (.istore_n 3, 1) := by decide +kernel
theorem dX3_occupants_20 : decode cX3_occupants 20 = .ok (.aload_n 0, 1) := by decide +kernel
theorem dX3_occupants_21 : decode cX3_occupants 21 = .ok (.getfield 12, 3) := by decide +kernel
theorem dX3_occupants_24 : decode cX3_occupants 24 = .ok (.getfield 82, 3) := by decide +kernel
theorem dX3_occupants_27 : decode cX3_occupants 27 = .ok (.aload_n 0, 1) := by decide +kernel
theorem dX3_occupants_28 : decode cX3_occupants 28 = .ok (.getfield 12, 3) := by decide +kernel
theorem dX3_occupants_31 : decode cX3_occupants 31 = .ok (.getfield 47, 3) := by decide +kernel
theorem dX3_occupants_34 : decode cX3_occupants 34 = .ok (.ior, 1) := by decide +kernel
theorem dX3_occupants_35 : decode cX3_occupants 35 = .ok (.istore 4, 2) := by decide +kernel
theorem dX3_occupants_37 : decode cX3_occupants 37 = .ok (.iconst 0, 1) := by decide +kernel
theorem dX3_occupants_38 : decode cX3_occupants 38 = .ok (.istore 5, 2) := by decide +kernel
theorem dX3_occupants_40 : decode cX3_occupants 40 = .ok (.iload 5, 2) := by decide +kernel
theorem dX3_occupants_42 : decode cX3_occupants 42 = .ok (.aload_n 0, 1) := by decide +kernel
theorem dX3_occupants_43 : decode cX3_occupants 43 = .ok (.getfield 28, 3) := by decide +kernel
theorem dX3_occupants_46 : decode cX3_occupants 46 = .ok (.getfield 91, 3) := by decide +kernel
theorem dX3_occupants_49 : decode cX3_occupants 49 = .ok (.getfield 95, 3) := by decide +kernel
theorem dX3_occupants_52 : decode cX3_occupants 52 = .ok (.if_icmp .ge 53, 3) := by decide +kernel
theorem dX3_occupants_55 : decode cX3_occupants 55 = .ok (.iconst 1, 1) := by decide +kernel
theorem dX3_occupants_56 : decode cX3_occupants 56 = .ok (.iload 5, 2) := by decide +kernel
theorem dX3_occupants_58 : decode cX3_occupants 58 = .ok (.ishl, 1) := by decide +kernel
theorem dX3_occupants_59 : decode cX3_occupants 59 = .ok (.istore 6, 2) := by decide +kernel
theorem dX3_occupants_61 : decode cX3_occupants 61 = .ok (.iload_n 2, 1) := by decide +kernel
theorem dX3_occupants_62 : decode cX3_occupants 62 = .ok (.aload_n 0, 1) := by decide +kernel
theorem dX3_occupants_63 : decode cX3_occupants 63 = .ok (.getfield 12, 3) := by decide +kernel
theorem dX3_occupants_66 : decode cX3_occupants 66 = .ok (.getfield 47, 3) := by decide +kernel
theorem dX3_occupants_69 : decode cX3_occupants 69 = .ok (.iand, 1) := by decide +kernel
theorem dX3_occupants_70 : decode cX3_occupants 70 = .ok (.iload 6, 2) := by decide +kernel
theorem dX3_occupants_72 : decode cX3_occupants 72 = .ok (.iand, 1) := by decide +kernel
theorem dX3_occupants_73 : decode cX3_occupants 73 = .ok (.ifCond .eq 26, 3) := by decide +kernel
theorem dX3_occupants_76 : decode cX3_occupants 76 = .ok (.aload_n 0, 1) := by decide +kernel
theorem dX3_occupants_77 : decode cX3_occupants 77 = .ok (.getfield 28, 3) := by decide +kernel
theorem dX3_occupants_80 : decode cX3_occupants 80 = .ok (.getfield 141, 3) := by decide +kernel
theorem dX3_occupants_83 : decode cX3_occupants 83 = .ok (.iload 5, 2) := by decide +kernel
theorem dX3_occupants_85 : decode cX3_occupants 85 = .ok (.iaload, 1) := by decide +kernel
theorem dX3_occupants_86 : decode cX3_occupants 86 = .ok (.iload 4, 2) := by decide +kernel
theorem dX3_occupants_88 : decode cX3_occupants 88 = .ok (.iconst (-1), 1) := by decide +kernel
theorem dX3_occupants_89 : decode cX3_occupants 89 = .ok (.ixor, 1) := by decide +kernel
theorem dX3_occupants_90 : decode cX3_occupants 90 = .ok (.iand, 1) := by decide +kernel
theorem dX3_occupants_91 : decode cX3_occupants 91 = .ok (.ifCond .eq 8, 3) := by decide +kernel
theorem dX3_occupants_94 : decode cX3_occupants 94 = .ok (.iload_n 3, 1) := by decide +kernel
theorem dX3_occupants_95 : decode cX3_occupants 95 = .ok (.iload 6, 2) := by decide +kernel
theorem dX3_occupants_97 : decode cX3_occupants 97 = .ok (.ior, 1) := by decide +kernel
theorem dX3_occupants_98 : decode cX3_occupants 98 = .ok (.istore_n 3, 1) := by decide +kernel
theorem dX3_occupants_99 : decode cX3_occupants 99 = .ok (.iinc 5 1, 3) := by decide +kernel
theorem dX3_occupants_102 : decode cX3_occupants 102 = .ok (.goto (-62), 3) := by decide +kernel
theorem dX3_occupants_105 : decode cX3_occupants 105 = .ok (.iload_n 3, 1) := by decide +kernel
theorem dX3_occupants_106 : decode cX3_occupants 106 = .ok (.ireturn, 1) := by decide +kernel
set_option maxRecDepth 20000 in
theorem ggX3_rank_X3_longestOf : GoodIn wsX3_rank wsX3_longestOf := goodIn_r _ [9, 1, 2, 10, 11, 12, 13, 14, 15, 16, 17, 18, 19, 20, 21, 22, 23, 24, 25, 26, 27, 28, 29, 30, 31, 32, 33, 34, 35, 36, 37] rfl (by decide +kernel)
set_option maxRecDepth 20000 in
theorem gX3_rank_X3_longestOf : GoodIn wsX3_rank (wsV RX3 159 RX3 yX3_longestOf wsX3_longestOf) := goodIn_app (goodIn_of _ (by decide +kernel)) ggX3_rank_X3_longestOf
theorem dX3_rank_0 : decode cX3_rank 0 = .ok (.aload_n 0, 1) := by decide +kernel
theorem dX3_rank_1 : decode cX3_rank 1 = .ok (.getfield 28, 3) := by decide +kernel
theorem dX3_rank_4 : decode cX3_rank 4 = .ok (.getfield 91, 3) := by decide +kernel
theorem dX3_rank_7 : decode cX3_rank 7 = .ok (.getfield 95, 3) := by decide +kernel
theorem dX3_rank_10 : decode cX3_rank 10 = .ok (.iconst 1, 1) := by decide +kernel
theorem dX3_rank_11 : decode cX3_rank 11 = .ok (.isub, 1) := by decide +kernel
theorem dX3_rank_12 : decode cX3_rank 12 = .ok (.istore_n 1, 1) := by decide +kernel
theorem dX3_rank_13 : decode cX3_rank 13 = .ok (.iload_n 1, 1) := by decide +kernel
theorem dX3_rank_14 : decode cX3_rank 14 = .ok (.ifCond .lt 54, 3) := by decide +kernel
theorem dX3_rank_17 : decode cX3_rank 17 = .ok (.aload_n 0, 1) := by decide +kernel
theorem dX3_rank_18 : decode cX3_rank 18 = .ok (.aload_n 0, 1) := by decide +kernel
theorem dX3_rank_19 : decode cX3_rank 19 = .ok (.getfield 28, 3) := by decide +kernel
theorem dX3_rank_22 : decode cX3_rank 22 = .ok (.getfield 141, 3) := by decide +kernel
theorem dX3_rank_25 : decode cX3_rank 25 = .ok (.iload_n 1, 1) := by decide +kernel
theorem dX3_rank_26 : decode cX3_rank 26 = .ok (.iaload, 1) := by decide +kernel
theorem dX3_rank_27 : decode cX3_rank 27 = .ok (.invokevirtual 159, 3) := by decide +kernel
theorem dX3_rank_30 : decode cX3_rank 30 = .ok (.istore_n 2, 1) := by decide +kernel
theorem dX3_rank_31 : decode cX3_rank 31 = .ok (.aload_n 0, 1) := by decide +kernel
theorem dX3_rank_32 : decode cX3_rank 32 = .ok (.getfield 18, 3) := by decide +kernel
theorem dX3_rank_35 : decode cX3_rank 35 = .ok (.iload_n 1, 1) := by decide +kernel
theorem dX3_rank_36 : decode cX3_rank 36 = .ok (.aload_n 0, 1) := by decide +kernel
theorem dX3_rank_37 : decode cX3_rank 37 = .ok (.getfield 12, 3) := by decide +kernel
theorem dX3_rank_40 : decode cX3_rank 40 = .ok (.getfield 162, 3) := by decide +kernel
theorem dX3_rank_43 : decode cX3_rank 43 = .ok (.iload_n 1, 1) := by decide +kernel
theorem dX3_rank_44 : decode cX3_rank 44 = .ok (.iaload, 1) := by decide +kernel
theorem dX3_rank_45 : decode cX3_rank 45 = .ok (.iload_n 2, 1) := by decide +kernel
theorem dX3_rank_46 : decode cX3_rank 46 = .ok (.iconst (-1), 1) := by decide +kernel
theorem dX3_rank_47 : decode cX3_rank 47 = .ok (.if_icmp .ne 7, 3) := by decide +kernel
theorem dX3_rank_50 : decode cX3_rank 50 = .ok (.iconst 0, 1) := by decide +kernel
theorem dX3_rank_51 : decode cX3_rank 51 = .ok (.goto 9, 3) := by decide +kernel
theorem dX3_rank_54 : decode cX3_rank 54 = .ok (.aload_n 0, 1) := by decide +kernel
theorem dX3_rank_55 : decode cX3_rank 55 = .ok (.getfield 18, 3) := by decide +kernel
theorem dX3_rank_58 : decode cX3_rank 58 = .ok (.iload_n 2, 1) := by decide +kernel
theorem dX3_rank_59 : decode cX3_rank 59 = .ok (.iaload, 1) := by decide +kernel
theorem dX3_rank_60 : decode cX3_rank 60 = .ok (.iadd, 1) := by decide +kernel
theorem dX3_rank_61 : decode cX3_rank 61 = .ok (.iastore, 1) := by decide +kernel
theorem dX3_rank_62 : decode cX3_rank 62 = .ok (.iinc 1 (-1), 3) := by decide +kernel
theorem dX3_rank_65 : decode cX3_rank 65 = .ok (.goto (-52), 3) := by decide +kernel
theorem dX3_rank_68 : decode cX3_rank 68 = .ok (.iconst 0, 1) := by decide +kernel
theorem dX3_rank_69 : decode cX3_rank 69 = .ok (.istore_n 1, 1) := by decide +kernel
theorem dX3_rank_70 : decode cX3_rank 70 = .ok (.iload_n 1, 1) := by decide +kernel
theorem dX3_rank_71 : decode cX3_rank 71 = .ok (.aload_n 0, 1) := by decide +kernel
theorem dX3_rank_72 : decode cX3_rank 72 = .ok (.getfield 28, 3) := by decide +kernel
theorem dX3_rank_75 : decode cX3_rank 75 = .ok (.getfield 91, 3) := by decide +kernel
theorem dX3_rank_78 : decode cX3_rank 78 = .ok (.getfield 95, 3) := by decide +kernel
theorem dX3_rank_81 : decode cX3_rank 81 = .ok (.if_icmp .ge 64, 3) := by decide +kernel
theorem dX3_rank_84 : decode cX3_rank 84 = .ok (.iload_n 1, 1) := by decide +kernel
theorem dX3_rank_85 : decode cX3_rank 85 = .ok (.istore_n 2, 1) := by decide +kernel
theorem dX3_rank_86 : decode cX3_rank 86 = .ok (.iload_n 2, 1) := by decide +kernel
theorem dX3_rank_87 : decode cX3_rank 87 = .ok (.ifCond .le 45, 3) := by decide +kernel
theorem dX3_rank_90 : decode cX3_rank 90 = .ok (.aload_n 0, 1) := by decide +kernel
theorem dX3_rank_91 : decode cX3_rank 91 = .ok (.getfield 18, 3) := by decide +kernel
theorem dX3_rank_94 : decode cX3_rank 94 = .ok (.aload_n 0, 1) := by decide +kernel
theorem dX3_rank_95 : decode cX3_rank 95 = .ok (.getfield 22, 3) := by decide +kernel
theorem dX3_rank_98 : decode cX3_rank 98 = .ok (.iload_n 2, 1) := by decide +kernel
theorem dX3_rank_99 : decode cX3_rank 99 = .ok (.iconst 1, 1) := by decide +kernel
theorem dX3_rank_100 : decode cX3_rank 100 = .ok (.isub, 1) := by decide +kernel
theorem dX3_rank_101 : decode cX3_rank 101 = .ok (.iaload, 1) := by decide +kernel
theorem dX3_rank_102 : decode cX3_rank 102 = .ok (.iaload, 1) := by decide +kernel
theorem dX3_rank_103 : decode cX3_rank 103 = .ok (.aload_n 0, 1) := by decide +kernel
theorem dX3_rank_104 : decode cX3_rank 104 = .ok (.getfield 18, 3) := by decide +kernel
theorem dX3_rank_107 : decode cX3_rank 107 = .ok (.iload_n 1, 1) := by decide +kernel
theorem dX3_rank_108 : decode cX3_rank 108 = .ok (.iaload, 1) := by decide +kernel
theorem dX3_rank_109 : decode cX3_rank 109 = .ok (.if_icmp .ge 23, 3) := by decide +kernel
theorem dX3_rank_112 : decode cX3_rank 112 = .ok (.aload_n 0, 1) := by decide +kernel
theorem dX3_rank_113 : decode cX3_rank 113 = .ok (.getfield 22, 3) := by decide +kernel
theorem dX3_rank_116 : decode cX3_rank 116 = .ok (.iload_n 2, 1) := by decide +kernel
theorem dX3_rank_117 : decode cX3_rank 117 = .ok (.aload_n 0, 1) := by decide +kernel
theorem dX3_rank_118 : decode cX3_rank 118 = .ok (.getfield 22, 3) := by decide +kernel
theorem dX3_rank_121 : decode cX3_rank 121 = .ok (.iload_n 2, 1) := by decide +kernel
theorem dX3_rank_122 : decode cX3_rank 122 = .ok (.iconst 1, 1) := by decide +kernel
theorem dX3_rank_123 : decode cX3_rank 123 = .ok (.isub, 1) := by decide +kernel
theorem dX3_rank_124 : decode cX3_rank 124 = .ok (.iaload, 1) := by decide +kernel
theorem dX3_rank_125 : decode cX3_rank 125 = .ok (.iastore, 1) := by decide +kernel
theorem dX3_rank_126 : decode cX3_rank 126 = .ok (.iinc 2 (-1), 3) := by decide +kernel
theorem dX3_rank_129 : decode cX3_rank 129 = .ok (.goto (-43), 3) := by decide +kernel
theorem dX3_rank_132 : decode cX3_rank 132 = .ok (.aload_n 0, 1) := by decide +kernel
theorem dX3_rank_133 : decode cX3_rank 133 = .ok (.getfield 22, 3) := by decide +kernel
theorem dX3_rank_136 : decode cX3_rank 136 = .ok (.iload_n 2, 1) := by decide +kernel
theorem dX3_rank_137 : decode cX3_rank 137 = .ok (.iload_n 1, 1) := by decide +kernel
theorem dX3_rank_138 : decode cX3_rank 138 = .ok (.iastore, 1) := by decide +kernel
theorem dX3_rank_139 : decode cX3_rank 139 = .ok (.iinc 1 1, 3) := by decide +kernel
theorem dX3_rank_142 : decode cX3_rank 142 = .ok (.goto (-72), 3) := by decide +kernel
theorem dX3_rank_145 : decode cX3_rank 145 = .ok (.return_, 1) := by decide +kernel
set_option maxRecDepth 20000 in
theorem ggX3_longestOf_X11_contains : GoodIn wsX3_longestOf wsX11_contains := goodIn_r _ [5] rfl (by decide +kernel)
set_option maxRecDepth 20000 in
theorem gX3_longestOf_X11_contains_n100 : GoodIn wsX3_longestOf (wsX11_contains) := ggX3_longestOf_X11_contains
theorem dX3_longestOf_0 : decode cX3_longestOf 0 = .ok (.iconst (-1), 1) := by decide +kernel
theorem dX3_longestOf_1 : decode cX3_longestOf 1 = .ok (.istore_n 2, 1) := by decide +kernel
theorem dX3_longestOf_2 : decode cX3_longestOf 2 = .ok (.iconst 0, 1) := by decide +kernel
theorem dX3_longestOf_3 : decode cX3_longestOf 3 = .ok (.istore_n 3, 1) := by decide +kernel
theorem dX3_longestOf_4 : decode cX3_longestOf 4 = .ok (.iload_n 3, 1) := by decide +kernel
theorem dX3_longestOf_5 : decode cX3_longestOf 5 = .ok (.aload_n 0, 1) := by decide +kernel
theorem dX3_longestOf_6 : decode cX3_longestOf 6 = .ok (.getfield 28, 3) := by decide +kernel
theorem dX3_longestOf_9 : decode cX3_longestOf 9 = .ok (.getfield 91, 3) := by decide +kernel
theorem dX3_longestOf_12 : decode cX3_longestOf 12 = .ok (.getfield 95, 3) := by decide +kernel
theorem dX3_longestOf_15 : decode cX3_longestOf 15 = .ok (.if_icmp .ge 39, 3) := by decide +kernel
theorem dX3_longestOf_18 : decode cX3_longestOf 18 = .ok (.iload_n 1, 1) := by decide +kernel
theorem dX3_longestOf_19 : decode cX3_longestOf 19 = .ok (.iload_n 3, 1) := by decide +kernel
theorem dX3_longestOf_20 : decode cX3_longestOf 20 = .ok (.invokestatic 100, 3) := by decide +kernel
theorem dX3_longestOf_23 : decode cX3_longestOf 23 = .ok (.ifCond .eq 25, 3) := by decide +kernel
theorem dX3_longestOf_26 : decode cX3_longestOf 26 = .ok (.iload_n 2, 1) := by decide +kernel
theorem dX3_longestOf_27 : decode cX3_longestOf 27 = .ok (.iconst (-1), 1) := by decide +kernel
theorem dX3_longestOf_28 : decode cX3_longestOf 28 = .ok (.if_icmp .eq 18, 3) := by decide +kernel
theorem dX3_longestOf_31 : decode cX3_longestOf 31 = .ok (.aload_n 0, 1) := by decide +kernel
theorem dX3_longestOf_32 : decode cX3_longestOf 32 = .ok (.getfield 18, 3) := by decide +kernel
theorem dX3_longestOf_35 : decode cX3_longestOf 35 = .ok (.iload_n 3, 1) := by decide +kernel
theorem dX3_longestOf_36 : decode cX3_longestOf 36 = .ok (.iaload, 1) := by decide +kernel
theorem dX3_longestOf_37 : decode cX3_longestOf 37 = .ok (.aload_n 0, 1) := by decide +kernel
theorem dX3_longestOf_38 : decode cX3_longestOf 38 = .ok (.getfield 18, 3) := by decide +kernel
theorem dX3_longestOf_41 : decode cX3_longestOf 41 = .ok (.iload_n 2, 1) := by decide +kernel
theorem dX3_longestOf_42 : decode cX3_longestOf 42 = .ok (.iaload, 1) := by decide +kernel
theorem dX3_longestOf_43 : decode cX3_longestOf 43 = .ok (.if_icmp .le 5, 3) := by decide +kernel
theorem dX3_longestOf_46 : decode cX3_longestOf 46 = .ok (.iload_n 3, 1) := by decide +kernel
theorem dX3_longestOf_47 : decode cX3_longestOf 47 = .ok (.istore_n 2, 1) := by decide +kernel
theorem dX3_longestOf_48 : decode cX3_longestOf 48 = .ok (.iinc 3 1, 3) := by decide +kernel
theorem dX3_longestOf_51 : decode cX3_longestOf 51 = .ok (.goto (-47), 3) := by decide +kernel
theorem dX3_longestOf_54 : decode cX3_longestOf 54 = .ok (.iload_n 2, 1) := by decide +kernel
theorem dX3_longestOf_55 : decode cX3_longestOf 55 = .ok (.ireturn, 1) := by decide +kernel
set_option maxRecDepth 20000 in
theorem ggX3_readyAt_X3_rank : GoodIn wsX3_readyAt wsX3_rank := goodIn_r _ [7, 1, 8, 9, 2, 10, 11, 12, 6, 13, 14, 15, 16, 27, 28, 29, 30, 31, 32, 33, 34, 35, 36, 37, 38, 39, 40, 41, 42, 43, 44, 45, 46, 47, 48, 49, 50, 51, 52, 53, 54, 55, 56, 57, 58, 59, 60, 61, 62, 63, 64, 65, 66] rfl (by decide +kernel)
set_option maxRecDepth 20000 in
theorem gX3_readyAt_X3_rank : GoodIn wsX3_readyAt (wsV RX3 40 RX3 yX3_rank wsX3_rank) := goodIn_app (goodIn_of _ (by decide +kernel)) ggX3_readyAt_X3_rank
set_option maxRecDepth 20000 in
theorem ggX3_readyAt_X3_readySteps : GoodIn wsX3_readyAt wsX3_readySteps := goodIn_r _ [20, 1, 9, 21, 22, 23, 24, 25, 26, 14, 15, 16, 27, 28, 29, 30, 31, 52, 53, 54, 55, 56, 57, 58, 59, 60, 61, 62, 63, 64, 65, 66, 32, 33, 34, 35, 36, 37, 38, 39, 40, 41, 42, 43, 44, 45, 46, 47, 48, 49, 50, 51] rfl (by decide +kernel)
set_option maxRecDepth 20000 in
theorem gX3_readyAt_X3_readySteps : GoodIn wsX3_readyAt (wsV RX3 126 RX3 yX3_readySteps wsX3_readySteps) := goodIn_app (goodIn_of _ (by decide +kernel)) ggX3_readyAt_X3_readySteps
set_option maxRecDepth 20000 in
theorem ggX3_readyAt_X11_contains : GoodIn wsX3_readyAt wsX11_contains := goodIn_r _ [16] rfl (by decide +kernel)
set_option maxRecDepth 20000 in
theorem gX3_readyAt_X11_contains_n100 : GoodIn wsX3_readyAt (wsX11_contains) := ggX3_readyAt_X11_contains
theorem dX3_readyAt_0 : decode cX3_readyAt 0 = .ok (.aload_n 0, 1) := by decide +kernel
theorem dX3_readyAt_1 : decode cX3_readyAt 1 = .ok (.invokevirtual 40, 3) := by decide +kernel
theorem dX3_readyAt_4 : decode cX3_readyAt 4 = .ok (.aload_n 0, 1) := by decide +kernel
theorem dX3_readyAt_5 : decode cX3_readyAt 5 = .ok (.invokevirtual 126, 3) := by decide +kernel
theorem dX3_readyAt_8 : decode cX3_readyAt 8 = .ok (.istore_n 2, 1) := by decide +kernel
theorem dX3_readyAt_9 : decode cX3_readyAt 9 = .ok (.iconst 0, 1) := by decide +kernel
theorem dX3_readyAt_10 : decode cX3_readyAt 10 = .ok (.istore_n 3, 1) := by decide +kernel
theorem dX3_readyAt_11 : decode cX3_readyAt 11 = .ok (.iconst 0, 1) := by decide +kernel
theorem dX3_readyAt_12 : decode cX3_readyAt 12 = .ok (.istore 4, 2) := by decide +kernel
theorem dX3_readyAt_14 : decode cX3_readyAt 14 = .ok (.iload 4, 2) := by decide +kernel
theorem dX3_readyAt_16 : decode cX3_readyAt 16 = .ok (.aload_n 0, 1) := by decide +kernel
theorem dX3_readyAt_17 : decode cX3_readyAt 17 = .ok (.getfield 28, 3) := by decide +kernel
theorem dX3_readyAt_20 : decode cX3_readyAt 20 = .ok (.getfield 91, 3) := by decide +kernel
theorem dX3_readyAt_23 : decode cX3_readyAt 23 = .ok (.getfield 95, 3) := by decide +kernel
theorem dX3_readyAt_26 : decode cX3_readyAt 26 = .ok (.if_icmp .ge 39, 3) := by decide +kernel
theorem dX3_readyAt_29 : decode cX3_readyAt 29 = .ok (.iload_n 2, 1) := by decide +kernel
theorem dX3_readyAt_30 : decode cX3_readyAt 30 = .ok (.aload_n 0, 1) := by decide +kernel
theorem dX3_readyAt_31 : decode cX3_readyAt 31 = .ok (.getfield 22, 3) := by decide +kernel
theorem dX3_readyAt_34 : decode cX3_readyAt 34 = .ok (.iload 4, 2) := by decide +kernel
theorem dX3_readyAt_36 : decode cX3_readyAt 36 = .ok (.iaload, 1) := by decide +kernel
theorem dX3_readyAt_37 : decode cX3_readyAt 37 = .ok (.invokestatic 100, 3) := by decide +kernel
theorem dX3_readyAt_40 : decode cX3_readyAt 40 = .ok (.ifCond .eq 19, 3) := by decide +kernel
theorem dX3_readyAt_43 : decode cX3_readyAt 43 = .ok (.iload_n 3, 1) := by decide +kernel
theorem dX3_readyAt_44 : decode cX3_readyAt 44 = .ok (.iload_n 1, 1) := by decide +kernel
theorem dX3_readyAt_45 : decode cX3_readyAt 45 = .ok (.if_icmp .ne 11, 3) := by decide +kernel
theorem dX3_readyAt_48 : decode cX3_readyAt 48 = .ok (.aload_n 0, 1) := by decide +kernel
theorem dX3_readyAt_49 : decode cX3_readyAt 49 = .ok (.getfield 22, 3) := by decide +kernel
theorem dX3_readyAt_52 : decode cX3_readyAt 52 = .ok (.iload 4, 2) := by decide +kernel
theorem dX3_readyAt_54 : decode cX3_readyAt 54 = .ok (.iaload, 1) := by decide +kernel
theorem dX3_readyAt_55 : decode cX3_readyAt 55 = .ok (.ireturn, 1) := by decide +kernel
theorem dX3_readyAt_56 : decode cX3_readyAt 56 = .ok (.iinc 3 1, 3) := by decide +kernel
theorem dX3_readyAt_59 : decode cX3_readyAt 59 = .ok (.iinc 4 1, 3) := by decide +kernel
theorem dX3_readyAt_62 : decode cX3_readyAt 62 = .ok (.goto (-48), 3) := by decide +kernel
theorem dX3_readyAt_65 : decode cX3_readyAt 65 = .ok (.iconst (-1), 1) := by decide +kernel
theorem dX3_readyAt_66 : decode cX3_readyAt 66 = .ok (.ireturn, 1) := by decide +kernel
set_option maxRecDepth 20000 in
theorem ggX3_criticalAt_X11_isWithin : GoodIn wsX3_criticalAt wsX11_isWithin := goodIn_r _ [4] rfl (by decide +kernel)
set_option maxRecDepth 20000 in
theorem gX3_criticalAt_X11_isWithin_n165 : GoodIn wsX3_criticalAt (wsX11_isWithin) := ggX3_criticalAt_X11_isWithin
set_option maxRecDepth 20000 in
theorem ggX3_criticalAt_X3_rank : GoodIn wsX3_criticalAt wsX3_rank := goodIn_r _ [9, 1, 10, 11, 12, 13, 14, 15, 8, 16, 17, 3, 18, 25, 26, 27, 28, 29, 30, 31, 32, 33, 34, 35, 36, 37, 38, 39, 40, 41, 42, 43, 44, 45, 46, 47, 48, 49, 50, 51, 52, 53, 54, 55, 56, 57, 58, 59, 60, 61, 62, 63, 64] rfl (by decide +kernel)
set_option maxRecDepth 20000 in
theorem gX3_criticalAt_X3_rank : GoodIn wsX3_criticalAt (wsV RX3 40 RX3 yX3_rank wsX3_rank) := goodIn_app (goodIn_of _ (by decide +kernel)) ggX3_criticalAt_X3_rank
set_option maxRecDepth 20000 in
theorem ggX3_criticalAt_X5_allSteps : GoodIn wsX3_criticalAt wsX5_allSteps := goodIn_r _ [23, 24, 30, 31, 32, 33, 34, 35, 36, 37, 38, 39, 40, 41, 42, 43, 44, 45, 46, 47, 48, 49] rfl (by decide +kernel)
set_option maxRecDepth 20000 in
theorem gX3_criticalAt_X5_allSteps : GoodIn wsX3_criticalAt (wsV RX3 51 RX5 yX5_allSteps wsX5_allSteps) := goodIn_app (goodIn_of _ (by decide +kernel)) ggX3_criticalAt_X5_allSteps
set_option maxRecDepth 20000 in
theorem ggX3_criticalAt_X3_longestOf : GoodIn wsX3_criticalAt wsX3_longestOf := goodIn_r _ [16, 1, 10, 17, 3, 18, 25, 26, 27, 28, 29, 30, 31, 32, 33, 34, 35, 36, 37, 38, 39, 40, 41, 42, 43, 44, 45, 46, 47, 48, 49] rfl (by decide +kernel)
set_option maxRecDepth 20000 in
theorem gX3_criticalAt_X3_longestOf : GoodIn wsX3_criticalAt (wsV RX3 159 RX3 yX3_longestOf wsX3_longestOf) := goodIn_app (goodIn_of _ (by decide +kernel)) ggX3_criticalAt_X3_longestOf
theorem dX3_criticalAt_0 : decode cX3_criticalAt 0 = .ok (.iload_n 1, 1) := by decide +kernel
theorem dX3_criticalAt_1 : decode cX3_criticalAt 1 = .ok (.iconst 0, 1) := by decide +kernel
theorem dX3_criticalAt_2 : decode cX3_criticalAt 2 = .ok (.aload_n 0, 1) := by decide +kernel
theorem dX3_criticalAt_3 : decode cX3_criticalAt 3 = .ok (.getfield 28, 3) := by decide +kernel
theorem dX3_criticalAt_6 : decode cX3_criticalAt 6 = .ok (.getfield 91, 3) := by decide +kernel
theorem dX3_criticalAt_9 : decode cX3_criticalAt 9 = .ok (.getfield 95, 3) := by decide +kernel
theorem dX3_criticalAt_12 : decode cX3_criticalAt 12 = .ok (.iconst 1, 1) := by decide +kernel
theorem dX3_criticalAt_13 : decode cX3_criticalAt 13 = .ok (.isub, 1) := by decide +kernel
theorem dX3_criticalAt_14 : decode cX3_criticalAt 14 = .ok (.invokestatic 165, 3) := by decide +kernel
theorem dX3_criticalAt_17 : decode cX3_criticalAt 17 = .ok (.ifCond .ne 5, 3) := by decide +kernel
theorem dX3_criticalAt_20 : decode cX3_criticalAt 20 = .ok (.iconst (-1), 1) := by decide +kernel
theorem dX3_criticalAt_21 : decode cX3_criticalAt 21 = .ok (.ireturn, 1) := by decide +kernel
theorem dX3_criticalAt_22 : decode cX3_criticalAt 22 = .ok (.aload_n 0, 1) := by decide +kernel
theorem dX3_criticalAt_23 : decode cX3_criticalAt 23 = .ok (.invokevirtual 40, 3) := by decide +kernel
theorem dX3_criticalAt_26 : decode cX3_criticalAt 26 = .ok (.aload_n 0, 1) := by decide +kernel
theorem dX3_criticalAt_27 : decode cX3_criticalAt 27 = .ok (.aload_n 0, 1) := by decide +kernel
theorem dX3_criticalAt_28 : decode cX3_criticalAt 28 = .ok (.getfield 28, 3) := by decide +kernel
theorem dX3_criticalAt_31 : decode cX3_criticalAt 31 = .ok (.invokevirtual 51, 3) := by decide +kernel
theorem dX3_criticalAt_34 : decode cX3_criticalAt 34 = .ok (.invokevirtual 159, 3) := by decide +kernel
theorem dX3_criticalAt_37 : decode cX3_criticalAt 37 = .ok (.istore_n 2, 1) := by decide +kernel
theorem dX3_criticalAt_38 : decode cX3_criticalAt 38 = .ok (.iconst 0, 1) := by decide +kernel
theorem dX3_criticalAt_39 : decode cX3_criticalAt 39 = .ok (.istore_n 3, 1) := by decide +kernel
theorem dX3_criticalAt_40 : decode cX3_criticalAt 40 = .ok (.iload_n 3, 1) := by decide +kernel
theorem dX3_criticalAt_41 : decode cX3_criticalAt 41 = .ok (.iload_n 1, 1) := by decide +kernel
theorem dX3_criticalAt_42 : decode cX3_criticalAt 42 = .ok (.if_icmp .ge 28, 3) := by decide +kernel
theorem dX3_criticalAt_45 : decode cX3_criticalAt 45 = .ok (.iload_n 2, 1) := by decide +kernel
theorem dX3_criticalAt_46 : decode cX3_criticalAt 46 = .ok (.iconst (-1), 1) := by decide +kernel
theorem dX3_criticalAt_47 : decode cX3_criticalAt 47 = .ok (.if_icmp .eq 23, 3) := by decide +kernel
theorem dX3_criticalAt_50 : decode cX3_criticalAt 50 = .ok (.aload_n 0, 1) := by decide +kernel
theorem dX3_criticalAt_51 : decode cX3_criticalAt 51 = .ok (.aload_n 0, 1) := by decide +kernel
theorem dX3_criticalAt_52 : decode cX3_criticalAt 52 = .ok (.getfield 28, 3) := by decide +kernel
theorem dX3_criticalAt_55 : decode cX3_criticalAt 55 = .ok (.getfield 141, 3) := by decide +kernel
theorem dX3_criticalAt_58 : decode cX3_criticalAt 58 = .ok (.iload_n 2, 1) := by decide +kernel
theorem dX3_criticalAt_59 : decode cX3_criticalAt 59 = .ok (.iaload, 1) := by decide +kernel
theorem dX3_criticalAt_60 : decode cX3_criticalAt 60 = .ok (.invokevirtual 159, 3) := by decide +kernel
theorem dX3_criticalAt_63 : decode cX3_criticalAt 63 = .ok (.istore_n 2, 1) := by decide +kernel
theorem dX3_criticalAt_64 : decode cX3_criticalAt 64 = .ok (.iinc 3 1, 3) := by decide +kernel
theorem dX3_criticalAt_67 : decode cX3_criticalAt 67 = .ok (.goto (-27), 3) := by decide +kernel
theorem dX3_criticalAt_70 : decode cX3_criticalAt 70 = .ok (.iload_n 2, 1) := by decide +kernel
theorem dX3_criticalAt_71 : decode cX3_criticalAt 71 = .ok (.ireturn, 1) := by decide +kernel
set_option maxRecDepth 20000 in
theorem ggX3_spareMinutes_X3_rank : GoodIn wsX3_spareMinutes wsX3_rank := goodIn_r _ [14, 2, 8, 3, 9, 15, 16, 17, 13, 18, 19, 20, 21, 22, 23, 24, 25, 26, 27, 28, 29, 30, 31, 32, 33, 34, 35, 36, 37, 38, 39, 40, 41, 42, 43, 59, 60, 61, 44, 45, 46, 47, 48, 49, 50, 51, 52, 53, 54, 55, 56, 57, 58] rfl (by decide +kernel)
set_option maxRecDepth 20000 in
theorem gX3_spareMinutes_X3_rank : GoodIn wsX3_spareMinutes (wsV RX3 40 RX3 yX3_rank wsX3_rank) := goodIn_app (goodIn_of _ (by decide +kernel)) ggX3_spareMinutes_X3_rank
set_option maxRecDepth 20000 in
theorem ggX3_spareMinutes_X11_contains : GoodIn wsX3_spareMinutes wsX11_contains := goodIn_r _ [21] rfl (by decide +kernel)
set_option maxRecDepth 20000 in
theorem gX3_spareMinutes_X11_contains_n100 : GoodIn wsX3_spareMinutes (wsX11_contains) := ggX3_spareMinutes_X11_contains
theorem dX3_spareMinutes_0 : decode cX3_spareMinutes 0 = .ok (.aload_n 0, 1) := by decide +kernel
theorem dX3_spareMinutes_1 : decode cX3_spareMinutes 1 = .ok (.invokevirtual 40, 3) := by decide +kernel
theorem dX3_spareMinutes_4 : decode cX3_spareMinutes 4 = .ok (.iconst 0, 1) := by decide +kernel
theorem dX3_spareMinutes_5 : decode cX3_spareMinutes 5 = .ok (.istore_n 2, 1) := by decide +kernel
theorem dX3_spareMinutes_6 : decode cX3_spareMinutes 6 = .ok (.iload_n 2, 1) := by decide +kernel
theorem dX3_spareMinutes_7 : decode cX3_spareMinutes 7 = .ok (.iload_n 1, 1) := by decide +kernel
theorem dX3_spareMinutes_8 : decode cX3_spareMinutes 8 = .ok (.if_icmp .gt 80, 3) := by decide +kernel
theorem dX3_spareMinutes_11 : decode cX3_spareMinutes 11 = .ok (.aload_n 0, 1) := by decide +kernel
theorem dX3_spareMinutes_12 : decode cX3_spareMinutes 12 = .ok (.getfield 25, 3) := by decide +kernel
theorem dX3_spareMinutes_15 : decode cX3_spareMinutes 15 = .ok (.iload_n 2, 1) := by decide +kernel
theorem dX3_spareMinutes_16 : decode cX3_spareMinutes 16 = .ok (.iconst 0, 1) := by decide +kernel
theorem dX3_spareMinutes_17 : decode cX3_spareMinutes 17 = .ok (.iastore, 1) := by decide +kernel
theorem dX3_spareMinutes_18 : decode cX3_spareMinutes 18 = .ok (.iconst 0, 1) := by decide +kernel
theorem dX3_spareMinutes_19 : decode cX3_spareMinutes 19 = .ok (.istore_n 3, 1) := by decide +kernel
theorem dX3_spareMinutes_20 : decode cX3_spareMinutes 20 = .ok (.iload_n 3, 1) := by decide +kernel
theorem dX3_spareMinutes_21 : decode cX3_spareMinutes 21 = .ok (.iload_n 2, 1) := by decide +kernel
theorem dX3_spareMinutes_22 : decode cX3_spareMinutes 22 = .ok (.if_icmp .ge 60, 3) := by decide +kernel
theorem dX3_spareMinutes_25 : decode cX3_spareMinutes 25 = .ok (.aload_n 0, 1) := by decide +kernel
theorem dX3_spareMinutes_26 : decode cX3_spareMinutes 26 = .ok (.getfield 28, 3) := by decide +kernel
theorem dX3_spareMinutes_29 : decode cX3_spareMinutes 29 = .ok (.getfield 138, 3) := by decide +kernel
theorem dX3_spareMinutes_32 : decode cX3_spareMinutes 32 = .ok (.iload_n 2, 1) := by decide +kernel
theorem dX3_spareMinutes_33 : decode cX3_spareMinutes 33 = .ok (.iaload, 1) := by decide +kernel
theorem dX3_spareMinutes_34 : decode cX3_spareMinutes 34 = .ok (.iload_n 3, 1) := by decide +kernel
theorem dX3_spareMinutes_35 : decode cX3_spareMinutes 35 = .ok (.invokestatic 100, 3) := by decide +kernel
theorem dX3_spareMinutes_38 : decode cX3_spareMinutes 38 = .ok (.ifCond .eq 38, 3) := by decide +kernel
theorem dX3_spareMinutes_41 : decode cX3_spareMinutes 41 = .ok (.aload_n 0, 1) := by decide +kernel
theorem dX3_spareMinutes_42 : decode cX3_spareMinutes 42 = .ok (.getfield 25, 3) := by decide +kernel
theorem dX3_spareMinutes_45 : decode cX3_spareMinutes 45 = .ok (.iload_n 3, 1) := by decide +kernel
theorem dX3_spareMinutes_46 : decode cX3_spareMinutes 46 = .ok (.iaload, 1) := by decide +kernel
theorem dX3_spareMinutes_47 : decode cX3_spareMinutes 47 = .ok (.aload_n 0, 1) := by decide +kernel
theorem dX3_spareMinutes_48 : decode cX3_spareMinutes 48 = .ok (.getfield 12, 3) := by decide +kernel
theorem dX3_spareMinutes_51 : decode cX3_spareMinutes 51 = .ok (.getfield 162, 3) := by decide +kernel
theorem dX3_spareMinutes_54 : decode cX3_spareMinutes 54 = .ok (.iload_n 3, 1) := by decide +kernel
theorem dX3_spareMinutes_55 : decode cX3_spareMinutes 55 = .ok (.iaload, 1) := by decide +kernel
theorem dX3_spareMinutes_56 : decode cX3_spareMinutes 56 = .ok (.iadd, 1) := by decide +kernel
theorem dX3_spareMinutes_57 : decode cX3_spareMinutes 57 = .ok (.istore 4, 2) := by decide +kernel
theorem dX3_spareMinutes_59 : decode cX3_spareMinutes 59 = .ok (.aload_n 0, 1) := by decide +kernel
theorem dX3_spareMinutes_60 : decode cX3_spareMinutes 60 = .ok (.getfield 25, 3) := by decide +kernel
theorem dX3_spareMinutes_63 : decode cX3_spareMinutes 63 = .ok (.iload_n 2, 1) := by decide +kernel
theorem dX3_spareMinutes_64 : decode cX3_spareMinutes 64 = .ok (.aload_n 0, 1) := by decide +kernel
theorem dX3_spareMinutes_65 : decode cX3_spareMinutes 65 = .ok (.getfield 25, 3) := by decide +kernel
theorem dX3_spareMinutes_68 : decode cX3_spareMinutes 68 = .ok (.iload_n 2, 1) := by decide +kernel
theorem dX3_spareMinutes_69 : decode cX3_spareMinutes 69 = .ok (.iaload, 1) := by decide +kernel
theorem dX3_spareMinutes_70 : decode cX3_spareMinutes 70 = .ok (.iload 4, 2) := by decide +kernel
theorem dX3_spareMinutes_72 : decode cX3_spareMinutes 72 = .ok (.invokestatic 169, 3) := by decide +kernel
theorem dX3_spareMinutes_75 : decode cX3_spareMinutes 75 = .ok (.iastore, 1) := by decide +kernel
theorem dX3_spareMinutes_76 : decode cX3_spareMinutes 76 = .ok (.iinc 3 1, 3) := by decide +kernel
theorem dX3_spareMinutes_79 : decode cX3_spareMinutes 79 = .ok (.goto (-59), 3) := by decide +kernel
theorem dX3_spareMinutes_82 : decode cX3_spareMinutes 82 = .ok (.iinc 2 1, 3) := by decide +kernel
theorem dX3_spareMinutes_85 : decode cX3_spareMinutes 85 = .ok (.goto (-79), 3) := by decide +kernel
theorem dX3_spareMinutes_88 : decode cX3_spareMinutes 88 = .ok (.aload_n 0, 1) := by decide +kernel
theorem dX3_spareMinutes_89 : decode cX3_spareMinutes 89 = .ok (.getfield 18, 3) := by decide +kernel
theorem dX3_spareMinutes_92 : decode cX3_spareMinutes 92 = .ok (.aload_n 0, 1) := by decide +kernel
theorem dX3_spareMinutes_93 : decode cX3_spareMinutes 93 = .ok (.getfield 22, 3) := by decide +kernel
theorem dX3_spareMinutes_96 : decode cX3_spareMinutes 96 = .ok (.iconst 0, 1) := by decide +kernel
theorem dX3_spareMinutes_97 : decode cX3_spareMinutes 97 = .ok (.iaload, 1) := by decide +kernel
theorem dX3_spareMinutes_98 : decode cX3_spareMinutes 98 = .ok (.iaload, 1) := by decide +kernel
theorem dX3_spareMinutes_99 : decode cX3_spareMinutes 99 = .ok (.aload_n 0, 1) := by decide +kernel
theorem dX3_spareMinutes_100 : decode cX3_spareMinutes 100 = .ok (.getfield 18, 3) := by decide +kernel
theorem dX3_spareMinutes_103 : decode cX3_spareMinutes 103 = .ok (.iload_n 1, 1) := by decide +kernel
theorem dX3_spareMinutes_104 : decode cX3_spareMinutes 104 = .ok (.iaload, 1) := by decide +kernel
theorem dX3_spareMinutes_105 : decode cX3_spareMinutes 105 = .ok (.isub, 1) := by decide +kernel
theorem dX3_spareMinutes_106 : decode cX3_spareMinutes 106 = .ok (.aload_n 0, 1) := by decide +kernel
theorem dX3_spareMinutes_107 : decode cX3_spareMinutes 107 = .ok (.getfield 25, 3) := by decide +kernel
theorem dX3_spareMinutes_110 : decode cX3_spareMinutes 110 = .ok (.iload_n 1, 1) := by decide +kernel
theorem dX3_spareMinutes_111 : decode cX3_spareMinutes 111 = .ok (.iaload, 1) := by decide +kernel
theorem dX3_spareMinutes_112 : decode cX3_spareMinutes 112 = .ok (.isub, 1) := by decide +kernel
theorem dX3_spareMinutes_113 : decode cX3_spareMinutes 113 = .ok (.ireturn, 1) := by decide +kernel
set_option maxRecDepth 20000 in
theorem ggX3_obstacle_X11_contains : GoodIn wsX3_obstacle wsX11_contains := goodIn_r _ [5] rfl (by decide +kernel)
set_option maxRecDepth 20000 in
theorem gX3_obstacle_X11_contains_n100 : GoodIn wsX3_obstacle (wsX11_contains) := ggX3_obstacle_X11_contains
set_option maxRecDepth 20000 in
theorem ggX3_obstacle_X3_hasFreePan : GoodIn wsX3_obstacle wsX3_hasFreePan := goodIn_r _ [10, 2, 11, 12, 13, 9, 14, 1, 15, 16, 17, 18, 19, 20, 21, 26, 27, 28, 29, 30, 46, 47, 48, 49, 50, 51, 52, 53, 54, 55, 56, 57, 58, 59, 60, 61, 62, 31, 32, 33, 34, 35, 36, 37, 38, 39, 40, 41, 42, 43, 44, 45, 63, 64, 65] rfl (by decide +kernel)
set_option maxRecDepth 20000 in
theorem gX3_obstacle_X3_hasFreePan : GoodIn wsX3_obstacle (wsV RX3 132 RX3 yX3_hasFreePan wsX3_hasFreePan) := goodIn_app (goodIn_of _ (by decide +kernel)) ggX3_obstacle_X3_hasFreePan
set_option maxRecDepth 20000 in
theorem ggX3_obstacle_X3_hasFreeCook : GoodIn wsX3_obstacle wsX3_hasFreeCook := goodIn_r _ [25, 2, 1, 3, 4, 5, 15, 16, 17, 18, 19, 20, 21, 26, 27, 28, 29, 30, 46, 47, 48, 49, 50, 51, 52, 53, 54, 55, 56, 57, 58, 59, 60, 61, 62, 31, 32, 33, 34, 35, 36, 37, 38, 39, 40, 41, 42, 43, 44, 45] rfl (by decide +kernel)
set_option maxRecDepth 20000 in
theorem gX3_obstacle_X3_hasFreeCook : GoodIn wsX3_obstacle (wsV RX3 129 RX3 yX3_hasFreeCook wsX3_hasFreeCook) := goodIn_app (goodIn_of _ (by decide +kernel)) ggX3_obstacle_X3_hasFreeCook
theorem dX3_obstacle_0 : decode cX3_obstacle 0 = .ok (.aload_n 0, 1) := by decide +kernel
theorem dX3_obstacle_1 : decode cX3_obstacle 1 = .ok (.getfield 12, 3) := by decide +kernel
theorem dX3_obstacle_4 : decode cX3_obstacle 4 = .ok (.getfield 82, 3) := by decide +kernel
theorem dX3_obstacle_7 : decode cX3_obstacle 7 = .ok (.iload_n 1, 1) := by decide +kernel
theorem dX3_obstacle_8 : decode cX3_obstacle 8 = .ok (.invokestatic 100, 3) := by decide +kernel
theorem dX3_obstacle_11 : decode cX3_obstacle 11 = .ok (.ifCond .eq 5, 3) := by decide +kernel
theorem dX3_obstacle_14 : decode cX3_obstacle 14 = .ok (.iconst 0, 1) := by decide +kernel
theorem dX3_obstacle_15 : decode cX3_obstacle 15 = .ok (.ireturn, 1) := by decide +kernel
theorem dX3_obstacle_16 : decode cX3_obstacle 16 = .ok (.aload_n 0, 1) := by decide +kernel
theorem dX3_obstacle_17 : decode cX3_obstacle 17 = .ok (.getfield 12, 3) := by decide +kernel
theorem dX3_obstacle_20 : decode cX3_obstacle 20 = .ok (.getfield 47, 3) := by decide +kernel
theorem dX3_obstacle_23 : decode cX3_obstacle 23 = .ok (.iload_n 1, 1) := by decide +kernel
theorem dX3_obstacle_24 : decode cX3_obstacle 24 = .ok (.invokestatic 100, 3) := by decide +kernel
theorem dX3_obstacle_27 : decode cX3_obstacle 27 = .ok (.ifCond .eq 5, 3) := by decide +kernel
theorem dX3_obstacle_30 : decode cX3_obstacle 30 = .ok (.iconst 1, 1) := by decide +kernel
theorem dX3_obstacle_31 : decode cX3_obstacle 31 = .ok (.ireturn, 1) := by decide +kernel
theorem dX3_obstacle_32 : decode cX3_obstacle 32 = .ok (.aload_n 0, 1) := by decide +kernel
theorem dX3_obstacle_33 : decode cX3_obstacle 33 = .ok (.getfield 28, 3) := by decide +kernel
theorem dX3_obstacle_36 : decode cX3_obstacle 36 = .ok (.getfield 138, 3) := by decide +kernel
theorem dX3_obstacle_39 : decode cX3_obstacle 39 = .ok (.iload_n 1, 1) := by decide +kernel
theorem dX3_obstacle_40 : decode cX3_obstacle 40 = .ok (.iaload, 1) := by decide +kernel
theorem dX3_obstacle_41 : decode cX3_obstacle 41 = .ok (.aload_n 0, 1) := by decide +kernel
theorem dX3_obstacle_42 : decode cX3_obstacle 42 = .ok (.getfield 12, 3) := by decide +kernel
theorem dX3_obstacle_45 : decode cX3_obstacle 45 = .ok (.getfield 47, 3) := by decide +kernel
theorem dX3_obstacle_48 : decode cX3_obstacle 48 = .ok (.iconst (-1), 1) := by decide +kernel
theorem dX3_obstacle_49 : decode cX3_obstacle 49 = .ok (.ixor, 1) := by decide +kernel
