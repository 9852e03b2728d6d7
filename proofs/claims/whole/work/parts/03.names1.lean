def wsX7_dredge_r2 : List Cond := [Cond.instanceMethod yX7_runs, Cond.selects RX7 yX7_runs yX7_runs, Cond.code yX7_runs cX7_runs 4 none, Cond.fieldLink RX7 35 "ShoreFieldsModel" "k0" "I", Cond.methodLink RX7 146 yX7_begins, Cond.instanceMethod yX7_begins, Cond.selects RX7 yX7_begins yX7_begins, Cond.code yX7_begins cX7_begins 3 none, Cond.fieldLink RX7 56 "ShoreFieldsModel" "sand" "[I", Cond.fieldLink RX7 16 "ShoreFieldsModel" "begin" "[I", Cond.fieldLink RX7 59 "ShoreFieldsModel" "sea" "[I", Cond.fieldLink RX7 62 "ShoreFieldsModel" "scour" "[I", Cond.fieldLink RX7 68 "ShoreFieldsModel" "passed" "[I", Cond.fieldLink RX7 71 "ShoreFieldsModel" "lengths" "[I", Cond.fieldLink RX7 23 "ShoreFieldsModel" "length" "[I", Cond.methodLink RX7 153 yX7_dredged, Cond.instanceMethod yX7_dredged, Cond.selects RX7 yX7_dredged yX7_dredged, Cond.code yX7_dredged cX7_dredged 6 none, Cond.methodLink RX7 138 yX7_brings, Cond.instanceMethod yX7_brings, Cond.selects RX7 yX7_brings yX7_brings, Cond.code yX7_brings cX7_brings 3 none, Cond.constant RX7 116 (99999)]
def wsX7_dredge_r3 : List Cond := [Cond.methodLink RX7 156 yX7_week, Cond.instanceMethod yX7_week, Cond.selects RX7 yX7_week yX7_week, Cond.code yX7_week cX7_week 6 none, Cond.fieldLink RX7 38 "ShoreFieldsModel" "height" "[I", Cond.fieldLink RX7 41 "ShoreFieldsModel" "side" "[I", Cond.methodLink RX7 142 yX7_passing, Cond.instanceMethod yX7_passing, Cond.selects RX7 yX7_passing yX7_passing, Cond.code yX7_passing cX7_passing 10 none, Cond.fieldLink RX7 74 "ShoreFieldsModel" "more" "[I", Cond.fieldLink RX7 26 "ShoreFieldsModel" "part" "[I", Cond.fieldLink RX7 32 "ShoreFieldsModel" "feeds" "[I", Cond.methodLink RX7 134 yX7_passes, Cond.instanceMethod yX7_passes, Cond.selects RX7 yX7_passes yX7_passes, Cond.code yX7_passes cX7_passes 8 (some .int), Cond.methodLink RX7 130 yX7_goesOut, Cond.instanceMethod yX7_goesOut, Cond.selects RX7 yX7_goesOut yX7_goesOut, Cond.code yX7_goesOut cX7_goesOut 5 (some .int), Cond.methodLink RX7 126 yX7_above, Cond.instanceMethod yX7_above, Cond.selects RX7 yX7_above yX7_above]
def wsX7_dredge_r4 : List Cond := [Cond.code yX7_above cX7_above 3 (some .int), Cond.fieldLink RX7 29 "ShoreFieldsModel" "walls" "[I"]
def wsX7_dredge : List Cond := .code yX7_dredge cX7_dredge 4 (some .int) :: ((wsX7_dredge_r1 ++ (wsX7_dredge_r2 ++ (wsX7_dredge_r3 ++ wsX7_dredge_r4))) ++ wsX70)
def wsX7_line_r1 : List Cond := [Cond.fieldLink RX7 1 "ShoreFieldsModel" "thrown" "I", Cond.fieldLink RX7 117 "ShoreFieldsModel" "gone" "I", Cond.fieldLink RX7 56 "ShoreFieldsModel" "sand" "[I", Cond.methodLink RX7 112 yX7_isField, Cond.instanceMethod yX7_isField, Cond.selects RX7 yX7_isField yX7_isField, Cond.initialized RX7, Cond.code yX7_isField cX7_isField 2 (some .boolean), Cond.fieldLink RX7 13 "ShoreFieldsModel" "fields" "I", Cond.methodLink RX7 104 yX7_within, Cond.static yX7_within, Cond.code yX7_within cX7_within 3 (some .boolean), Cond.methodLink RX7 159 yX7_runs, Cond.instanceMethod yX7_runs, Cond.selects RX7 yX7_runs yX7_runs, Cond.code yX7_runs cX7_runs 4 none, Cond.fieldLink RX7 150 "ShoreFieldsModel" "dredges" "I", Cond.fieldLink RX7 35 "ShoreFieldsModel" "k0" "I", Cond.methodLink RX7 146 yX7_begins, Cond.instanceMethod yX7_begins, Cond.selects RX7 yX7_begins yX7_begins, Cond.code yX7_begins cX7_begins 3 none, Cond.fieldLink RX7 16 "ShoreFieldsModel" "begin" "[I", Cond.fieldLink RX7 59 "ShoreFieldsModel" "sea" "[I"]
def wsX7_line_r2 : List Cond := [Cond.fieldLink RX7 62 "ShoreFieldsModel" "scour" "[I", Cond.fieldLink RX7 65 "ShoreFieldsModel" "bar" "[I", Cond.fieldLink RX7 68 "ShoreFieldsModel" "passed" "[I", Cond.fieldLink RX7 71 "ShoreFieldsModel" "lengths" "[I", Cond.fieldLink RX7 20 "ShoreFieldsModel" "kind" "[I", Cond.fieldLink RX7 23 "ShoreFieldsModel" "length" "[I", Cond.methodLink RX7 153 yX7_dredged, Cond.instanceMethod yX7_dredged, Cond.selects RX7 yX7_dredged yX7_dredged, Cond.code yX7_dredged cX7_dredged 6 none, Cond.fieldLink RX7 53 "ShoreFieldsModel" "dredgeOn" "[I", Cond.fieldLink RX7 44 "ShoreFieldsModel" "dredgeOf" "[I", Cond.fieldLink RX7 47 "ShoreFieldsModel" "dredgeUnits" "[I", Cond.fieldLink RX7 50 "ShoreFieldsModel" "dredgeTo" "[I", Cond.methodLink RX7 138 yX7_brings, Cond.instanceMethod yX7_brings, Cond.selects RX7 yX7_brings yX7_brings, Cond.code yX7_brings cX7_brings 3 none, Cond.constant RX7 116 (99999), Cond.methodLink RX7 156 yX7_week, Cond.instanceMethod yX7_week, Cond.selects RX7 yX7_week yX7_week, Cond.code yX7_week cX7_week 6 none, Cond.fieldLink RX7 38 "ShoreFieldsModel" "height" "[I"]
def wsX7_line_r3 : List Cond := [Cond.fieldLink RX7 41 "ShoreFieldsModel" "side" "[I", Cond.methodLink RX7 142 yX7_passing, Cond.instanceMethod yX7_passing, Cond.selects RX7 yX7_passing yX7_passing, Cond.code yX7_passing cX7_passing 10 none, Cond.fieldLink RX7 74 "ShoreFieldsModel" "more" "[I", Cond.fieldLink RX7 26 "ShoreFieldsModel" "part" "[I", Cond.fieldLink RX7 32 "ShoreFieldsModel" "feeds" "[I", Cond.methodLink RX7 134 yX7_passes, Cond.instanceMethod yX7_passes, Cond.selects RX7 yX7_passes yX7_passes, Cond.code yX7_passes cX7_passes 8 (some .int), Cond.methodLink RX7 130 yX7_goesOut, Cond.instanceMethod yX7_goesOut, Cond.selects RX7 yX7_goesOut yX7_goesOut, Cond.code yX7_goesOut cX7_goesOut 5 (some .int), Cond.methodLink RX7 126 yX7_above, Cond.instanceMethod yX7_above, Cond.selects RX7 yX7_above yX7_above, Cond.code yX7_above cX7_above 3 (some .int), Cond.fieldLink RX7 29 "ShoreFieldsModel" "walls" "[I"]
def wsX7_line : List Cond := .code yX7_line cX7_line 2 (some .int) :: ((wsX7_line_r1 ++ (wsX7_line_r2 ++ wsX7_line_r3)) ++ wsX70)
def wsX7_look_r1 : List Cond := [Cond.fieldLink RX7 1 "ShoreFieldsModel" "thrown" "I", Cond.fieldLink RX7 117 "ShoreFieldsModel" "gone" "I", Cond.fieldLink RX7 56 "ShoreFieldsModel" "sand" "[I", Cond.fieldLink RX7 59 "ShoreFieldsModel" "sea" "[I", Cond.fieldLink RX7 62 "ShoreFieldsModel" "scour" "[I", Cond.methodLink RX7 112 yX7_isField, Cond.instanceMethod yX7_isField, Cond.selects RX7 yX7_isField yX7_isField, Cond.initialized RX7, Cond.code yX7_isField cX7_isField 2 (some .boolean), Cond.fieldLink RX7 13 "ShoreFieldsModel" "fields" "I", Cond.methodLink RX7 104 yX7_within, Cond.static yX7_within, Cond.code yX7_within cX7_within 3 (some .boolean), Cond.methodLink RX7 159 yX7_runs, Cond.instanceMethod yX7_runs, Cond.selects RX7 yX7_runs yX7_runs, Cond.code yX7_runs cX7_runs 4 none, Cond.fieldLink RX7 150 "ShoreFieldsModel" "dredges" "I", Cond.fieldLink RX7 35 "ShoreFieldsModel" "k0" "I", Cond.methodLink RX7 146 yX7_begins, Cond.instanceMethod yX7_begins, Cond.selects RX7 yX7_begins yX7_begins, Cond.code yX7_begins cX7_begins 3 none]
def wsX7_look_r2 : List Cond := [Cond.fieldLink RX7 16 "ShoreFieldsModel" "begin" "[I", Cond.fieldLink RX7 65 "ShoreFieldsModel" "bar" "[I", Cond.fieldLink RX7 68 "ShoreFieldsModel" "passed" "[I", Cond.fieldLink RX7 71 "ShoreFieldsModel" "lengths" "[I", Cond.fieldLink RX7 20 "ShoreFieldsModel" "kind" "[I", Cond.fieldLink RX7 23 "ShoreFieldsModel" "length" "[I", Cond.methodLink RX7 153 yX7_dredged, Cond.instanceMethod yX7_dredged, Cond.selects RX7 yX7_dredged yX7_dredged, Cond.code yX7_dredged cX7_dredged 6 none, Cond.fieldLink RX7 53 "ShoreFieldsModel" "dredgeOn" "[I", Cond.fieldLink RX7 44 "ShoreFieldsModel" "dredgeOf" "[I", Cond.fieldLink RX7 47 "ShoreFieldsModel" "dredgeUnits" "[I", Cond.fieldLink RX7 50 "ShoreFieldsModel" "dredgeTo" "[I", Cond.methodLink RX7 138 yX7_brings, Cond.instanceMethod yX7_brings, Cond.selects RX7 yX7_brings yX7_brings, Cond.code yX7_brings cX7_brings 3 none, Cond.constant RX7 116 (99999), Cond.methodLink RX7 156 yX7_week, Cond.instanceMethod yX7_week, Cond.selects RX7 yX7_week yX7_week, Cond.code yX7_week cX7_week 6 none, Cond.fieldLink RX7 38 "ShoreFieldsModel" "height" "[I"]
def wsX7_look_r3 : List Cond := [Cond.fieldLink RX7 41 "ShoreFieldsModel" "side" "[I", Cond.methodLink RX7 142 yX7_passing, Cond.instanceMethod yX7_passing, Cond.selects RX7 yX7_passing yX7_passing, Cond.code yX7_passing cX7_passing 10 none, Cond.fieldLink RX7 74 "ShoreFieldsModel" "more" "[I", Cond.fieldLink RX7 26 "ShoreFieldsModel" "part" "[I", Cond.fieldLink RX7 32 "ShoreFieldsModel" "feeds" "[I", Cond.methodLink RX7 134 yX7_passes, Cond.instanceMethod yX7_passes, Cond.selects RX7 yX7_passes yX7_passes, Cond.code yX7_passes cX7_passes 8 (some .int), Cond.methodLink RX7 130 yX7_goesOut, Cond.instanceMethod yX7_goesOut, Cond.selects RX7 yX7_goesOut yX7_goesOut, Cond.code yX7_goesOut cX7_goesOut 5 (some .int), Cond.methodLink RX7 126 yX7_above, Cond.instanceMethod yX7_above, Cond.selects RX7 yX7_above yX7_above, Cond.code yX7_above cX7_above 3 (some .int), Cond.fieldLink RX7 29 "ShoreFieldsModel" "walls" "[I"]
def wsX7_look : List Cond := .code yX7_look cX7_look 3 (some .int) :: ((wsX7_look_r1 ++ (wsX7_look_r2 ++ wsX7_look_r3)) ++ wsX70)
def wsX7_border_r1 : List Cond := [Cond.fieldLink RX7 1 "ShoreFieldsModel" "thrown" "I", Cond.fieldLink RX7 13 "ShoreFieldsModel" "fields" "I", Cond.constant RX7 162 (-100000), Cond.fieldLink RX7 117 "ShoreFieldsModel" "gone" "I", Cond.fieldLink RX7 20 "ShoreFieldsModel" "kind" "[I", Cond.fieldLink RX7 68 "ShoreFieldsModel" "passed" "[I", Cond.fieldLink RX7 23 "ShoreFieldsModel" "length" "[I", Cond.fieldLink RX7 26 "ShoreFieldsModel" "part" "[I", Cond.fieldLink RX7 65 "ShoreFieldsModel" "bar" "[I", Cond.methodLink RX7 104 yX7_within, Cond.static yX7_within, Cond.initialized RX7, Cond.code yX7_within cX7_within 3 (some .boolean), Cond.methodLink RX7 159 yX7_runs, Cond.instanceMethod yX7_runs, Cond.selects RX7 yX7_runs yX7_runs, Cond.code yX7_runs cX7_runs 4 none, Cond.fieldLink RX7 150 "ShoreFieldsModel" "dredges" "I", Cond.fieldLink RX7 35 "ShoreFieldsModel" "k0" "I", Cond.methodLink RX7 146 yX7_begins, Cond.instanceMethod yX7_begins, Cond.selects RX7 yX7_begins yX7_begins, Cond.code yX7_begins cX7_begins 3 none, Cond.fieldLink RX7 56 "ShoreFieldsModel" "sand" "[I"]
def wsX7_border_r2 : List Cond := [Cond.fieldLink RX7 16 "ShoreFieldsModel" "begin" "[I", Cond.fieldLink RX7 59 "ShoreFieldsModel" "sea" "[I", Cond.fieldLink RX7 62 "ShoreFieldsModel" "scour" "[I", Cond.fieldLink RX7 71 "ShoreFieldsModel" "lengths" "[I", Cond.methodLink RX7 153 yX7_dredged, Cond.instanceMethod yX7_dredged, Cond.selects RX7 yX7_dredged yX7_dredged, Cond.code yX7_dredged cX7_dredged 6 none, Cond.fieldLink RX7 53 "ShoreFieldsModel" "dredgeOn" "[I", Cond.fieldLink RX7 44 "ShoreFieldsModel" "dredgeOf" "[I", Cond.fieldLink RX7 47 "ShoreFieldsModel" "dredgeUnits" "[I", Cond.fieldLink RX7 50 "ShoreFieldsModel" "dredgeTo" "[I", Cond.methodLink RX7 138 yX7_brings, Cond.instanceMethod yX7_brings, Cond.selects RX7 yX7_brings yX7_brings, Cond.code yX7_brings cX7_brings 3 none, Cond.constant RX7 116 (99999), Cond.methodLink RX7 156 yX7_week, Cond.instanceMethod yX7_week, Cond.selects RX7 yX7_week yX7_week, Cond.code yX7_week cX7_week 6 none, Cond.fieldLink RX7 38 "ShoreFieldsModel" "height" "[I", Cond.fieldLink RX7 41 "ShoreFieldsModel" "side" "[I", Cond.methodLink RX7 142 yX7_passing]
def wsX7_border_r3 : List Cond := [Cond.instanceMethod yX7_passing, Cond.selects RX7 yX7_passing yX7_passing, Cond.code yX7_passing cX7_passing 10 none, Cond.fieldLink RX7 74 "ShoreFieldsModel" "more" "[I", Cond.fieldLink RX7 32 "ShoreFieldsModel" "feeds" "[I", Cond.methodLink RX7 134 yX7_passes, Cond.instanceMethod yX7_passes, Cond.selects RX7 yX7_passes yX7_passes, Cond.code yX7_passes cX7_passes 8 (some .int), Cond.methodLink RX7 130 yX7_goesOut, Cond.instanceMethod yX7_goesOut, Cond.selects RX7 yX7_goesOut yX7_goesOut, Cond.code yX7_goesOut cX7_goesOut 5 (some .int), Cond.methodLink RX7 126 yX7_above, Cond.instanceMethod yX7_above, Cond.selects RX7 yX7_above yX7_above, Cond.code yX7_above cX7_above 3 (some .int), Cond.fieldLink RX7 29 "ShoreFieldsModel" "walls" "[I"]
def wsX7_border : List Cond := .code yX7_border cX7_border 3 (some .int) :: ((wsX7_border_r1 ++ (wsX7_border_r2 ++ wsX7_border_r3)) ++ wsX70)
def wsX7_areGroynes : List Cond := .code yX7_areGroynes cX7_areGroynes 4 (some .boolean) :: ([.fieldLink RX7 20 "ShoreFieldsModel" "kind" "[I", .methodLink RX7 120 yX7_isInner, .instanceMethod yX7_isInner, .selects RX7 yX7_isInner yX7_isInner, .initialized RX7, .code yX7_isInner cX7_isInner 2 (some .boolean), .fieldLink RX7 13 "ShoreFieldsModel" "fields" "I", .methodLink RX7 104 yX7_within, .static yX7_within, .code yX7_within cX7_within 3 (some .boolean)] ++ wsX70)
def wsX7_lineWithout_r1 : List Cond := [Cond.fieldLink RX7 117 "ShoreFieldsModel" "gone" "I", Cond.fieldLink RX7 56 "ShoreFieldsModel" "sand" "[I", Cond.methodLink RX7 159 yX7_runs, Cond.instanceMethod yX7_runs, Cond.selects RX7 yX7_runs yX7_runs, Cond.initialized RX7, Cond.code yX7_runs cX7_runs 4 none, Cond.fieldLink RX7 150 "ShoreFieldsModel" "dredges" "I", Cond.fieldLink RX7 35 "ShoreFieldsModel" "k0" "I", Cond.methodLink RX7 146 yX7_begins, Cond.instanceMethod yX7_begins, Cond.selects RX7 yX7_begins yX7_begins, Cond.code yX7_begins cX7_begins 3 none, Cond.fieldLink RX7 16 "ShoreFieldsModel" "begin" "[I", Cond.fieldLink RX7 59 "ShoreFieldsModel" "sea" "[I", Cond.fieldLink RX7 62 "ShoreFieldsModel" "scour" "[I", Cond.fieldLink RX7 65 "ShoreFieldsModel" "bar" "[I", Cond.fieldLink RX7 68 "ShoreFieldsModel" "passed" "[I", Cond.fieldLink RX7 71 "ShoreFieldsModel" "lengths" "[I", Cond.fieldLink RX7 20 "ShoreFieldsModel" "kind" "[I", Cond.fieldLink RX7 23 "ShoreFieldsModel" "length" "[I", Cond.methodLink RX7 153 yX7_dredged, Cond.instanceMethod yX7_dredged, Cond.selects RX7 yX7_dredged yX7_dredged]
def wsX7_lineWithout_r2 : List Cond := [Cond.code yX7_dredged cX7_dredged 6 none, Cond.fieldLink RX7 53 "ShoreFieldsModel" "dredgeOn" "[I", Cond.fieldLink RX7 44 "ShoreFieldsModel" "dredgeOf" "[I", Cond.fieldLink RX7 47 "ShoreFieldsModel" "dredgeUnits" "[I", Cond.fieldLink RX7 50 "ShoreFieldsModel" "dredgeTo" "[I", Cond.methodLink RX7 138 yX7_brings, Cond.instanceMethod yX7_brings, Cond.selects RX7 yX7_brings yX7_brings, Cond.code yX7_brings cX7_brings 3 none, Cond.constant RX7 116 (99999), Cond.methodLink RX7 156 yX7_week, Cond.instanceMethod yX7_week, Cond.selects RX7 yX7_week yX7_week, Cond.code yX7_week cX7_week 6 none, Cond.fieldLink RX7 38 "ShoreFieldsModel" "height" "[I", Cond.fieldLink RX7 41 "ShoreFieldsModel" "side" "[I", Cond.fieldLink RX7 13 "ShoreFieldsModel" "fields" "I", Cond.methodLink RX7 142 yX7_passing, Cond.instanceMethod yX7_passing, Cond.selects RX7 yX7_passing yX7_passing, Cond.code yX7_passing cX7_passing 10 none, Cond.fieldLink RX7 74 "ShoreFieldsModel" "more" "[I", Cond.fieldLink RX7 26 "ShoreFieldsModel" "part" "[I", Cond.fieldLink RX7 32 "ShoreFieldsModel" "feeds" "[I"]
def wsX7_lineWithout_r3 : List Cond := [Cond.methodLink RX7 134 yX7_passes, Cond.instanceMethod yX7_passes, Cond.selects RX7 yX7_passes yX7_passes, Cond.code yX7_passes cX7_passes 8 (some .int), Cond.methodLink RX7 130 yX7_goesOut, Cond.instanceMethod yX7_goesOut, Cond.selects RX7 yX7_goesOut yX7_goesOut, Cond.code yX7_goesOut cX7_goesOut 5 (some .int), Cond.methodLink RX7 126 yX7_above, Cond.instanceMethod yX7_above, Cond.selects RX7 yX7_above yX7_above, Cond.code yX7_above cX7_above 3 (some .int), Cond.fieldLink RX7 29 "ShoreFieldsModel" "walls" "[I"]
def wsX7_lineWithout : List Cond := .code yX7_lineWithout cX7_lineWithout 3 (some .int) :: ((wsX7_lineWithout_r1 ++ (wsX7_lineWithout_r2 ++ wsX7_lineWithout_r3)) ++ wsX70)
def wsX7_without_r1 : List Cond := [Cond.fieldLink RX7 1 "ShoreFieldsModel" "thrown" "I", Cond.methodLink RX7 112 yX7_isField, Cond.instanceMethod yX7_isField, Cond.selects RX7 yX7_isField yX7_isField, Cond.initialized RX7, Cond.code yX7_isField cX7_isField 2 (some .boolean), Cond.fieldLink RX7 13 "ShoreFieldsModel" "fields" "I", Cond.methodLink RX7 104 yX7_within, Cond.static yX7_within, Cond.code yX7_within cX7_within 3 (some .boolean), Cond.methodLink RX7 163 yX7_areGroynes, Cond.instanceMethod yX7_areGroynes, Cond.selects RX7 yX7_areGroynes yX7_areGroynes, Cond.code yX7_areGroynes cX7_areGroynes 4 (some .boolean), Cond.fieldLink RX7 20 "ShoreFieldsModel" "kind" "[I", Cond.methodLink RX7 120 yX7_isInner, Cond.instanceMethod yX7_isInner, Cond.selects RX7 yX7_isInner yX7_isInner, Cond.code yX7_isInner cX7_isInner 2 (some .boolean), Cond.methodLink RX7 166 yX7_lineWithout, Cond.instanceMethod yX7_lineWithout, Cond.selects RX7 yX7_lineWithout yX7_lineWithout, Cond.code yX7_lineWithout cX7_lineWithout 3 (some .int), Cond.fieldLink RX7 117 "ShoreFieldsModel" "gone" "I"]
def wsX7_without_r2 : List Cond := [Cond.fieldLink RX7 56 "ShoreFieldsModel" "sand" "[I", Cond.methodLink RX7 159 yX7_runs, Cond.instanceMethod yX7_runs, Cond.selects RX7 yX7_runs yX7_runs, Cond.code yX7_runs cX7_runs 4 none, Cond.fieldLink RX7 150 "ShoreFieldsModel" "dredges" "I", Cond.fieldLink RX7 35 "ShoreFieldsModel" "k0" "I", Cond.methodLink RX7 146 yX7_begins, Cond.instanceMethod yX7_begins, Cond.selects RX7 yX7_begins yX7_begins, Cond.code yX7_begins cX7_begins 3 none, Cond.fieldLink RX7 16 "ShoreFieldsModel" "begin" "[I", Cond.fieldLink RX7 59 "ShoreFieldsModel" "sea" "[I", Cond.fieldLink RX7 62 "ShoreFieldsModel" "scour" "[I", Cond.fieldLink RX7 65 "ShoreFieldsModel" "bar" "[I", Cond.fieldLink RX7 68 "ShoreFieldsModel" "passed" "[I", Cond.fieldLink RX7 71 "ShoreFieldsModel" "lengths" "[I", Cond.fieldLink RX7 23 "ShoreFieldsModel" "length" "[I", Cond.methodLink RX7 153 yX7_dredged, Cond.instanceMethod yX7_dredged, Cond.selects RX7 yX7_dredged yX7_dredged, Cond.code yX7_dredged cX7_dredged 6 none, Cond.fieldLink RX7 53 "ShoreFieldsModel" "dredgeOn" "[I", Cond.fieldLink RX7 44 "ShoreFieldsModel" "dredgeOf" "[I"]
def wsX7_without_r3 : List Cond := [Cond.fieldLink RX7 47 "ShoreFieldsModel" "dredgeUnits" "[I", Cond.fieldLink RX7 50 "ShoreFieldsModel" "dredgeTo" "[I", Cond.methodLink RX7 138 yX7_brings, Cond.instanceMethod yX7_brings, Cond.selects RX7 yX7_brings yX7_brings, Cond.code yX7_brings cX7_brings 3 none, Cond.constant RX7 116 (99999), Cond.methodLink RX7 156 yX7_week, Cond.instanceMethod yX7_week, Cond.selects RX7 yX7_week yX7_week, Cond.code yX7_week cX7_week 6 none, Cond.fieldLink RX7 38 "ShoreFieldsModel" "height" "[I", Cond.fieldLink RX7 41 "ShoreFieldsModel" "side" "[I", Cond.methodLink RX7 142 yX7_passing, Cond.instanceMethod yX7_passing, Cond.selects RX7 yX7_passing yX7_passing, Cond.code yX7_passing cX7_passing 10 none, Cond.fieldLink RX7 74 "ShoreFieldsModel" "more" "[I", Cond.fieldLink RX7 26 "ShoreFieldsModel" "part" "[I", Cond.fieldLink RX7 32 "ShoreFieldsModel" "feeds" "[I", Cond.methodLink RX7 134 yX7_passes, Cond.instanceMethod yX7_passes, Cond.selects RX7 yX7_passes yX7_passes, Cond.code yX7_passes cX7_passes 8 (some .int)]
def wsX7_without_r4 : List Cond := [Cond.methodLink RX7 130 yX7_goesOut, Cond.instanceMethod yX7_goesOut, Cond.selects RX7 yX7_goesOut yX7_goesOut, Cond.code yX7_goesOut cX7_goesOut 5 (some .int), Cond.methodLink RX7 126 yX7_above, Cond.instanceMethod yX7_above, Cond.selects RX7 yX7_above yX7_above, Cond.code yX7_above cX7_above 3 (some .int), Cond.fieldLink RX7 29 "ShoreFieldsModel" "walls" "[I"]
def wsX7_without : List Cond := .code yX7_without cX7_without 3 (some .int) :: ((wsX7_without_r1 ++ (wsX7_without_r2 ++ (wsX7_without_r3 ++ wsX7_without_r4))) ++ wsX70)
def wsX7_bits : List Cond := .code yX7_bits cX7_bits 3 (some .int) :: ([])
def wsX7_orders : List Cond := .code yX7_orders cX7_orders 3 (some .int) :: ([])
def wsX7_share_r1 : List Cond := [Cond.fieldLink RX7 1 "ShoreFieldsModel" "thrown" "I", Cond.methodLink RX7 112 yX7_isField, Cond.instanceMethod yX7_isField, Cond.selects RX7 yX7_isField yX7_isField, Cond.initialized RX7, Cond.code yX7_isField cX7_isField 2 (some .boolean), Cond.fieldLink RX7 13 "ShoreFieldsModel" "fields" "I", Cond.methodLink RX7 104 yX7_within, Cond.static yX7_within, Cond.code yX7_within cX7_within 3 (some .boolean), Cond.methodLink RX7 163 yX7_areGroynes, Cond.instanceMethod yX7_areGroynes, Cond.selects RX7 yX7_areGroynes yX7_areGroynes, Cond.code yX7_areGroynes cX7_areGroynes 4 (some .boolean), Cond.fieldLink RX7 20 "ShoreFieldsModel" "kind" "[I", Cond.methodLink RX7 120 yX7_isInner, Cond.instanceMethod yX7_isInner, Cond.selects RX7 yX7_isInner yX7_isInner, Cond.code yX7_isInner cX7_isInner 2 (some .boolean), Cond.methodLink RX7 169 yX7_bits, Cond.static yX7_bits, Cond.code yX7_bits cX7_bits 3 (some .int), Cond.methodLink RX7 172 yX7_orders, Cond.static yX7_orders]
def wsX7_share_r2 : List Cond := [Cond.code yX7_orders cX7_orders 3 (some .int), Cond.methodLink RX7 166 yX7_lineWithout, Cond.instanceMethod yX7_lineWithout, Cond.selects RX7 yX7_lineWithout yX7_lineWithout, Cond.code yX7_lineWithout cX7_lineWithout 3 (some .int), Cond.fieldLink RX7 117 "ShoreFieldsModel" "gone" "I", Cond.fieldLink RX7 56 "ShoreFieldsModel" "sand" "[I", Cond.methodLink RX7 159 yX7_runs, Cond.instanceMethod yX7_runs, Cond.selects RX7 yX7_runs yX7_runs, Cond.code yX7_runs cX7_runs 4 none, Cond.fieldLink RX7 150 "ShoreFieldsModel" "dredges" "I", Cond.fieldLink RX7 35 "ShoreFieldsModel" "k0" "I", Cond.methodLink RX7 146 yX7_begins, Cond.instanceMethod yX7_begins, Cond.selects RX7 yX7_begins yX7_begins, Cond.code yX7_begins cX7_begins 3 none, Cond.fieldLink RX7 16 "ShoreFieldsModel" "begin" "[I", Cond.fieldLink RX7 59 "ShoreFieldsModel" "sea" "[I", Cond.fieldLink RX7 62 "ShoreFieldsModel" "scour" "[I", Cond.fieldLink RX7 65 "ShoreFieldsModel" "bar" "[I", Cond.fieldLink RX7 68 "ShoreFieldsModel" "passed" "[I", Cond.fieldLink RX7 71 "ShoreFieldsModel" "lengths" "[I", Cond.fieldLink RX7 23 "ShoreFieldsModel" "length" "[I"]
def wsX7_share_r3 : List Cond := [Cond.methodLink RX7 153 yX7_dredged, Cond.instanceMethod yX7_dredged, Cond.selects RX7 yX7_dredged yX7_dredged, Cond.code yX7_dredged cX7_dredged 6 none, Cond.fieldLink RX7 53 "ShoreFieldsModel" "dredgeOn" "[I", Cond.fieldLink RX7 44 "ShoreFieldsModel" "dredgeOf" "[I", Cond.fieldLink RX7 47 "ShoreFieldsModel" "dredgeUnits" "[I", Cond.fieldLink RX7 50 "ShoreFieldsModel" "dredgeTo" "[I", Cond.methodLink RX7 138 yX7_brings, Cond.instanceMethod yX7_brings, Cond.selects RX7 yX7_brings yX7_brings, Cond.code yX7_brings cX7_brings 3 none, Cond.constant RX7 116 (99999), Cond.methodLink RX7 156 yX7_week, Cond.instanceMethod yX7_week, Cond.selects RX7 yX7_week yX7_week, Cond.code yX7_week cX7_week 6 none, Cond.fieldLink RX7 38 "ShoreFieldsModel" "height" "[I", Cond.fieldLink RX7 41 "ShoreFieldsModel" "side" "[I", Cond.methodLink RX7 142 yX7_passing, Cond.instanceMethod yX7_passing, Cond.selects RX7 yX7_passing yX7_passing, Cond.code yX7_passing cX7_passing 10 none, Cond.fieldLink RX7 74 "ShoreFieldsModel" "more" "[I"]
def wsX7_share_r4 : List Cond := [Cond.fieldLink RX7 26 "ShoreFieldsModel" "part" "[I", Cond.fieldLink RX7 32 "ShoreFieldsModel" "feeds" "[I", Cond.methodLink RX7 134 yX7_passes, Cond.instanceMethod yX7_passes, Cond.selects RX7 yX7_passes yX7_passes, Cond.code yX7_passes cX7_passes 8 (some .int), Cond.methodLink RX7 130 yX7_goesOut, Cond.instanceMethod yX7_goesOut, Cond.selects RX7 yX7_goesOut yX7_goesOut, Cond.code yX7_goesOut cX7_goesOut 5 (some .int), Cond.methodLink RX7 126 yX7_above, Cond.instanceMethod yX7_above, Cond.selects RX7 yX7_above yX7_above, Cond.code yX7_above cX7_above 3 (some .int), Cond.fieldLink RX7 29 "ShoreFieldsModel" "walls" "[I"]
def wsX7_share : List Cond := .code yX7_share cX7_share 9 (some .int) :: ((wsX7_share_r1 ++ (wsX7_share_r2 ++ (wsX7_share_r3 ++ wsX7_share_r4))) ++ wsX70)
def wsX7_work : List Cond := .code yX7_work cX7_work 6 (some .int) :: ([.fieldLink RX7 1 "ShoreFieldsModel" "thrown" "I", .fieldLink RX7 20 "ShoreFieldsModel" "kind" "[I", .fieldLink RX7 175 "ShoreFieldsModel" "works" "I", .fieldLink RX7 77 "ShoreFieldsModel" "workKind" "[I", .fieldLink RX7 80 "ShoreFieldsModel" "workAt" "[I", .fieldLink RX7 83 "ShoreFieldsModel" "workN" "[I", .fieldLink RX7 86 "ShoreFieldsModel" "workPrice" "[I", .fieldLink RX7 108 "ShoreFieldsModel" "isTold" "Z", .methodLink RX7 112 yX7_isField, .instanceMethod yX7_isField, .selects RX7 yX7_isField yX7_isField, .initialized RX7, .code yX7_isField cX7_isField 2 (some .boolean), .fieldLink RX7 13 "ShoreFieldsModel" "fields" "I", .methodLink RX7 104 yX7_within, .static yX7_within, .code yX7_within cX7_within 3 (some .boolean), .methodLink RX7 120 yX7_isInner, .instanceMethod yX7_isInner, .selects RX7 yX7_isInner yX7_isInner, .code yX7_isInner cX7_isInner 2 (some .boolean)] ++ wsX70)
def wsX7_mark : List Cond := .code yX7_mark cX7_mark 3 (some .boolean) :: ([.fieldLink RX7 1 "ShoreFieldsModel" "thrown" "I", .fieldLink RX7 89 "ShoreFieldsModel" "marks" "[I", .fieldLink RX7 108 "ShoreFieldsModel" "isTold" "Z", .methodLink RX7 112 yX7_isField, .instanceMethod yX7_isField, .selects RX7 yX7_isField yX7_isField, .initialized RX7, .code yX7_isField cX7_isField 2 (some .boolean), .fieldLink RX7 13 "ShoreFieldsModel" "fields" "I", .methodLink RX7 104 yX7_within, .static yX7_within, .code yX7_within cX7_within 3 (some .boolean)] ++ wsX70)
def wsX7_keeps_r1 : List Cond := [Cond.fieldLink RX7 175 "ShoreFieldsModel" "works" "I", Cond.fieldLink RX7 77 "ShoreFieldsModel" "workKind" "[I", Cond.fieldLink RX7 80 "ShoreFieldsModel" "workAt" "[I", Cond.fieldLink RX7 83 "ShoreFieldsModel" "workN" "[I", Cond.fieldLink RX7 71 "ShoreFieldsModel" "lengths" "[I", Cond.fieldLink RX7 150 "ShoreFieldsModel" "dredges" "I", Cond.fieldLink RX7 123 "ShoreFieldsModel" "told" "I", Cond.fieldLink RX7 35 "ShoreFieldsModel" "k0" "I", Cond.fieldLink RX7 13 "ShoreFieldsModel" "fields" "I", Cond.fieldLink RX7 56 "ShoreFieldsModel" "sand" "[I", Cond.fieldLink RX7 89 "ShoreFieldsModel" "marks" "[I", Cond.methodLink RX7 146 yX7_begins, Cond.instanceMethod yX7_begins, Cond.selects RX7 yX7_begins yX7_begins, Cond.initialized RX7, Cond.code yX7_begins cX7_begins 3 none, Cond.fieldLink RX7 16 "ShoreFieldsModel" "begin" "[I", Cond.fieldLink RX7 59 "ShoreFieldsModel" "sea" "[I", Cond.fieldLink RX7 62 "ShoreFieldsModel" "scour" "[I", Cond.fieldLink RX7 65 "ShoreFieldsModel" "bar" "[I", Cond.fieldLink RX7 68 "ShoreFieldsModel" "passed" "[I", Cond.fieldLink RX7 20 "ShoreFieldsModel" "kind" "[I", Cond.fieldLink RX7 23 "ShoreFieldsModel" "length" "[I", Cond.methodLink RX7 138 yX7_brings]
def wsX7_keeps_r2 : List Cond := [Cond.instanceMethod yX7_brings, Cond.selects RX7 yX7_brings yX7_brings, Cond.code yX7_brings cX7_brings 3 none, Cond.constant RX7 116 (99999), Cond.methodLink RX7 153 yX7_dredged, Cond.instanceMethod yX7_dredged, Cond.selects RX7 yX7_dredged yX7_dredged, Cond.code yX7_dredged cX7_dredged 6 none, Cond.fieldLink RX7 53 "ShoreFieldsModel" "dredgeOn" "[I", Cond.fieldLink RX7 44 "ShoreFieldsModel" "dredgeOf" "[I", Cond.fieldLink RX7 47 "ShoreFieldsModel" "dredgeUnits" "[I", Cond.fieldLink RX7 50 "ShoreFieldsModel" "dredgeTo" "[I", Cond.methodLink RX7 156 yX7_week, Cond.instanceMethod yX7_week, Cond.selects RX7 yX7_week yX7_week, Cond.code yX7_week cX7_week 6 none, Cond.fieldLink RX7 38 "ShoreFieldsModel" "height" "[I", Cond.fieldLink RX7 41 "ShoreFieldsModel" "side" "[I", Cond.methodLink RX7 142 yX7_passing, Cond.instanceMethod yX7_passing, Cond.selects RX7 yX7_passing yX7_passing, Cond.code yX7_passing cX7_passing 10 none, Cond.fieldLink RX7 74 "ShoreFieldsModel" "more" "[I", Cond.fieldLink RX7 26 "ShoreFieldsModel" "part" "[I"]
def wsX7_keeps_r3 : List Cond := [Cond.fieldLink RX7 32 "ShoreFieldsModel" "feeds" "[I", Cond.methodLink RX7 134 yX7_passes, Cond.instanceMethod yX7_passes, Cond.selects RX7 yX7_passes yX7_passes, Cond.code yX7_passes cX7_passes 8 (some .int), Cond.methodLink RX7 130 yX7_goesOut, Cond.instanceMethod yX7_goesOut, Cond.selects RX7 yX7_goesOut yX7_goesOut, Cond.code yX7_goesOut cX7_goesOut 5 (some .int), Cond.methodLink RX7 126 yX7_above, Cond.instanceMethod yX7_above, Cond.selects RX7 yX7_above yX7_above, Cond.code yX7_above cX7_above 3 (some .int), Cond.fieldLink RX7 29 "ShoreFieldsModel" "walls" "[I"]
def wsX7_keeps : List Cond := .code yX7_keeps cX7_keeps 5 (some .boolean) :: ((wsX7_keeps_r1 ++ (wsX7_keeps_r2 ++ wsX7_keeps_r3)) ++ wsX70)
def wsX7_works_r1 : List Cond := [Cond.fieldLink RX7 1 "ShoreFieldsModel" "thrown" "I", Cond.fieldLink RX7 175 "ShoreFieldsModel" "works" "I", Cond.fieldLink RX7 86 "ShoreFieldsModel" "workPrice" "[I", Cond.methodLink RX7 178 yX7_keeps, Cond.instanceMethod yX7_keeps, Cond.selects RX7 yX7_keeps yX7_keeps, Cond.initialized RX7, Cond.code yX7_keeps cX7_keeps 5 (some .boolean), Cond.fieldLink RX7 77 "ShoreFieldsModel" "workKind" "[I", Cond.fieldLink RX7 80 "ShoreFieldsModel" "workAt" "[I", Cond.fieldLink RX7 83 "ShoreFieldsModel" "workN" "[I", Cond.fieldLink RX7 71 "ShoreFieldsModel" "lengths" "[I", Cond.fieldLink RX7 150 "ShoreFieldsModel" "dredges" "I", Cond.fieldLink RX7 123 "ShoreFieldsModel" "told" "I", Cond.fieldLink RX7 35 "ShoreFieldsModel" "k0" "I", Cond.fieldLink RX7 13 "ShoreFieldsModel" "fields" "I", Cond.fieldLink RX7 56 "ShoreFieldsModel" "sand" "[I", Cond.fieldLink RX7 89 "ShoreFieldsModel" "marks" "[I", Cond.methodLink RX7 146 yX7_begins, Cond.instanceMethod yX7_begins, Cond.selects RX7 yX7_begins yX7_begins, Cond.code yX7_begins cX7_begins 3 none, Cond.fieldLink RX7 16 "ShoreFieldsModel" "begin" "[I", Cond.fieldLink RX7 59 "ShoreFieldsModel" "sea" "[I"]
def wsX7_works_r2 : List Cond := [Cond.fieldLink RX7 62 "ShoreFieldsModel" "scour" "[I", Cond.fieldLink RX7 65 "ShoreFieldsModel" "bar" "[I", Cond.fieldLink RX7 68 "ShoreFieldsModel" "passed" "[I", Cond.fieldLink RX7 20 "ShoreFieldsModel" "kind" "[I", Cond.fieldLink RX7 23 "ShoreFieldsModel" "length" "[I", Cond.methodLink RX7 138 yX7_brings, Cond.instanceMethod yX7_brings, Cond.selects RX7 yX7_brings yX7_brings, Cond.code yX7_brings cX7_brings 3 none, Cond.constant RX7 116 (99999), Cond.methodLink RX7 153 yX7_dredged, Cond.instanceMethod yX7_dredged, Cond.selects RX7 yX7_dredged yX7_dredged, Cond.code yX7_dredged cX7_dredged 6 none, Cond.fieldLink RX7 53 "ShoreFieldsModel" "dredgeOn" "[I", Cond.fieldLink RX7 44 "ShoreFieldsModel" "dredgeOf" "[I", Cond.fieldLink RX7 47 "ShoreFieldsModel" "dredgeUnits" "[I", Cond.fieldLink RX7 50 "ShoreFieldsModel" "dredgeTo" "[I", Cond.methodLink RX7 156 yX7_week, Cond.instanceMethod yX7_week, Cond.selects RX7 yX7_week yX7_week, Cond.code yX7_week cX7_week 6 none, Cond.fieldLink RX7 38 "ShoreFieldsModel" "height" "[I", Cond.fieldLink RX7 41 "ShoreFieldsModel" "side" "[I"]
def wsX7_works_r3 : List Cond := [Cond.methodLink RX7 142 yX7_passing, Cond.instanceMethod yX7_passing, Cond.selects RX7 yX7_passing yX7_passing, Cond.code yX7_passing cX7_passing 10 none, Cond.fieldLink RX7 74 "ShoreFieldsModel" "more" "[I", Cond.fieldLink RX7 26 "ShoreFieldsModel" "part" "[I", Cond.fieldLink RX7 32 "ShoreFieldsModel" "feeds" "[I", Cond.methodLink RX7 134 yX7_passes, Cond.instanceMethod yX7_passes, Cond.selects RX7 yX7_passes yX7_passes, Cond.code yX7_passes cX7_passes 8 (some .int), Cond.methodLink RX7 130 yX7_goesOut, Cond.instanceMethod yX7_goesOut, Cond.selects RX7 yX7_goesOut yX7_goesOut, Cond.code yX7_goesOut cX7_goesOut 5 (some .int), Cond.methodLink RX7 126 yX7_above, Cond.instanceMethod yX7_above, Cond.selects RX7 yX7_above yX7_above, Cond.code yX7_above cX7_above 3 (some .int), Cond.fieldLink RX7 29 "ShoreFieldsModel" "walls" "[I"]
def wsX7_works : List Cond := .code yX7_works cX7_works 6 (some .int) :: ((wsX7_works_r1 ++ (wsX7_works_r2 ++ wsX7_works_r3)) ++ wsX70)
def wsX7_survey : List Cond := .code yX7_survey cX7_survey 5 (some .int) :: ([.fieldLink RX7 1 "ShoreFieldsModel" "thrown" "I", .fieldLink RX7 181 "ShoreFieldsModel" "surveys" "I", .fieldLink RX7 92 "ShoreFieldsModel" "surveyOf" "[I", .fieldLink RX7 95 "ShoreFieldsModel" "surveyOn" "[I", .fieldLink RX7 98 "ShoreFieldsModel" "surveyLow" "[I", .fieldLink RX7 101 "ShoreFieldsModel" "surveyHigh" "[I", .fieldLink RX7 108 "ShoreFieldsModel" "isTold" "Z", .methodLink RX7 112 yX7_isField, .instanceMethod yX7_isField, .selects RX7 yX7_isField yX7_isField, .initialized RX7, .code yX7_isField cX7_isField 2 (some .boolean), .fieldLink RX7 13 "ShoreFieldsModel" "fields" "I", .methodLink RX7 104 yX7_within, .static yX7_within, .code yX7_within cX7_within 3 (some .boolean)] ++ wsX70)
def wsX7_areSo : List Cond := .code yX7_areSo cX7_areSo 4 (some .boolean) :: ([.fieldLink RX7 181 "ShoreFieldsModel" "surveys" "I", .fieldLink RX7 95 "ShoreFieldsModel" "surveyOn" "[I", .fieldLink RX7 56 "ShoreFieldsModel" "sand" "[I", .fieldLink RX7 92 "ShoreFieldsModel" "surveyOf" "[I", .fieldLink RX7 98 "ShoreFieldsModel" "surveyLow" "[I", .fieldLink RX7 101 "ShoreFieldsModel" "surveyHigh" "[I", .methodLink RX7 104 yX7_within, .static yX7_within, .initialized RX7, .code yX7_within cX7_within 3 (some .boolean)] ++ wsX70)
def wsX7_fits_r1 : List Cond := [Cond.fieldLink RX7 1 "ShoreFieldsModel" "thrown" "I", Cond.fieldLink RX7 150 "ShoreFieldsModel" "dredges" "I", Cond.fieldLink RX7 123 "ShoreFieldsModel" "told" "I", Cond.methodLink RX7 146 yX7_begins, Cond.instanceMethod yX7_begins, Cond.selects RX7 yX7_begins yX7_begins, Cond.initialized RX7, Cond.code yX7_begins cX7_begins 3 none, Cond.fieldLink RX7 56 "ShoreFieldsModel" "sand" "[I", Cond.fieldLink RX7 16 "ShoreFieldsModel" "begin" "[I", Cond.fieldLink RX7 59 "ShoreFieldsModel" "sea" "[I", Cond.fieldLink RX7 62 "ShoreFieldsModel" "scour" "[I", Cond.fieldLink RX7 65 "ShoreFieldsModel" "bar" "[I", Cond.fieldLink RX7 68 "ShoreFieldsModel" "passed" "[I", Cond.fieldLink RX7 71 "ShoreFieldsModel" "lengths" "[I", Cond.fieldLink RX7 20 "ShoreFieldsModel" "kind" "[I", Cond.fieldLink RX7 23 "ShoreFieldsModel" "length" "[I", Cond.methodLink RX7 153 yX7_dredged, Cond.instanceMethod yX7_dredged, Cond.selects RX7 yX7_dredged yX7_dredged, Cond.code yX7_dredged cX7_dredged 6 none, Cond.fieldLink RX7 53 "ShoreFieldsModel" "dredgeOn" "[I", Cond.fieldLink RX7 44 "ShoreFieldsModel" "dredgeOf" "[I", Cond.fieldLink RX7 47 "ShoreFieldsModel" "dredgeUnits" "[I"]
def wsX7_fits_r2 : List Cond := [Cond.fieldLink RX7 50 "ShoreFieldsModel" "dredgeTo" "[I", Cond.methodLink RX7 138 yX7_brings, Cond.instanceMethod yX7_brings, Cond.selects RX7 yX7_brings yX7_brings, Cond.code yX7_brings cX7_brings 3 none, Cond.constant RX7 116 (99999), Cond.methodLink RX7 156 yX7_week, Cond.instanceMethod yX7_week, Cond.selects RX7 yX7_week yX7_week, Cond.code yX7_week cX7_week 6 none, Cond.fieldLink RX7 38 "ShoreFieldsModel" "height" "[I", Cond.fieldLink RX7 41 "ShoreFieldsModel" "side" "[I", Cond.fieldLink RX7 13 "ShoreFieldsModel" "fields" "I", Cond.methodLink RX7 142 yX7_passing, Cond.instanceMethod yX7_passing, Cond.selects RX7 yX7_passing yX7_passing, Cond.code yX7_passing cX7_passing 10 none, Cond.fieldLink RX7 74 "ShoreFieldsModel" "more" "[I", Cond.fieldLink RX7 26 "ShoreFieldsModel" "part" "[I", Cond.fieldLink RX7 32 "ShoreFieldsModel" "feeds" "[I", Cond.methodLink RX7 134 yX7_passes, Cond.instanceMethod yX7_passes, Cond.selects RX7 yX7_passes yX7_passes, Cond.code yX7_passes cX7_passes 8 (some .int)]
def wsX7_fits_r3 : List Cond := [Cond.methodLink RX7 130 yX7_goesOut, Cond.instanceMethod yX7_goesOut, Cond.selects RX7 yX7_goesOut yX7_goesOut, Cond.code yX7_goesOut cX7_goesOut 5 (some .int), Cond.methodLink RX7 126 yX7_above, Cond.instanceMethod yX7_above, Cond.selects RX7 yX7_above yX7_above, Cond.code yX7_above cX7_above 3 (some .int), Cond.fieldLink RX7 29 "ShoreFieldsModel" "walls" "[I", Cond.methodLink RX7 184 yX7_areSo, Cond.instanceMethod yX7_areSo, Cond.selects RX7 yX7_areSo yX7_areSo, Cond.code yX7_areSo cX7_areSo 4 (some .boolean), Cond.fieldLink RX7 181 "ShoreFieldsModel" "surveys" "I", Cond.fieldLink RX7 95 "ShoreFieldsModel" "surveyOn" "[I", Cond.fieldLink RX7 92 "ShoreFieldsModel" "surveyOf" "[I", Cond.fieldLink RX7 98 "ShoreFieldsModel" "surveyLow" "[I", Cond.fieldLink RX7 101 "ShoreFieldsModel" "surveyHigh" "[I", Cond.methodLink RX7 104 yX7_within, Cond.static yX7_within, Cond.code yX7_within cX7_within 3 (some .boolean)]
def wsX7_fits : List Cond := .code yX7_fits cX7_fits 5 (some .int) :: ((wsX7_fits_r1 ++ (wsX7_fits_r2 ++ wsX7_fits_r3)) ++ wsX70)
def wsX7_allSand_r1 : List Cond := [Cond.fieldLink RX7 117 "ShoreFieldsModel" "gone" "I", Cond.fieldLink RX7 13 "ShoreFieldsModel" "fields" "I", Cond.fieldLink RX7 56 "ShoreFieldsModel" "sand" "[I", Cond.fieldLink RX7 59 "ShoreFieldsModel" "sea" "[I", Cond.fieldLink RX7 65 "ShoreFieldsModel" "bar" "[I", Cond.methodLink RX7 159 yX7_runs, Cond.instanceMethod yX7_runs, Cond.selects RX7 yX7_runs yX7_runs, Cond.initialized RX7, Cond.code yX7_runs cX7_runs 4 none, Cond.fieldLink RX7 150 "ShoreFieldsModel" "dredges" "I", Cond.fieldLink RX7 35 "ShoreFieldsModel" "k0" "I", Cond.methodLink RX7 146 yX7_begins, Cond.instanceMethod yX7_begins, Cond.selects RX7 yX7_begins yX7_begins, Cond.code yX7_begins cX7_begins 3 none, Cond.fieldLink RX7 16 "ShoreFieldsModel" "begin" "[I", Cond.fieldLink RX7 62 "ShoreFieldsModel" "scour" "[I", Cond.fieldLink RX7 68 "ShoreFieldsModel" "passed" "[I", Cond.fieldLink RX7 71 "ShoreFieldsModel" "lengths" "[I", Cond.fieldLink RX7 20 "ShoreFieldsModel" "kind" "[I", Cond.fieldLink RX7 23 "ShoreFieldsModel" "length" "[I", Cond.methodLink RX7 153 yX7_dredged, Cond.instanceMethod yX7_dredged]
def wsX7_allSand_r2 : List Cond := [Cond.selects RX7 yX7_dredged yX7_dredged, Cond.code yX7_dredged cX7_dredged 6 none, Cond.fieldLink RX7 53 "ShoreFieldsModel" "dredgeOn" "[I", Cond.fieldLink RX7 44 "ShoreFieldsModel" "dredgeOf" "[I", Cond.fieldLink RX7 47 "ShoreFieldsModel" "dredgeUnits" "[I", Cond.fieldLink RX7 50 "ShoreFieldsModel" "dredgeTo" "[I", Cond.methodLink RX7 138 yX7_brings, Cond.instanceMethod yX7_brings, Cond.selects RX7 yX7_brings yX7_brings, Cond.code yX7_brings cX7_brings 3 none, Cond.constant RX7 116 (99999), Cond.methodLink RX7 156 yX7_week, Cond.instanceMethod yX7_week, Cond.selects RX7 yX7_week yX7_week, Cond.code yX7_week cX7_week 6 none, Cond.fieldLink RX7 38 "ShoreFieldsModel" "height" "[I", Cond.fieldLink RX7 41 "ShoreFieldsModel" "side" "[I", Cond.methodLink RX7 142 yX7_passing, Cond.instanceMethod yX7_passing, Cond.selects RX7 yX7_passing yX7_passing, Cond.code yX7_passing cX7_passing 10 none, Cond.fieldLink RX7 74 "ShoreFieldsModel" "more" "[I", Cond.fieldLink RX7 26 "ShoreFieldsModel" "part" "[I", Cond.fieldLink RX7 32 "ShoreFieldsModel" "feeds" "[I"]
def wsX7_allSand_r3 : List Cond := [Cond.methodLink RX7 134 yX7_passes, Cond.instanceMethod yX7_passes, Cond.selects RX7 yX7_passes yX7_passes, Cond.code yX7_passes cX7_passes 8 (some .int), Cond.methodLink RX7 130 yX7_goesOut, Cond.instanceMethod yX7_goesOut, Cond.selects RX7 yX7_goesOut yX7_goesOut, Cond.code yX7_goesOut cX7_goesOut 5 (some .int), Cond.methodLink RX7 126 yX7_above, Cond.instanceMethod yX7_above, Cond.selects RX7 yX7_above yX7_above, Cond.code yX7_above cX7_above 3 (some .int), Cond.fieldLink RX7 29 "ShoreFieldsModel" "walls" "[I"]
def wsX7_allSand : List Cond := .code yX7_allSand cX7_allSand 3 (some .int) :: ((wsX7_allSand_r1 ++ (wsX7_allSand_r2 ++ wsX7_allSand_r3)) ++ wsX70)
def wsX7_count_r1 : List Cond := [Cond.fieldLink RX7 1 "ShoreFieldsModel" "thrown" "I", Cond.fieldLink RX7 13 "ShoreFieldsModel" "fields" "I", Cond.fieldLink RX7 123 "ShoreFieldsModel" "told" "I", Cond.fieldLink RX7 117 "ShoreFieldsModel" "gone" "I", Cond.fieldLink RX7 175 "ShoreFieldsModel" "works" "I", Cond.fieldLink RX7 181 "ShoreFieldsModel" "surveys" "I", Cond.fieldLink RX7 150 "ShoreFieldsModel" "dredges" "I", Cond.methodLink RX7 187 yX7_allSand, Cond.instanceMethod yX7_allSand, Cond.selects RX7 yX7_allSand yX7_allSand, Cond.initialized RX7, Cond.code yX7_allSand cX7_allSand 3 (some .int), Cond.fieldLink RX7 56 "ShoreFieldsModel" "sand" "[I", Cond.fieldLink RX7 59 "ShoreFieldsModel" "sea" "[I", Cond.fieldLink RX7 65 "ShoreFieldsModel" "bar" "[I", Cond.methodLink RX7 159 yX7_runs, Cond.instanceMethod yX7_runs, Cond.selects RX7 yX7_runs yX7_runs, Cond.code yX7_runs cX7_runs 4 none, Cond.fieldLink RX7 35 "ShoreFieldsModel" "k0" "I", Cond.methodLink RX7 146 yX7_begins, Cond.instanceMethod yX7_begins, Cond.selects RX7 yX7_begins yX7_begins, Cond.code yX7_begins cX7_begins 3 none]
def wsX7_count_r2 : List Cond := [Cond.fieldLink RX7 16 "ShoreFieldsModel" "begin" "[I", Cond.fieldLink RX7 62 "ShoreFieldsModel" "scour" "[I", Cond.fieldLink RX7 68 "ShoreFieldsModel" "passed" "[I", Cond.fieldLink RX7 71 "ShoreFieldsModel" "lengths" "[I", Cond.fieldLink RX7 20 "ShoreFieldsModel" "kind" "[I", Cond.fieldLink RX7 23 "ShoreFieldsModel" "length" "[I", Cond.methodLink RX7 153 yX7_dredged, Cond.instanceMethod yX7_dredged, Cond.selects RX7 yX7_dredged yX7_dredged, Cond.code yX7_dredged cX7_dredged 6 none, Cond.fieldLink RX7 53 "ShoreFieldsModel" "dredgeOn" "[I", Cond.fieldLink RX7 44 "ShoreFieldsModel" "dredgeOf" "[I", Cond.fieldLink RX7 47 "ShoreFieldsModel" "dredgeUnits" "[I", Cond.fieldLink RX7 50 "ShoreFieldsModel" "dredgeTo" "[I", Cond.methodLink RX7 138 yX7_brings, Cond.instanceMethod yX7_brings, Cond.selects RX7 yX7_brings yX7_brings, Cond.code yX7_brings cX7_brings 3 none, Cond.constant RX7 116 (99999), Cond.methodLink RX7 156 yX7_week, Cond.instanceMethod yX7_week, Cond.selects RX7 yX7_week yX7_week, Cond.code yX7_week cX7_week 6 none, Cond.fieldLink RX7 38 "ShoreFieldsModel" "height" "[I"]
def wsX7_count_r3 : List Cond := [Cond.fieldLink RX7 41 "ShoreFieldsModel" "side" "[I", Cond.methodLink RX7 142 yX7_passing, Cond.instanceMethod yX7_passing, Cond.selects RX7 yX7_passing yX7_passing, Cond.code yX7_passing cX7_passing 10 none, Cond.fieldLink RX7 74 "ShoreFieldsModel" "more" "[I", Cond.fieldLink RX7 26 "ShoreFieldsModel" "part" "[I", Cond.fieldLink RX7 32 "ShoreFieldsModel" "feeds" "[I", Cond.methodLink RX7 134 yX7_passes, Cond.instanceMethod yX7_passes, Cond.selects RX7 yX7_passes yX7_passes, Cond.code yX7_passes cX7_passes 8 (some .int), Cond.methodLink RX7 130 yX7_goesOut, Cond.instanceMethod yX7_goesOut, Cond.selects RX7 yX7_goesOut yX7_goesOut, Cond.code yX7_goesOut cX7_goesOut 5 (some .int), Cond.methodLink RX7 126 yX7_above, Cond.instanceMethod yX7_above, Cond.selects RX7 yX7_above yX7_above, Cond.code yX7_above cX7_above 3 (some .int), Cond.fieldLink RX7 29 "ShoreFieldsModel" "walls" "[I"]
def wsX7_count : List Cond := .code yX7_count cX7_count 2 (some .int) :: ((wsX7_count_r1 ++ (wsX7_count_r2 ++ wsX7_count_r3)) ++ wsX70)
def wsJ9_max_7cf53 : List Cond := .code yJ9_max_7cf53 cJ9_max_7cf53 2 (some .int) :: ([])
def wsJ9_min_7cf53 : List Cond := .code yJ9_min_7cf53 cJ9_min_7cf53 2 (some .int) :: ([])
theorem inJ6 : ∀ w ∈ wsJ60, w ∈ lw_tbl := by decide +kernel
theorem inJ9 : ∀ w ∈ wsJ90, w ∈ lw_tbl := by decide +kernel
theorem inJ0 : ∀ w ∈ wsJ00, w ∈ lw_tbl := by decide +kernel
theorem inJ10 : ∀ w ∈ wsJ100, w ∈ lw_tbl := by decide +kernel
theorem inJ7 : ∀ w ∈ wsJ70, w ∈ lw_tbl := by decide +kernel
set_option maxRecDepth 20000 in
theorem ggX0_init_J7_fill_53178 : GoodIn wsX0_init wsJ7_fill_53178 := goodIn_r _ [16] (by decide +kernel) (by decide +kernel)
set_option maxRecDepth 20000 in
theorem gX0_init_J7_fill_53178 : GoodIn wsX0_init (va_wsS RX0 37 yJ7_fill_53178 wsJ7_fill_53178) := goodIn_app (goodIn_of _ (by decide +kernel)) ggX0_init_J7_fill_53178
theorem dX0_init_0 : decode cX0_init 0 = .ok (.aload_n 0, 1) := by decide +kernel
theorem dX0_init_1 : decode cX0_init 1 = .ok (.invokespecial 3, 3) := by decide +kernel
theorem dX0_init_4 : decode cX0_init 4 = .ok (.aload_n 0, 1) := by decide +kernel
theorem dX0_init_5 : decode cX0_init 5 = .ok (.bipush 6, 2) := by decide +kernel
theorem dX0_init_7 : decode cX0_init 7 = .ok (.putfield 9, 3) := by decide +kernel
theorem dX0_init_10 : decode cX0_init 10 = .ok (.aload_n 0, 1) := by decide +kernel
theorem dX0_init_11 : decode cX0_init 11 = .ok (.iconst 4, 1) := by decide +kernel
theorem dX0_init_12 : decode cX0_init 12 = .ok (.putfield 15, 3) := by decide +kernel
theorem dX0_init_15 : decode cX0_init 15 = .ok (.aload_n 0, 1) := by decide +kernel
theorem dX0_init_16 : decode cX0_init 16 = .ok (.bipush 12, 2) := by decide +kernel
theorem dX0_init_18 : decode cX0_init 18 = .ok (.newarray .int, 2) := by decide +kernel
theorem dX0_init_20 : decode cX0_init 20 = .ok (.putfield 18, 3) := by decide +kernel
theorem dX0_init_23 : decode cX0_init 23 = .ok (.aload_n 0, 1) := by decide +kernel
theorem dX0_init_24 : decode cX0_init 24 = .ok (.bipush 12, 2) := by decide +kernel
theorem dX0_init_26 : decode cX0_init 26 = .ok (.newarray .int, 2) := by decide +kernel
theorem dX0_init_28 : decode cX0_init 28 = .ok (.putfield 22, 3) := by decide +kernel
theorem dX0_init_31 : decode cX0_init 31 = .ok (.aload_n 0, 1) := by decide +kernel
theorem dX0_init_32 : decode cX0_init 32 = .ok (.iconst 2, 1) := by decide +kernel
theorem dX0_init_33 : decode cX0_init 33 = .ok (.newarray .int, 2) := by decide +kernel
theorem dX0_init_35 : decode cX0_init 35 = .ok (.putfield 25, 3) := by decide +kernel
theorem dX0_init_38 : decode cX0_init 38 = .ok (.aload_n 0, 1) := by decide +kernel
theorem dX0_init_39 : decode cX0_init 39 = .ok (.bipush 13, 2) := by decide +kernel
theorem dX0_init_41 : decode cX0_init 41 = .ok (.newarray .int, 2) := by decide +kernel
theorem dX0_init_43 : decode cX0_init 43 = .ok (.putfield 28, 3) := by decide +kernel
theorem dX0_init_46 : decode cX0_init 46 = .ok (.aload_n 0, 1) := by decide +kernel
theorem dX0_init_47 : decode cX0_init 47 = .ok (.bipush 13, 2) := by decide +kernel
theorem dX0_init_49 : decode cX0_init 49 = .ok (.newarray .int, 2) := by decide +kernel
theorem dX0_init_51 : decode cX0_init 51 = .ok (.putfield 31, 3) := by decide +kernel
theorem dX0_init_54 : decode cX0_init 54 = .ok (.aload_n 0, 1) := by decide +kernel
theorem dX0_init_55 : decode cX0_init 55 = .ok (.bipush 13, 2) := by decide +kernel
theorem dX0_init_57 : decode cX0_init 57 = .ok (.newarray .int, 2) := by decide +kernel
theorem dX0_init_59 : decode cX0_init 59 = .ok (.putfield 34, 3) := by decide +kernel
theorem dX0_init_62 : decode cX0_init 62 = .ok (.aload_n 0, 1) := by decide +kernel
theorem dX0_init_63 : decode cX0_init 63 = .ok (.getfield 18, 3) := by decide +kernel
theorem dX0_init_66 : decode cX0_init 66 = .ok (.sipush 1000, 3) := by decide +kernel
theorem dX0_init_69 : decode cX0_init 69 = .ok (.invokestatic 37, 3) := by decide +kernel
theorem dX0_init_72 : decode cX0_init 72 = .ok (.aload_n 0, 1) := by decide +kernel
theorem dX0_init_73 : decode cX0_init 73 = .ok (.getfield 25, 3) := by decide +kernel
theorem dX0_init_76 : decode cX0_init 76 = .ok (.bipush 100, 2) := by decide +kernel
theorem dX0_init_78 : decode cX0_init 78 = .ok (.invokestatic 37, 3) := by decide +kernel
theorem dX0_init_81 : decode cX0_init 81 = .ok (.return_, 1) := by decide +kernel
theorem dX0_hasField_0 : decode cX0_hasField 0 = .ok (.iload_n 1, 1) := by decide +kernel
theorem dX0_hasField_1 : decode cX0_hasField 1 = .ok (.ifCond .lt 15, 3) := by decide +kernel
theorem dX0_hasField_4 : decode cX0_hasField 4 = .ok (.iload_n 1, 1) := by decide +kernel
theorem dX0_hasField_5 : decode cX0_hasField 5 = .ok (.aload_n 0, 1) := by decide +kernel
theorem dX0_hasField_6 : decode cX0_hasField 6 = .ok (.getfield 9, 3) := by decide +kernel
theorem dX0_hasField_9 : decode cX0_hasField 9 = .ok (.if_icmp .ge 7, 3) := by decide +kernel
theorem dX0_hasField_12 : decode cX0_hasField 12 = .ok (.iconst 1, 1) := by decide +kernel
theorem dX0_hasField_13 : decode cX0_hasField 13 = .ok (.goto 4, 3) := by decide +kernel
theorem dX0_hasField_16 : decode cX0_hasField 16 = .ok (.iconst 0, 1) := by decide +kernel
theorem dX0_hasField_17 : decode cX0_hasField 17 = .ok (.ireturn, 1) := by decide +kernel
theorem dX0_hasBorder_0 : decode cX0_hasBorder 0 = .ok (.iload_n 1, 1) := by decide +kernel
theorem dX0_hasBorder_1 : decode cX0_hasBorder 1 = .ok (.ifCond .lt 15, 3) := by decide +kernel
theorem dX0_hasBorder_4 : decode cX0_hasBorder 4 = .ok (.iload_n 1, 1) := by decide +kernel
theorem dX0_hasBorder_5 : decode cX0_hasBorder 5 = .ok (.aload_n 0, 1) := by decide +kernel
theorem dX0_hasBorder_6 : decode cX0_hasBorder 6 = .ok (.getfield 9, 3) := by decide +kernel
theorem dX0_hasBorder_9 : decode cX0_hasBorder 9 = .ok (.if_icmp .gt 7, 3) := by decide +kernel
theorem dX0_hasBorder_12 : decode cX0_hasBorder 12 = .ok (.iconst 1, 1) := by decide +kernel
theorem dX0_hasBorder_13 : decode cX0_hasBorder 13 = .ok (.goto 4, 3) := by decide +kernel
theorem dX0_hasBorder_16 : decode cX0_hasBorder 16 = .ok (.iconst 0, 1) := by decide +kernel
theorem dX0_hasBorder_17 : decode cX0_hasBorder 17 = .ok (.ireturn, 1) := by decide +kernel
theorem dX0_liesBetweenFields_0 : decode cX0_liesBetweenFields 0 = .ok (.iload_n 1, 1) := by decide +kernel
theorem dX0_liesBetweenFields_1 : decode cX0_liesBetweenFields 1 = .ok (.iconst 1, 1) := by decide +kernel
theorem dX0_liesBetweenFields_2 : decode cX0_liesBetweenFields 2 = .ok (.if_icmp .lt 15, 3) := by decide +kernel
theorem dX0_liesBetweenFields_5 : decode cX0_liesBetweenFields 5 = .ok (.iload_n 1, 1) := by decide +kernel
theorem dX0_liesBetweenFields_6 : decode cX0_liesBetweenFields 6 = .ok (.aload_n 0, 1) := by decide +kernel
theorem dX0_liesBetweenFields_7 : decode cX0_liesBetweenFields 7 = .ok (.getfield 9, 3) := by decide +kernel
theorem dX0_liesBetweenFields_10 : decode cX0_liesBetweenFields 10 = .ok (.if_icmp .ge 7, 3) := by decide +kernel
theorem dX0_liesBetweenFields_13 : decode cX0_liesBetweenFields 13 = .ok (.iconst 1, 1) := by decide +kernel
theorem dX0_liesBetweenFields_14 : decode cX0_liesBetweenFields 14 = .ok (.goto 4, 3) := by decide +kernel
theorem dX0_liesBetweenFields_17 : decode cX0_liesBetweenFields 17 = .ok (.iconst 0, 1) := by decide +kernel
theorem dX0_liesBetweenFields_18 : decode cX0_liesBetweenFields 18 = .ok (.ireturn, 1) := by decide +kernel
set_option maxRecDepth 20000 in
theorem ggX0_hasAt_X0_liesBetweenFields : GoodIn wsX0_hasAt wsX0_liesBetweenFields := goodIn_r _ [6, 7, 8, 9, 10, 11, 12, 13, 14, 15] (by decide +kernel) (by decide +kernel)
set_option maxRecDepth 20000 in
theorem gX0_hasAt_X0_liesBetweenFields : GoodIn wsX0_hasAt (wsV RX0 43 RX0 yX0_liesBetweenFields wsX0_liesBetweenFields) := goodIn_app (goodIn_of _ (by decide +kernel)) ggX0_hasAt_X0_liesBetweenFields
theorem dX0_hasAt_0 : decode cX0_hasAt 0 = .ok (.aload_n 0, 1) := by decide +kernel
theorem dX0_hasAt_1 : decode cX0_hasAt 1 = .ok (.iload_n 1, 1) := by decide +kernel
theorem dX0_hasAt_2 : decode cX0_hasAt 2 = .ok (.invokevirtual 43, 3) := by decide +kernel
theorem dX0_hasAt_5 : decode cX0_hasAt 5 = .ok (.ifCond .eq 17, 3) := by decide +kernel
theorem dX0_hasAt_8 : decode cX0_hasAt 8 = .ok (.aload_n 0, 1) := by decide +kernel
theorem dX0_hasAt_9 : decode cX0_hasAt 9 = .ok (.getfield 28, 3) := by decide +kernel
theorem dX0_hasAt_12 : decode cX0_hasAt 12 = .ok (.iload_n 1, 1) := by decide +kernel
theorem dX0_hasAt_13 : decode cX0_hasAt 13 = .ok (.iaload, 1) := by decide +kernel
theorem dX0_hasAt_14 : decode cX0_hasAt 14 = .ok (.iload_n 2, 1) := by decide +kernel
theorem dX0_hasAt_15 : decode cX0_hasAt 15 = .ok (.if_icmp .ne 7, 3) := by decide +kernel
theorem dX0_hasAt_18 : decode cX0_hasAt 18 = .ok (.iconst 1, 1) := by decide +kernel
theorem dX0_hasAt_19 : decode cX0_hasAt 19 = .ok (.goto 4, 3) := by decide +kernel
theorem dX0_hasAt_22 : decode cX0_hasAt 22 = .ok (.iconst 0, 1) := by decide +kernel
theorem dX0_hasAt_23 : decode cX0_hasAt 23 = .ok (.ireturn, 1) := by decide +kernel
theorem dX0_hasGroynes_0 : decode cX0_hasGroynes 0 = .ok (.iload_n 1, 1) := by decide +kernel
theorem dX0_hasGroynes_1 : decode cX0_hasGroynes 1 = .ok (.istore_n 2, 1) := by decide +kernel
theorem dX0_hasGroynes_2 : decode cX0_hasGroynes 2 = .ok (.iconst 1, 1) := by decide +kernel
theorem dX0_hasGroynes_3 : decode cX0_hasGroynes 3 = .ok (.istore_n 3, 1) := by decide +kernel
theorem dX0_hasGroynes_4 : decode cX0_hasGroynes 4 = .ok (.iload_n 3, 1) := by decide +kernel
theorem dX0_hasGroynes_5 : decode cX0_hasGroynes 5 = .ok (.aload_n 0, 1) := by decide +kernel
theorem dX0_hasGroynes_6 : decode cX0_hasGroynes 6 = .ok (.getfield 9, 3) := by decide +kernel
theorem dX0_hasGroynes_9 : decode cX0_hasGroynes 9 = .ok (.if_icmp .ge 27, 3) := by decide +kernel
theorem dX0_hasGroynes_12 : decode cX0_hasGroynes 12 = .ok (.aload_n 0, 1) := by decide +kernel
theorem dX0_hasGroynes_13 : decode cX0_hasGroynes 13 = .ok (.getfield 28, 3) := by decide +kernel
theorem dX0_hasGroynes_16 : decode cX0_hasGroynes 16 = .ok (.iload_n 3, 1) := by decide +kernel
theorem dX0_hasGroynes_17 : decode cX0_hasGroynes 17 = .ok (.iaload, 1) := by decide +kernel
theorem dX0_hasGroynes_18 : decode cX0_hasGroynes 18 = .ok (.iconst 1, 1) := by decide +kernel
theorem dX0_hasGroynes_19 : decode cX0_hasGroynes 19 = .ok (.if_icmp .ne 11, 3) := by decide +kernel
theorem dX0_hasGroynes_22 : decode cX0_hasGroynes 22 = .ok (.iload_n 2, 1) := by decide +kernel
theorem dX0_hasGroynes_23 : decode cX0_hasGroynes 23 = .ok (.iconst 1, 1) := by decide +kernel
theorem dX0_hasGroynes_24 : decode cX0_hasGroynes 24 = .ok (.iload_n 3, 1) := by decide +kernel
theorem dX0_hasGroynes_25 : decode cX0_hasGroynes 25 = .ok (.ishl, 1) := by decide +kernel
theorem dX0_hasGroynes_26 : decode cX0_hasGroynes 26 = .ok (.iconst (-1), 1) := by decide +kernel
theorem dX0_hasGroynes_27 : decode cX0_hasGroynes 27 = .ok (.ixor, 1) := by decide +kernel
theorem dX0_hasGroynes_28 : decode cX0_hasGroynes 28 = .ok (.iand, 1) := by decide +kernel
theorem dX0_hasGroynes_29 : decode cX0_hasGroynes 29 = .ok (.istore_n 2, 1) := by decide +kernel
theorem dX0_hasGroynes_30 : decode cX0_hasGroynes 30 = .ok (.iinc 3 1, 3) := by decide +kernel
theorem dX0_hasGroynes_33 : decode cX0_hasGroynes 33 = .ok (.goto (-29), 3) := by decide +kernel
theorem dX0_hasGroynes_36 : decode cX0_hasGroynes 36 = .ok (.iload_n 2, 1) := by decide +kernel
theorem dX0_hasGroynes_37 : decode cX0_hasGroynes 37 = .ok (.ifCond .ne 7, 3) := by decide +kernel
theorem dX0_hasGroynes_40 : decode cX0_hasGroynes 40 = .ok (.iconst 1, 1) := by decide +kernel
theorem dX0_hasGroynes_41 : decode cX0_hasGroynes 41 = .ok (.goto 4, 3) := by decide +kernel
theorem dX0_hasGroynes_44 : decode cX0_hasGroynes 44 = .ok (.iconst 0, 1) := by decide +kernel
theorem dX0_hasGroynes_45 : decode cX0_hasGroynes 45 = .ok (.ireturn, 1) := by decide +kernel
theorem dX0_build_0 : decode cX0_build 0 = .ok (.aload_n 0, 1) := by decide +kernel
theorem dX0_build_1 : decode cX0_build 1 = .ok (.getfield 28, 3) := by decide +kernel
theorem dX0_build_4 : decode cX0_build 4 = .ok (.iload_n 1, 1) := by decide +kernel
theorem dX0_build_5 : decode cX0_build 5 = .ok (.iload_n 2, 1) := by decide +kernel
theorem dX0_build_6 : decode cX0_build 6 = .ok (.iastore, 1) := by decide +kernel
theorem dX0_build_7 : decode cX0_build 7 = .ok (.aload_n 0, 1) := by decide +kernel
theorem dX0_build_8 : decode cX0_build 8 = .ok (.getfield 31, 3) := by decide +kernel
theorem dX0_build_11 : decode cX0_build 11 = .ok (.iload_n 1, 1) := by decide +kernel
theorem dX0_build_12 : decode cX0_build 12 = .ok (.iload_n 3, 1) := by decide +kernel
theorem dX0_build_13 : decode cX0_build 13 = .ok (.iastore, 1) := by decide +kernel
theorem dX0_build_14 : decode cX0_build 14 = .ok (.aload_n 0, 1) := by decide +kernel
theorem dX0_build_15 : decode cX0_build 15 = .ok (.getfield 34, 3) := by decide +kernel
theorem dX0_build_18 : decode cX0_build 18 = .ok (.iload_n 1, 1) := by decide +kernel
theorem dX0_build_19 : decode cX0_build 19 = .ok (.iload 4, 2) := by decide +kernel
theorem dX0_build_21 : decode cX0_build 21 = .ok (.iastore, 1) := by decide +kernel
theorem dX0_build_22 : decode cX0_build 22 = .ok (.return_, 1) := by decide +kernel
set_option maxRecDepth 20000 in
theorem ggX0_leaveAway_X0_build : GoodIn wsX0_leaveAway wsX0_build := goodIn_r _ [6, 7, 8, 9, 10, 11, 12, 13, 14, 15, 16, 17] (by decide +kernel) (by decide +kernel)
set_option maxRecDepth 20000 in
theorem gX0_leaveAway_X0_build : GoodIn wsX0_leaveAway (wsV RX0 47 RX0 yX0_build wsX0_build) := goodIn_app (goodIn_of _ (by decide +kernel)) ggX0_leaveAway_X0_build
theorem dX0_leaveAway_0 : decode cX0_leaveAway 0 = .ok (.iconst 1, 1) := by decide +kernel
theorem dX0_leaveAway_1 : decode cX0_leaveAway 1 = .ok (.istore_n 2, 1) := by decide +kernel
theorem dX0_leaveAway_2 : decode cX0_leaveAway 2 = .ok (.iload_n 2, 1) := by decide +kernel
theorem dX0_leaveAway_3 : decode cX0_leaveAway 3 = .ok (.aload_n 0, 1) := by decide +kernel
theorem dX0_leaveAway_4 : decode cX0_leaveAway 4 = .ok (.getfield 9, 3) := by decide +kernel
theorem dX0_leaveAway_7 : decode cX0_leaveAway 7 = .ok (.if_icmp .ge 25, 3) := by decide +kernel
theorem dX0_leaveAway_10 : decode cX0_leaveAway 10 = .ok (.iload_n 1, 1) := by decide +kernel
theorem dX0_leaveAway_11 : decode cX0_leaveAway 11 = .ok (.iconst 1, 1) := by decide +kernel
theorem dX0_leaveAway_12 : decode cX0_leaveAway 12 = .ok (.iload_n 2, 1) := by decide +kernel
theorem dX0_leaveAway_13 : decode cX0_leaveAway 13 = .ok (.ishl, 1) := by decide +kernel
theorem dX0_leaveAway_14 : decode cX0_leaveAway 14 = .ok (.iand, 1) := by decide +kernel
theorem dX0_leaveAway_15 : decode cX0_leaveAway 15 = .ok (.ifCond .eq 11, 3) := by decide +kernel
theorem dX0_leaveAway_18 : decode cX0_leaveAway 18 = .ok (.aload_n 0, 1) := by decide +kernel
theorem dX0_leaveAway_19 : decode cX0_leaveAway 19 = .ok (.iload_n 2, 1) := by decide +kernel
theorem dX0_leaveAway_20 : decode cX0_leaveAway 20 = .ok (.iconst 0, 1) := by decide +kernel
theorem dX0_leaveAway_21 : decode cX0_leaveAway 21 = .ok (.iconst 0, 1) := by decide +kernel
theorem dX0_leaveAway_22 : decode cX0_leaveAway 22 = .ok (.iconst 0, 1) := by decide +kernel
theorem dX0_leaveAway_23 : decode cX0_leaveAway 23 = .ok (.invokevirtual 47, 3) := by decide +kernel
theorem dX0_leaveAway_26 : decode cX0_leaveAway 26 = .ok (.iinc 2 1, 3) := by decide +kernel
theorem dX0_leaveAway_29 : decode cX0_leaveAway 29 = .ok (.goto (-27), 3) := by decide +kernel
theorem dX0_leaveAway_32 : decode cX0_leaveAway 32 = .ok (.return_, 1) := by decide +kernel
theorem dX0_copyFrom_0 : decode cX0_copyFrom 0 = .ok (.aload_n 0, 1) := by decide +kernel
theorem dX0_copyFrom_1 : decode cX0_copyFrom 1 = .ok (.aload_n 1, 1) := by decide +kernel
theorem dX0_copyFrom_2 : decode cX0_copyFrom 2 = .ok (.getfield 9, 3) := by decide +kernel
theorem dX0_copyFrom_5 : decode cX0_copyFrom 5 = .ok (.putfield 9, 3) := by decide +kernel
theorem dX0_copyFrom_8 : decode cX0_copyFrom 8 = .ok (.aload_n 0, 1) := by decide +kernel
theorem dX0_copyFrom_9 : decode cX0_copyFrom 9 = .ok (.aload_n 1, 1) := by decide +kernel
theorem dX0_copyFrom_10 : decode cX0_copyFrom 10 = .ok (.getfield 15, 3) := by decide +kernel
theorem dX0_copyFrom_13 : decode cX0_copyFrom 13 = .ok (.putfield 15, 3) := by decide +kernel
theorem dX0_copyFrom_16 : decode cX0_copyFrom 16 = .ok (.aload_n 1, 1) := by decide +kernel
theorem dX0_copyFrom_17 : decode cX0_copyFrom 17 = .ok (.getfield 18, 3) := by decide +kernel
theorem dX0_copyFrom_20 : decode cX0_copyFrom 20 = .ok (.iconst 0, 1) := by decide +kernel
theorem dX0_copyFrom_21 : decode cX0_copyFrom 21 = .ok (.aload_n 0, 1) := by decide +kernel
theorem dX0_copyFrom_22 : decode cX0_copyFrom 22 = .ok (.getfield 18, 3) := by decide +kernel
theorem dX0_copyFrom_25 : decode cX0_copyFrom 25 = .ok (.iconst 0, 1) := by decide +kernel
theorem dX0_copyFrom_26 : decode cX0_copyFrom 26 = .ok (.bipush 12, 2) := by decide +kernel
theorem dX0_copyFrom_28 : decode cX0_copyFrom 28 = .ok (.invokestatic 51, 3) := by decide +kernel
theorem dX0_copyFrom_31 : decode cX0_copyFrom 31 = .ok (.aload_n 1, 1) := by decide +kernel
theorem dX0_copyFrom_32 : decode cX0_copyFrom 32 = .ok (.getfield 22, 3) := by decide +kernel
theorem dX0_copyFrom_35 : decode cX0_copyFrom 35 = .ok (.iconst 0, 1) := by decide +kernel
theorem dX0_copyFrom_36 : decode cX0_copyFrom 36 = .ok (.aload_n 0, 1) := by decide +kernel
theorem dX0_copyFrom_37 : decode cX0_copyFrom 37 = .ok (.getfield 22, 3) := by decide +kernel
theorem dX0_copyFrom_40 : decode cX0_copyFrom 40 = .ok (.iconst 0, 1) := by decide +kernel
theorem dX0_copyFrom_41 : decode cX0_copyFrom 41 = .ok (.bipush 12, 2) := by decide +kernel
theorem dX0_copyFrom_43 : decode cX0_copyFrom 43 = .ok (.invokestatic 51, 3) := by decide +kernel
theorem dX0_copyFrom_46 : decode cX0_copyFrom 46 = .ok (.aload_n 1, 1) := by decide +kernel
theorem dX0_copyFrom_47 : decode cX0_copyFrom 47 = .ok (.getfield 25, 3) := by decide +kernel
theorem dX0_copyFrom_50 : decode cX0_copyFrom 50 = .ok (.iconst 0, 1) := by decide +kernel
theorem dX0_copyFrom_51 : decode cX0_copyFrom 51 = .ok (.aload_n 0, 1) := by decide +kernel
theorem dX0_copyFrom_52 : decode cX0_copyFrom 52 = .ok (.getfield 25, 3) := by decide +kernel
theorem dX0_copyFrom_55 : decode cX0_copyFrom 55 = .ok (.iconst 0, 1) := by decide +kernel
theorem dX0_copyFrom_56 : decode cX0_copyFrom 56 = .ok (.iconst 2, 1) := by decide +kernel
theorem dX0_copyFrom_57 : decode cX0_copyFrom 57 = .ok (.invokestatic 51, 3) := by decide +kernel
theorem dX0_copyFrom_60 : decode cX0_copyFrom 60 = .ok (.aload_n 1, 1) := by decide +kernel
theorem dX0_copyFrom_61 : decode cX0_copyFrom 61 = .ok (.getfield 28, 3) := by decide +kernel
theorem dX0_copyFrom_64 : decode cX0_copyFrom 64 = .ok (.iconst 0, 1) := by decide +kernel
theorem dX0_copyFrom_65 : decode cX0_copyFrom 65 = .ok (.aload_n 0, 1) := by decide +kernel
theorem dX0_copyFrom_66 : decode cX0_copyFrom 66 = .ok (.getfield 28, 3) := by decide +kernel
theorem dX0_copyFrom_69 : decode cX0_copyFrom 69 = .ok (.iconst 0, 1) := by decide +kernel
theorem dX0_copyFrom_70 : decode cX0_copyFrom 70 = .ok (.bipush 13, 2) := by decide +kernel
theorem dX0_copyFrom_72 : decode cX0_copyFrom 72 = .ok (.invokestatic 51, 3) := by decide +kernel
theorem dX0_copyFrom_75 : decode cX0_copyFrom 75 = .ok (.aload_n 1, 1) := by decide +kernel
theorem dX0_copyFrom_76 : decode cX0_copyFrom 76 = .ok (.getfield 31, 3) := by decide +kernel
theorem dX0_copyFrom_79 : decode cX0_copyFrom 79 = .ok (.iconst 0, 1) := by decide +kernel
theorem dX0_copyFrom_80 : decode cX0_copyFrom 80 = .ok (.aload_n 0, 1) := by decide +kernel
theorem dX0_copyFrom_81 : decode cX0_copyFrom 81 = .ok (.getfield 31, 3) := by decide +kernel
theorem dX0_copyFrom_84 : decode cX0_copyFrom 84 = .ok (.iconst 0, 1) := by decide +kernel
theorem dX0_copyFrom_85 : decode cX0_copyFrom 85 = .ok (.bipush 13, 2) := by decide +kernel
theorem dX0_copyFrom_87 : decode cX0_copyFrom 87 = .ok (.invokestatic 51, 3) := by decide +kernel
theorem dX0_copyFrom_90 : decode cX0_copyFrom 90 = .ok (.aload_n 1, 1) := by decide +kernel
theorem dX0_copyFrom_91 : decode cX0_copyFrom 91 = .ok (.getfield 34, 3) := by decide +kernel
theorem dX0_copyFrom_94 : decode cX0_copyFrom 94 = .ok (.iconst 0, 1) := by decide +kernel
theorem dX0_copyFrom_95 : decode cX0_copyFrom 95 = .ok (.aload_n 0, 1) := by decide +kernel
theorem dX0_copyFrom_96 : decode cX0_copyFrom 96 = .ok (.getfield 34, 3) := by decide +kernel
theorem dX0_copyFrom_99 : decode cX0_copyFrom 99 = .ok (.iconst 0, 1) := by decide +kernel
theorem dX0_copyFrom_100 : decode cX0_copyFrom 100 = .ok (.bipush 13, 2) := by decide +kernel
theorem dX0_copyFrom_102 : decode cX0_copyFrom 102 = .ok (.invokestatic 51, 3) := by decide +kernel
theorem dX0_copyFrom_105 : decode cX0_copyFrom 105 = .ok (.return_, 1) := by decide +kernel
theorem dX1_init_0 : decode cX1_init 0 = .ok (.aload_n 0, 1) := by decide +kernel
theorem dX1_init_1 : decode cX1_init 1 = .ok (.invokespecial 3, 3) := by decide +kernel
theorem dX1_init_4 : decode cX1_init 4 = .ok (.aload_n 0, 1) := by decide +kernel
theorem dX1_init_5 : decode cX1_init 5 = .ok (.iconst 0, 1) := by decide +kernel
theorem dX1_init_6 : decode cX1_init 6 = .ok (.putfield 9, 3) := by decide +kernel
theorem dX1_init_9 : decode cX1_init 9 = .ok (.aload_n 0, 1) := by decide +kernel
theorem dX1_init_10 : decode cX1_init 10 = .ok (.bipush 20, 2) := by decide +kernel
theorem dX1_init_12 : decode cX1_init 12 = .ok (.newarray .int, 2) := by decide +kernel
theorem dX1_init_14 : decode cX1_init 14 = .ok (.putfield 15, 3) := by decide +kernel
theorem dX1_init_17 : decode cX1_init 17 = .ok (.aload_n 0, 1) := by decide +kernel
theorem dX1_init_18 : decode cX1_init 18 = .ok (.bipush 20, 2) := by decide +kernel
theorem dX1_init_20 : decode cX1_init 20 = .ok (.newarray .int, 2) := by decide +kernel
theorem dX1_init_22 : decode cX1_init 22 = .ok (.putfield 19, 3) := by decide +kernel
theorem dX1_init_25 : decode cX1_init 25 = .ok (.aload_n 0, 1) := by decide +kernel
theorem dX1_init_26 : decode cX1_init 26 = .ok (.bipush 20, 2) := by decide +kernel
theorem dX1_init_28 : decode cX1_init 28 = .ok (.newarray .int, 2) := by decide +kernel
theorem dX1_init_30 : decode cX1_init 30 = .ok (.putfield 22, 3) := by decide +kernel
theorem dX1_init_33 : decode cX1_init 33 = .ok (.aload_n 0, 1) := by decide +kernel
theorem dX1_init_34 : decode cX1_init 34 = .ok (.bipush 20, 2) := by decide +kernel
theorem dX1_init_36 : decode cX1_init 36 = .ok (.newarray .int, 2) := by decide +kernel
theorem dX1_init_38 : decode cX1_init 38 = .ok (.putfield 25, 3) := by decide +kernel
theorem dX1_init_41 : decode cX1_init 41 = .ok (.return_, 1) := by decide +kernel
theorem dX1_add_0 : decode cX1_add 0 = .ok (.aload_n 0, 1) := by decide +kernel
theorem dX1_add_1 : decode cX1_add 1 = .ok (.getfield 9, 3) := by decide +kernel
theorem dX1_add_4 : decode cX1_add 4 = .ok (.bipush 20, 2) := by decide +kernel
theorem dX1_add_6 : decode cX1_add 6 = .ok (.if_icmp .ge 54, 3) := by decide +kernel
theorem dX1_add_9 : decode cX1_add 9 = .ok (.aload_n 0, 1) := by decide +kernel
theorem dX1_add_10 : decode cX1_add 10 = .ok (.getfield 15, 3) := by decide +kernel
theorem dX1_add_13 : decode cX1_add 13 = .ok (.aload_n 0, 1) := by decide +kernel
theorem dX1_add_14 : decode cX1_add 14 = .ok (.getfield 9, 3) := by decide +kernel
theorem dX1_add_17 : decode cX1_add 17 = .ok (.iload_n 1, 1) := by decide +kernel
theorem dX1_add_18 : decode cX1_add 18 = .ok (.iastore, 1) := by decide +kernel
theorem dX1_add_19 : decode cX1_add 19 = .ok (.aload_n 0, 1) := by decide +kernel
theorem dX1_add_20 : decode cX1_add 20 = .ok (.getfield 19, 3) := by decide +kernel
theorem dX1_add_23 : decode cX1_add 23 = .ok (.aload_n 0, 1) := by decide +kernel
theorem dX1_add_24 : decode cX1_add 24 = .ok (.getfield 9, 3) := by decide +kernel
theorem dX1_add_27 : decode cX1_add 27 = .ok (.iload_n 2, 1) := by decide +kernel
theorem dX1_add_28 : decode cX1_add 28 = .ok (.iastore, 1) := by decide +kernel
theorem dX1_add_29 : decode cX1_add 29 = .ok (.aload_n 0, 1) := by decide +kernel
theorem dX1_add_30 : decode cX1_add 30 = .ok (.getfield 22, 3) := by decide +kernel
theorem dX1_add_33 : decode cX1_add 33 = .ok (.aload_n 0, 1) := by decide +kernel
theorem dX1_add_34 : decode cX1_add 34 = .ok (.getfield 9, 3) := by decide +kernel
theorem dX1_add_37 : decode cX1_add 37 = .ok (.iload_n 3, 1) := by decide +kernel
theorem dX1_add_38 : decode cX1_add 38 = .ok (.iastore, 1) := by decide +kernel
theorem dX1_add_39 : decode cX1_add 39 = .ok (.aload_n 0, 1) := by decide +kernel
theorem dX1_add_40 : decode cX1_add 40 = .ok (.getfield 25, 3) := by decide +kernel
theorem dX1_add_43 : decode cX1_add 43 = .ok (.aload_n 0, 1) := by decide +kernel
theorem dX1_add_44 : decode cX1_add 44 = .ok (.getfield 9, 3) := by decide +kernel
theorem dX1_add_47 : decode cX1_add 47 = .ok (.iload 4, 2) := by decide +kernel
theorem dX1_add_49 : decode cX1_add 49 = .ok (.iastore, 1) := by decide +kernel
theorem dX1_add_50 : decode cX1_add 50 = .ok (.aload_n 0, 1) := by decide +kernel
theorem dX1_add_51 : decode cX1_add 51 = .ok (.dup, 1) := by decide +kernel
theorem dX1_add_52 : decode cX1_add 52 = .ok (.getfield 9, 3) := by decide +kernel
theorem dX1_add_55 : decode cX1_add 55 = .ok (.iconst 1, 1) := by decide +kernel
theorem dX1_add_56 : decode cX1_add 56 = .ok (.iadd, 1) := by decide +kernel
theorem dX1_add_57 : decode cX1_add 57 = .ok (.putfield 9, 3) := by decide +kernel
theorem dX1_add_60 : decode cX1_add 60 = .ok (.return_, 1) := by decide +kernel
set_option maxRecDepth 20000 in
theorem ggX1_redoBehind_X2_bringFromBar : GoodIn wsX1_redoBehind wsX2_bringFromBar := goodIn_r _ [10, 11, 12, 13, 14, 15, 16, 17, 23, 24, 25, 26, 27, 28] (by decide +kernel) (by decide +kernel)
set_option maxRecDepth 20000 in
theorem gX1_redoBehind_X2_bringFromBar : GoodIn wsX1_redoBehind (wsV RX1 28 RX2 yX2_bringFromBar wsX2_bringFromBar) := goodIn_app (goodIn_of _ (by decide +kernel)) ggX1_redoBehind_X2_bringFromBar
theorem dX1_redoBehind_0 : decode cX1_redoBehind 0 = .ok (.iconst 0, 1) := by decide +kernel
theorem dX1_redoBehind_1 : decode cX1_redoBehind 1 = .ok (.istore_n 3, 1) := by decide +kernel
theorem dX1_redoBehind_2 : decode cX1_redoBehind 2 = .ok (.iload_n 3, 1) := by decide +kernel
theorem dX1_redoBehind_3 : decode cX1_redoBehind 3 = .ok (.aload_n 0, 1) := by decide +kernel
theorem dX1_redoBehind_4 : decode cX1_redoBehind 4 = .ok (.getfield 9, 3) := by decide +kernel
theorem dX1_redoBehind_7 : decode cX1_redoBehind 7 = .ok (.if_icmp .ge 42, 3) := by decide +kernel
theorem dX1_redoBehind_10 : decode cX1_redoBehind 10 = .ok (.aload_n 0, 1) := by decide +kernel
theorem dX1_redoBehind_11 : decode cX1_redoBehind 11 = .ok (.getfield 25, 3) := by decide +kernel
theorem dX1_redoBehind_14 : decode cX1_redoBehind 14 = .ok (.iload_n 3, 1) := by decide +kernel
theorem dX1_redoBehind_15 : decode cX1_redoBehind 15 = .ok (.iaload, 1) := by decide +kernel
theorem dX1_redoBehind_16 : decode cX1_redoBehind 16 = .ok (.iload_n 1, 1) := by decide +kernel
theorem dX1_redoBehind_17 : decode cX1_redoBehind 17 = .ok (.if_icmp .ne 26, 3) := by decide +kernel
theorem dX1_redoBehind_20 : decode cX1_redoBehind 20 = .ok (.aload_n 2, 1) := by decide +kernel
theorem dX1_redoBehind_21 : decode cX1_redoBehind 21 = .ok (.aload_n 0, 1) := by decide +kernel
theorem dX1_redoBehind_22 : decode cX1_redoBehind 22 = .ok (.getfield 15, 3) := by decide +kernel
theorem dX1_redoBehind_25 : decode cX1_redoBehind 25 = .ok (.iload_n 3, 1) := by decide +kernel
theorem dX1_redoBehind_26 : decode cX1_redoBehind 26 = .ok (.iaload, 1) := by decide +kernel
theorem dX1_redoBehind_27 : decode cX1_redoBehind 27 = .ok (.aload_n 0, 1) := by decide +kernel
theorem dX1_redoBehind_28 : decode cX1_redoBehind 28 = .ok (.getfield 19, 3) := by decide +kernel
theorem dX1_redoBehind_31 : decode cX1_redoBehind 31 = .ok (.iload_n 3, 1) := by decide +kernel
theorem dX1_redoBehind_32 : decode cX1_redoBehind 32 = .ok (.iaload, 1) := by decide +kernel
theorem dX1_redoBehind_33 : decode cX1_redoBehind 33 = .ok (.aload_n 0, 1) := by decide +kernel
theorem dX1_redoBehind_34 : decode cX1_redoBehind 34 = .ok (.getfield 22, 3) := by decide +kernel
theorem dX1_redoBehind_37 : decode cX1_redoBehind 37 = .ok (.iload_n 3, 1) := by decide +kernel
theorem dX1_redoBehind_38 : decode cX1_redoBehind 38 = .ok (.iaload, 1) := by decide +kernel
theorem dX1_redoBehind_39 : decode cX1_redoBehind 39 = .ok (.invokevirtual 28, 3) := by decide +kernel
theorem dX1_redoBehind_42 : decode cX1_redoBehind 42 = .ok (.pop, 1) := by decide +kernel
theorem dX1_redoBehind_43 : decode cX1_redoBehind 43 = .ok (.iinc 3 1, 3) := by decide +kernel
theorem dX1_redoBehind_46 : decode cX1_redoBehind 46 = .ok (.goto (-44), 3) := by decide +kernel
theorem dX1_redoBehind_49 : decode cX1_redoBehind 49 = .ok (.return_, 1) := by decide +kernel
theorem dX2_init_0 : decode cX2_init 0 = .ok (.aload_n 0, 1) := by decide +kernel
theorem dX2_init_1 : decode cX2_init 1 = .ok (.invokespecial 3, 3) := by decide +kernel
theorem dX2_init_4 : decode cX2_init 4 = .ok (.aload_n 0, 1) := by decide +kernel
theorem dX2_init_5 : decode cX2_init 5 = .ok (.bipush 12, 2) := by decide +kernel
theorem dX2_init_7 : decode cX2_init 7 = .ok (.newarray .int, 2) := by decide +kernel
theorem dX2_init_9 : decode cX2_init 9 = .ok (.putfield 9, 3) := by decide +kernel
theorem dX2_init_12 : decode cX2_init 12 = .ok (.aload_n 0, 1) := by decide +kernel
theorem dX2_init_13 : decode cX2_init 13 = .ok (.bipush 12, 2) := by decide +kernel
theorem dX2_init_15 : decode cX2_init 15 = .ok (.newarray .int, 2) := by decide +kernel
theorem dX2_init_17 : decode cX2_init 17 = .ok (.putfield 15, 3) := by decide +kernel
theorem dX2_init_20 : decode cX2_init 20 = .ok (.aload_n 0, 1) := by decide +kernel
theorem dX2_init_21 : decode cX2_init 21 = .ok (.bipush 12, 2) := by decide +kernel
theorem dX2_init_23 : decode cX2_init 23 = .ok (.newarray .int, 2) := by decide +kernel
theorem dX2_init_25 : decode cX2_init 25 = .ok (.putfield 18, 3) := by decide +kernel
theorem dX2_init_28 : decode cX2_init 28 = .ok (.aload_n 0, 1) := by decide +kernel
theorem dX2_init_29 : decode cX2_init 29 = .ok (.bipush 13, 2) := by decide +kernel
theorem dX2_init_31 : decode cX2_init 31 = .ok (.newarray .int, 2) := by decide +kernel
theorem dX2_init_33 : decode cX2_init 33 = .ok (.putfield 21, 3) := by decide +kernel
theorem dX2_init_36 : decode cX2_init 36 = .ok (.aload_n 0, 1) := by decide +kernel
theorem dX2_init_37 : decode cX2_init 37 = .ok (.bipush 13, 2) := by decide +kernel
theorem dX2_init_39 : decode cX2_init 39 = .ok (.newarray .int, 2) := by decide +kernel
theorem dX2_init_41 : decode cX2_init 41 = .ok (.putfield 24, 3) := by decide +kernel
theorem dX2_init_44 : decode cX2_init 44 = .ok (.aload_n 0, 1) := by decide +kernel
theorem dX2_init_45 : decode cX2_init 45 = .ok (.bipush 12, 2) := by decide +kernel
theorem dX2_init_47 : decode cX2_init 47 = .ok (.newarray .int, 2) := by decide +kernel
theorem dX2_init_49 : decode cX2_init 49 = .ok (.putfield 27, 3) := by decide +kernel
theorem dX2_init_52 : decode cX2_init 52 = .ok (.return_, 1) := by decide +kernel
set_option maxRecDepth 20000 in
theorem ggX2_startFrom_J7_fill_53178 : GoodIn wsX2_startFrom wsJ7_fill_53178 := goodIn_r _ [14] (by decide +kernel) (by decide +kernel)
set_option maxRecDepth 20000 in
theorem gX2_startFrom_J7_fill_53178 : GoodIn wsX2_startFrom (va_wsS RX2 39 yJ7_fill_53178 wsJ7_fill_53178) := goodIn_app (goodIn_of _ (by decide +kernel)) ggX2_startFrom_J7_fill_53178
theorem dX2_startFrom_0 : decode cX2_startFrom 0 = .ok (.aload_n 1, 1) := by decide +kernel
theorem dX2_startFrom_1 : decode cX2_startFrom 1 = .ok (.getfield 30, 3) := by decide +kernel
theorem dX2_startFrom_4 : decode cX2_startFrom 4 = .ok (.iconst 0, 1) := by decide +kernel
theorem dX2_startFrom_5 : decode cX2_startFrom 5 = .ok (.aload_n 0, 1) := by decide +kernel
theorem dX2_startFrom_6 : decode cX2_startFrom 6 = .ok (.getfield 9, 3) := by decide +kernel
theorem dX2_startFrom_9 : decode cX2_startFrom 9 = .ok (.iconst 0, 1) := by decide +kernel
theorem dX2_startFrom_10 : decode cX2_startFrom 10 = .ok (.bipush 12, 2) := by decide +kernel
theorem dX2_startFrom_12 : decode cX2_startFrom 12 = .ok (.invokestatic 33, 3) := by decide +kernel
theorem dX2_startFrom_15 : decode cX2_startFrom 15 = .ok (.aload_n 0, 1) := by decide +kernel
theorem dX2_startFrom_16 : decode cX2_startFrom 16 = .ok (.getfield 15, 3) := by decide +kernel
theorem dX2_startFrom_19 : decode cX2_startFrom 19 = .ok (.iconst 0, 1) := by decide +kernel
theorem dX2_startFrom_20 : decode cX2_startFrom 20 = .ok (.invokestatic 39, 3) := by decide +kernel
theorem dX2_startFrom_23 : decode cX2_startFrom 23 = .ok (.aload_n 0, 1) := by decide +kernel
theorem dX2_startFrom_24 : decode cX2_startFrom 24 = .ok (.getfield 18, 3) := by decide +kernel
theorem dX2_startFrom_27 : decode cX2_startFrom 27 = .ok (.iconst 0, 1) := by decide +kernel
theorem dX2_startFrom_28 : decode cX2_startFrom 28 = .ok (.invokestatic 39, 3) := by decide +kernel
theorem dX2_startFrom_31 : decode cX2_startFrom 31 = .ok (.aload_n 0, 1) := by decide +kernel
theorem dX2_startFrom_32 : decode cX2_startFrom 32 = .ok (.getfield 21, 3) := by decide +kernel
theorem dX2_startFrom_35 : decode cX2_startFrom 35 = .ok (.iconst 0, 1) := by decide +kernel
theorem dX2_startFrom_36 : decode cX2_startFrom 36 = .ok (.invokestatic 39, 3) := by decide +kernel
theorem dX2_startFrom_39 : decode cX2_startFrom 39 = .ok (.aload_n 0, 1) := by decide +kernel
theorem dX2_startFrom_40 : decode cX2_startFrom 40 = .ok (.getfield 24, 3) := by decide +kernel
theorem dX2_startFrom_43 : decode cX2_startFrom 43 = .ok (.iconst 0, 1) := by decide +kernel
theorem dX2_startFrom_44 : decode cX2_startFrom 44 = .ok (.invokestatic 39, 3) := by decide +kernel
theorem dX2_startFrom_47 : decode cX2_startFrom 47 = .ok (.return_, 1) := by decide +kernel
theorem dX2_lineOf_0 : decode cX2_lineOf 0 = .ok (.aload_n 0, 1) := by decide +kernel
theorem dX2_lineOf_1 : decode cX2_lineOf 1 = .ok (.getfield 9, 3) := by decide +kernel
theorem dX2_lineOf_4 : decode cX2_lineOf 4 = .ok (.iload_n 1, 1) := by decide +kernel
theorem dX2_lineOf_5 : decode cX2_lineOf 5 = .ok (.iaload, 1) := by decide +kernel
theorem dX2_lineOf_6 : decode cX2_lineOf 6 = .ok (.bipush 10, 2) := by decide +kernel
theorem dX2_lineOf_8 : decode cX2_lineOf 8 = .ok (.idiv, 1) := by decide +kernel
theorem dX2_lineOf_9 : decode cX2_lineOf 9 = .ok (.ireturn, 1) := by decide +kernel
theorem dX2_sandInAll_0 : decode cX2_sandInAll 0 = .ok (.iconst 0, 1) := by decide +kernel
theorem dX2_sandInAll_1 : decode cX2_sandInAll 1 = .ok (.istore_n 2, 1) := by decide +kernel
theorem dX2_sandInAll_2 : decode cX2_sandInAll 2 = .ok (.iconst 0, 1) := by decide +kernel
theorem dX2_sandInAll_3 : decode cX2_sandInAll 3 = .ok (.istore_n 3, 1) := by decide +kernel
theorem dX2_sandInAll_4 : decode cX2_sandInAll 4 = .ok (.iload_n 3, 1) := by decide +kernel
theorem dX2_sandInAll_5 : decode cX2_sandInAll 5 = .ok (.iload_n 1, 1) := by decide +kernel
theorem dX2_sandInAll_6 : decode cX2_sandInAll 6 = .ok (.if_icmp .ge 32, 3) := by decide +kernel
theorem dX2_sandInAll_9 : decode cX2_sandInAll 9 = .ok (.iload_n 2, 1) := by decide +kernel
theorem dX2_sandInAll_10 : decode cX2_sandInAll 10 = .ok (.aload_n 0, 1) := by decide +kernel
theorem dX2_sandInAll_11 : decode cX2_sandInAll 11 = .ok (.getfield 9, 3) := by decide +kernel
theorem dX2_sandInAll_14 : decode cX2_sandInAll 14 = .ok (.iload_n 3, 1) := by decide +kernel
theorem dX2_sandInAll_15 : decode cX2_sandInAll 15 = .ok (.iaload, 1) := by decide +kernel
theorem dX2_sandInAll_16 : decode cX2_sandInAll 16 = .ok (.aload_n 0, 1) := by decide +kernel
theorem dX2_sandInAll_17 : decode cX2_sandInAll 17 = .ok (.getfield 15, 3) := by decide +kernel
theorem dX2_sandInAll_20 : decode cX2_sandInAll 20 = .ok (.iload_n 3, 1) := by decide +kernel
theorem dX2_sandInAll_21 : decode cX2_sandInAll 21 = .ok (.iaload, 1) := by decide +kernel
theorem dX2_sandInAll_22 : decode cX2_sandInAll 22 = .ok (.iadd, 1) := by decide +kernel
theorem dX2_sandInAll_23 : decode cX2_sandInAll 23 = .ok (.aload_n 0, 1) := by decide +kernel
theorem dX2_sandInAll_24 : decode cX2_sandInAll 24 = .ok (.getfield 21, 3) := by decide +kernel
theorem dX2_sandInAll_27 : decode cX2_sandInAll 27 = .ok (.iload_n 3, 1) := by decide +kernel
theorem dX2_sandInAll_28 : decode cX2_sandInAll 28 = .ok (.iaload, 1) := by decide +kernel
theorem dX2_sandInAll_29 : decode cX2_sandInAll 29 = .ok (.iadd, 1) := by decide +kernel
theorem dX2_sandInAll_30 : decode cX2_sandInAll 30 = .ok (.iadd, 1) := by decide +kernel
theorem dX2_sandInAll_31 : decode cX2_sandInAll 31 = .ok (.istore_n 2, 1) := by decide +kernel
theorem dX2_sandInAll_32 : decode cX2_sandInAll 32 = .ok (.iinc 3 1, 3) := by decide +kernel
theorem dX2_sandInAll_35 : decode cX2_sandInAll 35 = .ok (.goto (-31), 3) := by decide +kernel
theorem dX2_sandInAll_38 : decode cX2_sandInAll 38 = .ok (.iload_n 2, 1) := by decide +kernel
theorem dX2_sandInAll_39 : decode cX2_sandInAll 39 = .ok (.ireturn, 1) := by decide +kernel
theorem dX2_bringFromBar_0 : decode cX2_bringFromBar 0 = .ok (.iload_n 2, 1) := by decide +kernel
theorem dX2_bringFromBar_1 : decode cX2_bringFromBar 1 = .ok (.aload_n 0, 1) := by decide +kernel
theorem dX2_bringFromBar_2 : decode cX2_bringFromBar 2 = .ok (.getfield 21, 3) := by decide +kernel
theorem dX2_bringFromBar_5 : decode cX2_bringFromBar 5 = .ok (.iload_n 1, 1) := by decide +kernel
theorem dX2_bringFromBar_6 : decode cX2_bringFromBar 6 = .ok (.iaload, 1) := by decide +kernel
theorem dX2_bringFromBar_7 : decode cX2_bringFromBar 7 = .ok (.invokestatic 45, 3) := by decide +kernel
theorem dX2_bringFromBar_10 : decode cX2_bringFromBar 10 = .ok (.istore 4, 2) := by decide +kernel
theorem dX2_bringFromBar_12 : decode cX2_bringFromBar 12 = .ok (.aload_n 0, 1) := by decide +kernel
theorem dX2_bringFromBar_13 : decode cX2_bringFromBar 13 = .ok (.getfield 21, 3) := by decide +kernel
theorem dX2_bringFromBar_16 : decode cX2_bringFromBar 16 = .ok (.iload_n 1, 1) := by decide +kernel
theorem dX2_bringFromBar_17 : decode cX2_bringFromBar 17 = .ok (.dup2, 1) := by decide +kernel
theorem dX2_bringFromBar_18 : decode cX2_bringFromBar 18 = .ok (.iaload, 1) := by decide +kernel
theorem dX2_bringFromBar_19 : decode cX2_bringFromBar 19 = .ok (.iload 4, 2) := by decide +kernel
theorem dX2_bringFromBar_21 : decode cX2_bringFromBar 21 = .ok (.isub, 1) := by decide +kernel
theorem dX2_bringFromBar_22 : decode cX2_bringFromBar 22 = .ok (.iastore, 1) := by decide +kernel
theorem dX2_bringFromBar_23 : decode cX2_bringFromBar 23 = .ok (.aload_n 0, 1) := by decide +kernel
theorem dX2_bringFromBar_24 : decode cX2_bringFromBar 24 = .ok (.getfield 9, 3) := by decide +kernel
theorem dX2_bringFromBar_27 : decode cX2_bringFromBar 27 = .ok (.iload_n 3, 1) := by decide +kernel
theorem dX2_bringFromBar_28 : decode cX2_bringFromBar 28 = .ok (.aload_n 0, 1) := by decide +kernel
theorem dX2_bringFromBar_29 : decode cX2_bringFromBar 29 = .ok (.getfield 9, 3) := by decide +kernel
theorem dX2_bringFromBar_32 : decode cX2_bringFromBar 32 = .ok (.iload_n 3, 1) := by decide +kernel
theorem dX2_bringFromBar_33 : decode cX2_bringFromBar 33 = .ok (.iaload, 1) := by decide +kernel
theorem dX2_bringFromBar_34 : decode cX2_bringFromBar 34 = .ok (.iload 4, 2) := by decide +kernel
theorem dX2_bringFromBar_36 : decode cX2_bringFromBar 36 = .ok (.iadd, 1) := by decide +kernel
theorem dX2_bringFromBar_37 : decode cX2_bringFromBar 37 = .ok (.ldc 51, 2) := by decide +kernel
theorem dX2_bringFromBar_39 : decode cX2_bringFromBar 39 = .ok (.invokestatic 45, 3) := by decide +kernel
theorem dX2_bringFromBar_42 : decode cX2_bringFromBar 42 = .ok (.iastore, 1) := by decide +kernel
theorem dX2_bringFromBar_43 : decode cX2_bringFromBar 43 = .ok (.iload 4, 2) := by decide +kernel
theorem dX2_bringFromBar_45 : decode cX2_bringFromBar 45 = .ok (.ireturn, 1) := by decide +kernel
set_option maxRecDepth 20000 in
theorem ggX2_goThrough_J7_fill_53178 : GoodIn wsX2_goThrough wsJ7_fill_53178 := goodIn_r _ [7] (by decide +kernel) (by decide +kernel)
set_option maxRecDepth 20000 in
theorem gX2_goThrough_J7_fill_53178 : GoodIn wsX2_goThrough (va_wsS RX2 39 yJ7_fill_53178 wsJ7_fill_53178) := goodIn_app (goodIn_of _ (by decide +kernel)) ggX2_goThrough_J7_fill_53178
set_option maxRecDepth 20000 in
theorem ggX2_goThrough_X2_comeInAtEnd : GoodIn wsX2_goThrough wsX2_comeInAtEnd := goodIn_r _ [12, 13, 14, 2, 3, 1, 73, 74, 75, 76, 77, 78, 79, 80, 67, 68, 69, 70, 71, 72] (by decide +kernel) (by decide +kernel)
set_option maxRecDepth 20000 in
theorem gX2_goThrough_X2_comeInAtEnd : GoodIn wsX2_goThrough (wsV RX2 52 RX2 yX2_comeInAtEnd wsX2_comeInAtEnd) := goodIn_app (goodIn_of _ (by decide +kernel)) ggX2_goThrough_X2_comeInAtEnd
set_option maxRecDepth 20000 in
theorem ggX2_goThrough_X2_passAt : GoodIn wsX2_goThrough wsX2_passAt := goodIn_r _ [18, 13, 19, 20, 21, 22, 23, 24, 25, 26, 2, 1, 27, 28, 29, 11, 30, 31, 32, 33, 34, 35, 36, 37, 38, 39, 40, 41, 42, 43, 44, 45, 46, 47, 48, 73, 74, 75, 76, 77, 78, 79, 80, 67, 68, 69, 70, 71, 72] (by decide +kernel) (by decide +kernel)
set_option maxRecDepth 20000 in
theorem gX2_goThrough_X2_passAt : GoodIn wsX2_goThrough (wsV RX2 60 RX2 yX2_passAt wsX2_passAt) := goodIn_app (goodIn_of _ (by decide +kernel)) ggX2_goThrough_X2_passAt
set_option maxRecDepth 20000 in
theorem ggX2_goThrough_X2_goOutAtEnd : GoodIn wsX2_goThrough wsX2_goOutAtEnd := goodIn_r _ [52, 3, 13, 1, 39, 40, 41, 11, 42, 38, 31, 32, 21, 33, 43, 2, 44, 45, 46, 47, 48, 73, 74, 75, 76, 77, 78, 79, 80, 67, 68, 69, 70, 71, 72] (by decide +kernel) (by decide +kernel)
set_option maxRecDepth 20000 in
theorem gX2_goThrough_X2_goOutAtEnd : GoodIn wsX2_goThrough (wsV RX2 64 RX2 yX2_goOutAtEnd wsX2_goOutAtEnd) := goodIn_app (goodIn_of _ (by decide +kernel)) ggX2_goThrough_X2_goOutAtEnd
set_option maxRecDepth 20000 in
theorem ggX2_goThrough_X2_addChanges : GoodIn wsX2_goThrough wsX2_addChanges := goodIn_r _ [56, 3, 38, 2, 57, 31, 32, 21, 33, 73, 74, 75, 76, 77, 78, 79, 80, 67, 68, 69, 70, 71, 72] (by decide +kernel) (by decide +kernel)
set_option maxRecDepth 20000 in
theorem gX2_goThrough_X2_addChanges : GoodIn wsX2_goThrough (wsV RX2 67 RX2 yX2_addChanges wsX2_addChanges) := goodIn_app (goodIn_of _ (by decide +kernel)) ggX2_goThrough_X2_addChanges
set_option maxRecDepth 20000 in
theorem ggX2_goThrough_X2_takeOutToSea : GoodIn wsX2_goThrough wsX2_takeOutToSea := goodIn_r _ [61, 3, 31, 32, 21, 33, 38, 62, 44, 45, 46, 11, 47, 48, 73, 74, 75, 76, 77, 78, 79, 80, 67, 68, 69, 70, 71, 72] (by decide +kernel) (by decide +kernel)
set_option maxRecDepth 20000 in
theorem gX2_goThrough_X2_takeOutToSea : GoodIn wsX2_goThrough (wsV RX2 71 RX2 yX2_takeOutToSea wsX2_takeOutToSea) := goodIn_app (goodIn_of _ (by decide +kernel)) ggX2_goThrough_X2_takeOutToSea
set_option maxRecDepth 20000 in
theorem ggX2_goThrough_X2_bringBackFromSea : GoodIn wsX2_goThrough wsX2_bringBackFromSea := goodIn_r _ [66, 3, 62, 38, 57, 31, 32, 21, 33, 73, 74, 75, 76, 77, 78, 79, 80, 67, 68, 69, 70, 71, 72] (by decide +kernel) (by decide +kernel)
set_option maxRecDepth 20000 in
theorem gX2_goThrough_X2_bringBackFromSea : GoodIn wsX2_goThrough (wsV RX2 75 RX2 yX2_bringBackFromSea wsX2_bringBackFromSea) := goodIn_app (goodIn_of _ (by decide +kernel)) ggX2_goThrough_X2_bringBackFromSea
theorem dX2_goThrough_0 : decode cX2_goThrough 0 = .ok (.aload_n 0, 1) := by decide +kernel
theorem dX2_goThrough_1 : decode cX2_goThrough 1 = .ok (.getfield 24, 3) := by decide +kernel
theorem dX2_goThrough_4 : decode cX2_goThrough 4 = .ok (.iconst 0, 1) := by decide +kernel
theorem dX2_goThrough_5 : decode cX2_goThrough 5 = .ok (.invokestatic 39, 3) := by decide +kernel
theorem dX2_goThrough_8 : decode cX2_goThrough 8 = .ok (.iload_n 3, 1) := by decide +kernel
theorem dX2_goThrough_9 : decode cX2_goThrough 9 = .ok (.iconst 2, 1) := by decide +kernel
theorem dX2_goThrough_10 : decode cX2_goThrough 10 = .ok (.if_icmp .eq 57, 3) := by decide +kernel
theorem dX2_goThrough_13 : decode cX2_goThrough 13 = .ok (.aload_n 0, 1) := by decide +kernel
theorem dX2_goThrough_14 : decode cX2_goThrough 14 = .ok (.getfield 27, 3) := by decide +kernel
theorem dX2_goThrough_17 : decode cX2_goThrough 17 = .ok (.iconst 0, 1) := by decide +kernel
theorem dX2_goThrough_18 : decode cX2_goThrough 18 = .ok (.invokestatic 39, 3) := by decide +kernel
theorem dX2_goThrough_21 : decode cX2_goThrough 21 = .ok (.aload_n 0, 1) := by decide +kernel
theorem dX2_goThrough_22 : decode cX2_goThrough 22 = .ok (.aload_n 1, 1) := by decide +kernel
theorem dX2_goThrough_23 : decode cX2_goThrough 23 = .ok (.iload_n 2, 1) := by decide +kernel
theorem dX2_goThrough_24 : decode cX2_goThrough 24 = .ok (.iload_n 3, 1) := by decide +kernel
theorem dX2_goThrough_25 : decode cX2_goThrough 25 = .ok (.invokevirtual 52, 3) := by decide +kernel
theorem dX2_goThrough_28 : decode cX2_goThrough 28 = .ok (.iconst 1, 1) := by decide +kernel
theorem dX2_goThrough_29 : decode cX2_goThrough 29 = .ok (.istore 4, 2) := by decide +kernel
theorem dX2_goThrough_31 : decode cX2_goThrough 31 = .ok (.iload 4, 2) := by decide +kernel
theorem dX2_goThrough_33 : decode cX2_goThrough 33 = .ok (.aload_n 1, 1) := by decide +kernel
theorem dX2_goThrough_34 : decode cX2_goThrough 34 = .ok (.getfield 56, 3) := by decide +kernel
theorem dX2_goThrough_37 : decode cX2_goThrough 37 = .ok (.if_icmp .ge 18, 3) := by decide +kernel
theorem dX2_goThrough_40 : decode cX2_goThrough 40 = .ok (.aload_n 0, 1) := by decide +kernel
theorem dX2_goThrough_41 : decode cX2_goThrough 41 = .ok (.aload_n 1, 1) := by decide +kernel
theorem dX2_goThrough_42 : decode cX2_goThrough 42 = .ok (.iload 4, 2) := by decide +kernel
theorem dX2_goThrough_44 : decode cX2_goThrough 44 = .ok (.iload_n 2, 1) := by decide +kernel
theorem dX2_goThrough_45 : decode cX2_goThrough 45 = .ok (.iload_n 3, 1) := by decide +kernel
theorem dX2_goThrough_46 : decode cX2_goThrough 46 = .ok (.invokevirtual 60, 3) := by decide +kernel
theorem dX2_goThrough_49 : decode cX2_goThrough 49 = .ok (.iinc 4 1, 3) := by decide +kernel
theorem dX2_goThrough_52 : decode cX2_goThrough 52 = .ok (.goto (-21), 3) := by decide +kernel
theorem dX2_goThrough_55 : decode cX2_goThrough 55 = .ok (.aload_n 0, 1) := by decide +kernel
theorem dX2_goThrough_56 : decode cX2_goThrough 56 = .ok (.aload_n 1, 1) := by decide +kernel
theorem dX2_goThrough_57 : decode cX2_goThrough 57 = .ok (.iload_n 2, 1) := by decide +kernel
theorem dX2_goThrough_58 : decode cX2_goThrough 58 = .ok (.iload_n 3, 1) := by decide +kernel
theorem dX2_goThrough_59 : decode cX2_goThrough 59 = .ok (.invokevirtual 64, 3) := by decide +kernel
theorem dX2_goThrough_62 : decode cX2_goThrough 62 = .ok (.aload_n 0, 1) := by decide +kernel
theorem dX2_goThrough_63 : decode cX2_goThrough 63 = .ok (.aload_n 1, 1) := by decide +kernel
theorem dX2_goThrough_64 : decode cX2_goThrough 64 = .ok (.invokevirtual 67, 3) := by decide +kernel
theorem dX2_goThrough_67 : decode cX2_goThrough 67 = .ok (.iload_n 2, 1) := by decide +kernel
theorem dX2_goThrough_68 : decode cX2_goThrough 68 = .ok (.bipush 7, 2) := by decide +kernel
theorem dX2_goThrough_70 : decode cX2_goThrough 70 = .ok (.if_icmp .lt 14, 3) := by decide +kernel
theorem dX2_goThrough_73 : decode cX2_goThrough 73 = .ok (.aload_n 0, 1) := by decide +kernel
theorem dX2_goThrough_74 : decode cX2_goThrough 74 = .ok (.aload_n 1, 1) := by decide +kernel
theorem dX2_goThrough_75 : decode cX2_goThrough 75 = .ok (.iconst 3, 1) := by decide +kernel
theorem dX2_goThrough_76 : decode cX2_goThrough 76 = .ok (.iload_n 2, 1) := by decide +kernel
theorem dX2_goThrough_77 : decode cX2_goThrough 77 = .ok (.imul, 1) := by decide +kernel
theorem dX2_goThrough_78 : decode cX2_goThrough 78 = .ok (.invokevirtual 71, 3) := by decide +kernel
theorem dX2_goThrough_81 : decode cX2_goThrough 81 = .ok (.goto 13, 3) := by decide +kernel
theorem dX2_goThrough_84 : decode cX2_goThrough 84 = .ok (.iload_n 2, 1) := by decide +kernel
theorem dX2_goThrough_85 : decode cX2_goThrough 85 = .ok (.iconst 2, 1) := by decide +kernel
theorem dX2_goThrough_86 : decode cX2_goThrough 86 = .ok (.if_icmp .gt 8, 3) := by decide +kernel
theorem dX2_goThrough_89 : decode cX2_goThrough 89 = .ok (.aload_n 0, 1) := by decide +kernel
theorem dX2_goThrough_90 : decode cX2_goThrough 90 = .ok (.aload_n 1, 1) := by decide +kernel
theorem dX2_goThrough_91 : decode cX2_goThrough 91 = .ok (.invokevirtual 75, 3) := by decide +kernel
theorem dX2_goThrough_94 : decode cX2_goThrough 94 = .ok (.return_, 1) := by decide +kernel
theorem dX2_comeInAtEnd_0 : decode cX2_comeInAtEnd 0 = .ok (.iload_n 3, 1) := by decide +kernel
theorem dX2_comeInAtEnd_1 : decode cX2_comeInAtEnd 1 = .ok (.ifCond .ne 7, 3) := by decide +kernel
theorem dX2_comeInAtEnd_4 : decode cX2_comeInAtEnd 4 = .ok (.iconst 1, 1) := by decide +kernel
theorem dX2_comeInAtEnd_5 : decode cX2_comeInAtEnd 5 = .ok (.goto 4, 3) := by decide +kernel
theorem dX2_comeInAtEnd_8 : decode cX2_comeInAtEnd 8 = .ok (.iconst 0, 1) := by decide +kernel
theorem dX2_comeInAtEnd_9 : decode cX2_comeInAtEnd 9 = .ok (.istore 4, 2) := by decide +kernel
theorem dX2_comeInAtEnd_11 : decode cX2_comeInAtEnd 11 = .ok (.aload_n 1, 1) := by decide +kernel
theorem dX2_comeInAtEnd_12 : decode cX2_comeInAtEnd 12 = .ok (.getfield 78, 3) := by decide +kernel
theorem dX2_comeInAtEnd_15 : decode cX2_comeInAtEnd 15 = .ok (.iload_n 2, 1) := by decide +kernel
theorem dX2_comeInAtEnd_16 : decode cX2_comeInAtEnd 16 = .ok (.imul, 1) := by decide +kernel
theorem dX2_comeInAtEnd_17 : decode cX2_comeInAtEnd 17 = .ok (.aload_n 1, 1) := by decide +kernel
theorem dX2_comeInAtEnd_18 : decode cX2_comeInAtEnd 18 = .ok (.getfield 81, 3) := by decide +kernel
theorem dX2_comeInAtEnd_21 : decode cX2_comeInAtEnd 21 = .ok (.iload 4, 2) := by decide +kernel
theorem dX2_comeInAtEnd_23 : decode cX2_comeInAtEnd 23 = .ok (.ifCond .eq 7, 3) := by decide +kernel
theorem dX2_comeInAtEnd_26 : decode cX2_comeInAtEnd 26 = .ok (.iconst 0, 1) := by decide +kernel
theorem dX2_comeInAtEnd_27 : decode cX2_comeInAtEnd 27 = .ok (.goto 4, 3) := by decide +kernel
theorem dX2_comeInAtEnd_30 : decode cX2_comeInAtEnd 30 = .ok (.iconst 1, 1) := by decide +kernel
theorem dX2_comeInAtEnd_31 : decode cX2_comeInAtEnd 31 = .ok (.iaload, 1) := by decide +kernel
theorem dX2_comeInAtEnd_32 : decode cX2_comeInAtEnd 32 = .ok (.imul, 1) := by decide +kernel
theorem dX2_comeInAtEnd_33 : decode cX2_comeInAtEnd 33 = .ok (.bipush 100, 2) := by decide +kernel
theorem dX2_comeInAtEnd_35 : decode cX2_comeInAtEnd 35 = .ok (.idiv, 1) := by decide +kernel
theorem dX2_comeInAtEnd_36 : decode cX2_comeInAtEnd 36 = .ok (.istore 5, 2) := by decide +kernel
theorem dX2_comeInAtEnd_38 : decode cX2_comeInAtEnd 38 = .ok (.aload_n 0, 1) := by decide +kernel
theorem dX2_comeInAtEnd_39 : decode cX2_comeInAtEnd 39 = .ok (.getfield 27, 3) := by decide +kernel
theorem dX2_comeInAtEnd_42 : decode cX2_comeInAtEnd 42 = .ok (.iload 4, 2) := by decide +kernel
theorem dX2_comeInAtEnd_44 : decode cX2_comeInAtEnd 44 = .ok (.ifCond .eq 7, 3) := by decide +kernel
theorem dX2_comeInAtEnd_47 : decode cX2_comeInAtEnd 47 = .ok (.iconst 0, 1) := by decide +kernel
theorem dX2_comeInAtEnd_48 : decode cX2_comeInAtEnd 48 = .ok (.goto 9, 3) := by decide +kernel
theorem dX2_comeInAtEnd_51 : decode cX2_comeInAtEnd 51 = .ok (.aload_n 1, 1) := by decide +kernel
theorem dX2_comeInAtEnd_52 : decode cX2_comeInAtEnd 52 = .ok (.getfield 56, 3) := by decide +kernel
theorem dX2_comeInAtEnd_55 : decode cX2_comeInAtEnd 55 = .ok (.iconst 1, 1) := by decide +kernel
theorem dX2_comeInAtEnd_56 : decode cX2_comeInAtEnd 56 = .ok (.isub, 1) := by decide +kernel
theorem dX2_comeInAtEnd_57 : decode cX2_comeInAtEnd 57 = .ok (.dup2, 1) := by decide +kernel
theorem dX2_comeInAtEnd_58 : decode cX2_comeInAtEnd 58 = .ok (.iaload, 1) := by decide +kernel
theorem dX2_comeInAtEnd_59 : decode cX2_comeInAtEnd 59 = .ok (.iload 5, 2) := by decide +kernel
theorem dX2_comeInAtEnd_61 : decode cX2_comeInAtEnd 61 = .ok (.iadd, 1) := by decide +kernel
theorem dX2_comeInAtEnd_62 : decode cX2_comeInAtEnd 62 = .ok (.iastore, 1) := by decide +kernel
theorem dX2_comeInAtEnd_63 : decode cX2_comeInAtEnd 63 = .ok (.aload_n 0, 1) := by decide +kernel
theorem dX2_comeInAtEnd_64 : decode cX2_comeInAtEnd 64 = .ok (.getfield 24, 3) := by decide +kernel
theorem dX2_comeInAtEnd_67 : decode cX2_comeInAtEnd 67 = .ok (.iload 4, 2) := by decide +kernel
theorem dX2_comeInAtEnd_69 : decode cX2_comeInAtEnd 69 = .ok (.ifCond .eq 7, 3) := by decide +kernel
theorem dX2_comeInAtEnd_72 : decode cX2_comeInAtEnd 72 = .ok (.iconst 0, 1) := by decide +kernel
theorem dX2_comeInAtEnd_73 : decode cX2_comeInAtEnd 73 = .ok (.goto 7, 3) := by decide +kernel
theorem dX2_comeInAtEnd_76 : decode cX2_comeInAtEnd 76 = .ok (.aload_n 1, 1) := by decide +kernel
theorem dX2_comeInAtEnd_77 : decode cX2_comeInAtEnd 77 = .ok (.getfield 56, 3) := by decide +kernel
theorem dX2_comeInAtEnd_80 : decode cX2_comeInAtEnd 80 = .ok (.iload 4, 2) := by decide +kernel
theorem dX2_comeInAtEnd_82 : decode cX2_comeInAtEnd 82 = .ok (.ifCond .eq 8, 3) := by decide +kernel
theorem dX2_comeInAtEnd_85 : decode cX2_comeInAtEnd 85 = .ok (.iload 5, 2) := by decide +kernel
theorem dX2_comeInAtEnd_87 : decode cX2_comeInAtEnd 87 = .ok (.goto 6, 3) := by decide +kernel
theorem dX2_comeInAtEnd_90 : decode cX2_comeInAtEnd 90 = .ok (.iload 5, 2) := by decide +kernel
theorem dX2_comeInAtEnd_92 : decode cX2_comeInAtEnd 92 = .ok (.ineg, 1) := by decide +kernel
theorem dX2_comeInAtEnd_93 : decode cX2_comeInAtEnd 93 = .ok (.iastore, 1) := by decide +kernel
theorem dX2_comeInAtEnd_94 : decode cX2_comeInAtEnd 94 = .ok (.return_, 1) := by decide +kernel
set_option maxRecDepth 20000 in
theorem ggX2_goOutAtEnd_X2_takeFrom : GoodIn wsX2_goOutAtEnd wsX2_takeFrom := goodIn_r _ [8, 9, 10, 11, 12, 13, 14, 15, 16, 17, 18, 7, 19, 20, 29, 30, 31, 32, 33, 34, 21, 22, 23, 24, 25, 26, 27, 28] (by decide +kernel) (by decide +kernel)
set_option maxRecDepth 20000 in
theorem gX2_goOutAtEnd_X2_takeFrom : GoodIn wsX2_goOutAtEnd (wsV RX2 84 RX2 yX2_takeFrom wsX2_takeFrom) := goodIn_app (goodIn_of _ (by decide +kernel)) ggX2_goOutAtEnd_X2_takeFrom
theorem dX2_goOutAtEnd_0 : decode cX2_goOutAtEnd 0 = .ok (.iload_n 3, 1) := by decide +kernel
theorem dX2_goOutAtEnd_1 : decode cX2_goOutAtEnd 1 = .ok (.ifCond .ne 7, 3) := by decide +kernel
theorem dX2_goOutAtEnd_4 : decode cX2_goOutAtEnd 4 = .ok (.iconst 1, 1) := by decide +kernel
theorem dX2_goOutAtEnd_5 : decode cX2_goOutAtEnd 5 = .ok (.goto 4, 3) := by decide +kernel
theorem dX2_goOutAtEnd_8 : decode cX2_goOutAtEnd 8 = .ok (.iconst 0, 1) := by decide +kernel
theorem dX2_goOutAtEnd_9 : decode cX2_goOutAtEnd 9 = .ok (.istore 4, 2) := by decide +kernel
theorem dX2_goOutAtEnd_11 : decode cX2_goOutAtEnd 11 = .ok (.aload_n 0, 1) := by decide +kernel
theorem dX2_goOutAtEnd_12 : decode cX2_goOutAtEnd 12 = .ok (.aload_n 1, 1) := by decide +kernel
theorem dX2_goOutAtEnd_13 : decode cX2_goOutAtEnd 13 = .ok (.iload 4, 2) := by decide +kernel
theorem dX2_goOutAtEnd_15 : decode cX2_goOutAtEnd 15 = .ok (.ifCond .eq 12, 3) := by decide +kernel
theorem dX2_goOutAtEnd_18 : decode cX2_goOutAtEnd 18 = .ok (.aload_n 1, 1) := by decide +kernel
theorem dX2_goOutAtEnd_19 : decode cX2_goOutAtEnd 19 = .ok (.getfield 56, 3) := by decide +kernel
theorem dX2_goOutAtEnd_22 : decode cX2_goOutAtEnd 22 = .ok (.iconst 1, 1) := by decide +kernel
theorem dX2_goOutAtEnd_23 : decode cX2_goOutAtEnd 23 = .ok (.isub, 1) := by decide +kernel
theorem dX2_goOutAtEnd_24 : decode cX2_goOutAtEnd 24 = .ok (.goto 4, 3) := by decide +kernel
theorem dX2_goOutAtEnd_27 : decode cX2_goOutAtEnd 27 = .ok (.iconst 0, 1) := by decide +kernel
theorem dX2_goOutAtEnd_28 : decode cX2_goOutAtEnd 28 = .ok (.aload_n 1, 1) := by decide +kernel
theorem dX2_goOutAtEnd_29 : decode cX2_goOutAtEnd 29 = .ok (.getfield 78, 3) := by decide +kernel
theorem dX2_goOutAtEnd_32 : decode cX2_goOutAtEnd 32 = .ok (.iload_n 2, 1) := by decide +kernel
theorem dX2_goOutAtEnd_33 : decode cX2_goOutAtEnd 33 = .ok (.imul, 1) := by decide +kernel
theorem dX2_goOutAtEnd_34 : decode cX2_goOutAtEnd 34 = .ok (.invokevirtual 84, 3) := by decide +kernel
theorem dX2_goOutAtEnd_37 : decode cX2_goOutAtEnd 37 = .ok (.istore 5, 2) := by decide +kernel
theorem dX2_goOutAtEnd_39 : decode cX2_goOutAtEnd 39 = .ok (.aload_n 0, 1) := by decide +kernel
theorem dX2_goOutAtEnd_40 : decode cX2_goOutAtEnd 40 = .ok (.getfield 24, 3) := by decide +kernel
theorem dX2_goOutAtEnd_43 : decode cX2_goOutAtEnd 43 = .ok (.iload 4, 2) := by decide +kernel
theorem dX2_goOutAtEnd_45 : decode cX2_goOutAtEnd 45 = .ok (.ifCond .eq 10, 3) := by decide +kernel
theorem dX2_goOutAtEnd_48 : decode cX2_goOutAtEnd 48 = .ok (.aload_n 1, 1) := by decide +kernel
theorem dX2_goOutAtEnd_49 : decode cX2_goOutAtEnd 49 = .ok (.getfield 56, 3) := by decide +kernel
theorem dX2_goOutAtEnd_52 : decode cX2_goOutAtEnd 52 = .ok (.goto 4, 3) := by decide +kernel
theorem dX2_goOutAtEnd_55 : decode cX2_goOutAtEnd 55 = .ok (.iconst 0, 1) := by decide +kernel
theorem dX2_goOutAtEnd_56 : decode cX2_goOutAtEnd 56 = .ok (.iload 4, 2) := by decide +kernel
theorem dX2_goOutAtEnd_58 : decode cX2_goOutAtEnd 58 = .ok (.ifCond .eq 8, 3) := by decide +kernel
theorem dX2_goOutAtEnd_61 : decode cX2_goOutAtEnd 61 = .ok (.iload 5, 2) := by decide +kernel
theorem dX2_goOutAtEnd_63 : decode cX2_goOutAtEnd 63 = .ok (.goto 6, 3) := by decide +kernel
theorem dX2_goOutAtEnd_66 : decode cX2_goOutAtEnd 66 = .ok (.iload 5, 2) := by decide +kernel
theorem dX2_goOutAtEnd_68 : decode cX2_goOutAtEnd 68 = .ok (.ineg, 1) := by decide +kernel
theorem dX2_goOutAtEnd_69 : decode cX2_goOutAtEnd 69 = .ok (.iastore, 1) := by decide +kernel
theorem dX2_goOutAtEnd_70 : decode cX2_goOutAtEnd 70 = .ok (.return_, 1) := by decide +kernel
set_option maxRecDepth 20000 in
theorem ggX2_passAt_X2_slope : GoodIn wsX2_passAt wsX2_slope := goodIn_r _ [16, 17, 18, 4, 19, 2, 3, 5, 20, 21, 22, 15, 23, 24, 43, 44, 45, 46, 47, 48] (by decide +kernel) (by decide +kernel)
set_option maxRecDepth 20000 in
theorem gX2_passAt_X2_slope : GoodIn wsX2_passAt (wsV RX2 88 RX2 yX2_slope wsX2_slope) := goodIn_app (goodIn_of _ (by decide +kernel)) ggX2_passAt_X2_slope
set_option maxRecDepth 20000 in
theorem ggX2_passAt_X2_lineOf : GoodIn wsX2_passAt wsX2_lineOf := goodIn_r _ [23, 24, 43, 44, 45, 46, 47, 48] (by decide +kernel) (by decide +kernel)
set_option maxRecDepth 20000 in
theorem gX2_passAt_X2_lineOf : GoodIn wsX2_passAt (wsV RX2 97 RX2 yX2_lineOf wsX2_lineOf) := goodIn_app (goodIn_of _ (by decide +kernel)) ggX2_passAt_X2_lineOf
set_option maxRecDepth 20000 in
theorem ggX2_passAt_X2_takeFrom : GoodIn wsX2_passAt wsX2_takeFrom := goodIn_r _ [28, 24, 17, 18, 4, 19, 29, 10, 30, 31, 32, 15, 33, 34, 43, 44, 45, 46, 47, 48, 35, 36, 37, 38, 39, 40, 41, 42] (by decide +kernel) (by decide +kernel)
set_option maxRecDepth 20000 in
theorem gX2_passAt_X2_takeFrom : GoodIn wsX2_passAt (wsV RX2 84 RX2 yX2_takeFrom wsX2_takeFrom) := goodIn_app (goodIn_of _ (by decide +kernel)) ggX2_passAt_X2_takeFrom
theorem dX2_passAt_0 : decode cX2_passAt 0 = .ok (.iload 4, 2) := by decide +kernel
theorem dX2_passAt_2 : decode cX2_passAt 2 = .ok (.ifCond .ne 7, 3) := by decide +kernel
theorem dX2_passAt_5 : decode cX2_passAt 5 = .ok (.iconst 1, 1) := by decide +kernel
theorem dX2_passAt_6 : decode cX2_passAt 6 = .ok (.goto 4, 3) := by decide +kernel
theorem dX2_passAt_9 : decode cX2_passAt 9 = .ok (.iconst 0, 1) := by decide +kernel
theorem dX2_passAt_10 : decode cX2_passAt 10 = .ok (.istore 5, 2) := by decide +kernel
theorem dX2_passAt_12 : decode cX2_passAt 12 = .ok (.iload 5, 2) := by decide +kernel
theorem dX2_passAt_14 : decode cX2_passAt 14 = .ok (.ifCond .eq 9, 3) := by decide +kernel
theorem dX2_passAt_17 : decode cX2_passAt 17 = .ok (.iload_n 2, 1) := by decide +kernel
theorem dX2_passAt_18 : decode cX2_passAt 18 = .ok (.iconst 1, 1) := by decide +kernel
theorem dX2_passAt_19 : decode cX2_passAt 19 = .ok (.isub, 1) := by decide +kernel
theorem dX2_passAt_20 : decode cX2_passAt 20 = .ok (.goto 4, 3) := by decide +kernel
theorem dX2_passAt_23 : decode cX2_passAt 23 = .ok (.iload_n 2, 1) := by decide +kernel
theorem dX2_passAt_24 : decode cX2_passAt 24 = .ok (.istore 6, 2) := by decide +kernel
theorem dX2_passAt_26 : decode cX2_passAt 26 = .ok (.iload 5, 2) := by decide +kernel
theorem dX2_passAt_28 : decode cX2_passAt 28 = .ok (.ifCond .eq 7, 3) := by decide +kernel
theorem dX2_passAt_31 : decode cX2_passAt 31 = .ok (.iload_n 2, 1) := by decide +kernel
theorem dX2_passAt_32 : decode cX2_passAt 32 = .ok (.goto 6, 3) := by decide +kernel
theorem dX2_passAt_35 : decode cX2_passAt 35 = .ok (.iload_n 2, 1) := by decide +kernel
theorem dX2_passAt_36 : decode cX2_passAt 36 = .ok (.iconst 1, 1) := by decide +kernel
theorem dX2_passAt_37 : decode cX2_passAt 37 = .ok (.isub, 1) := by decide +kernel
theorem dX2_passAt_38 : decode cX2_passAt 38 = .ok (.istore 7, 2) := by decide +kernel
theorem dX2_passAt_40 : decode cX2_passAt 40 = .ok (.aload_n 1, 1) := by decide +kernel
theorem dX2_passAt_41 : decode cX2_passAt 41 = .ok (.getfield 78, 3) := by decide +kernel
theorem dX2_passAt_44 : decode cX2_passAt 44 = .ok (.iload_n 3, 1) := by decide +kernel
theorem dX2_passAt_45 : decode cX2_passAt 45 = .ok (.imul, 1) := by decide +kernel
theorem dX2_passAt_46 : decode cX2_passAt 46 = .ok (.iload_n 3, 1) := by decide +kernel
theorem dX2_passAt_47 : decode cX2_passAt 47 = .ok (.aload_n 0, 1) := by decide +kernel
theorem dX2_passAt_48 : decode cX2_passAt 48 = .ok (.iload 6, 2) := by decide +kernel
theorem dX2_passAt_50 : decode cX2_passAt 50 = .ok (.iload 7, 2) := by decide +kernel
theorem dX2_passAt_52 : decode cX2_passAt 52 = .ok (.invokevirtual 88, 3) := by decide +kernel
theorem dX2_passAt_55 : decode cX2_passAt 55 = .ok (.imul, 1) := by decide +kernel
theorem dX2_passAt_56 : decode cX2_passAt 56 = .ok (.iconst 3, 1) := by decide +kernel
theorem dX2_passAt_57 : decode cX2_passAt 57 = .ok (.idiv, 1) := by decide +kernel
theorem dX2_passAt_58 : decode cX2_passAt 58 = .ok (.iadd, 1) := by decide +kernel
theorem dX2_passAt_59 : decode cX2_passAt 59 = .ok (.istore 8, 2) := by decide +kernel
theorem dX2_passAt_61 : decode cX2_passAt 61 = .ok (.iload 8, 2) := by decide +kernel
theorem dX2_passAt_63 : decode cX2_passAt 63 = .ok (.iconst 0, 1) := by decide +kernel
theorem dX2_passAt_64 : decode cX2_passAt 64 = .ok (.invokestatic 91, 3) := by decide +kernel
theorem dX2_passAt_67 : decode cX2_passAt 67 = .ok (.istore 8, 2) := by decide +kernel
theorem dX2_passAt_69 : decode cX2_passAt 69 = .ok (.aload_n 1, 1) := by decide +kernel
theorem dX2_passAt_70 : decode cX2_passAt 70 = .ok (.getfield 94, 3) := by decide +kernel
theorem dX2_passAt_73 : decode cX2_passAt 73 = .ok (.iload_n 2, 1) := by decide +kernel
theorem dX2_passAt_74 : decode cX2_passAt 74 = .ok (.iaload, 1) := by decide +kernel
theorem dX2_passAt_75 : decode cX2_passAt 75 = .ok (.iconst 1, 1) := by decide +kernel
theorem dX2_passAt_76 : decode cX2_passAt 76 = .ok (.if_icmp .ne 32, 3) := by decide +kernel
theorem dX2_passAt_79 : decode cX2_passAt 79 = .ok (.aload_n 0, 1) := by decide +kernel
theorem dX2_passAt_80 : decode cX2_passAt 80 = .ok (.iload 6, 2) := by decide +kernel
theorem dX2_passAt_82 : decode cX2_passAt 82 = .ok (.invokevirtual 97, 3) := by decide +kernel
theorem dX2_passAt_85 : decode cX2_passAt 85 = .ok (.aload_n 1, 1) := by decide +kernel
theorem dX2_passAt_86 : decode cX2_passAt 86 = .ok (.getfield 101, 3) := by decide +kernel
theorem dX2_passAt_89 : decode cX2_passAt 89 = .ok (.iload_n 2, 1) := by decide +kernel
theorem dX2_passAt_90 : decode cX2_passAt 90 = .ok (.iaload, 1) := by decide +kernel
theorem dX2_passAt_91 : decode cX2_passAt 91 = .ok (.if_icmp .ge 17, 3) := by decide +kernel
theorem dX2_passAt_94 : decode cX2_passAt 94 = .ok (.iload 8, 2) := by decide +kernel
theorem dX2_passAt_96 : decode cX2_passAt 96 = .ok (.aload_n 1, 1) := by decide +kernel
theorem dX2_passAt_97 : decode cX2_passAt 97 = .ok (.getfield 104, 3) := by decide +kernel
theorem dX2_passAt_100 : decode cX2_passAt 100 = .ok (.iload_n 2, 1) := by decide +kernel
theorem dX2_passAt_101 : decode cX2_passAt 101 = .ok (.iaload, 1) := by decide +kernel
theorem dX2_passAt_102 : decode cX2_passAt 102 = .ok (.imul, 1) := by decide +kernel
theorem dX2_passAt_103 : decode cX2_passAt 103 = .ok (.bipush 100, 2) := by decide +kernel
theorem dX2_passAt_105 : decode cX2_passAt 105 = .ok (.idiv, 1) := by decide +kernel
theorem dX2_passAt_106 : decode cX2_passAt 106 = .ok (.istore 8, 2) := by decide +kernel
theorem dX2_passAt_108 : decode cX2_passAt 108 = .ok (.aload_n 0, 1) := by decide +kernel
theorem dX2_passAt_109 : decode cX2_passAt 109 = .ok (.aload_n 1, 1) := by decide +kernel
theorem dX2_passAt_110 : decode cX2_passAt 110 = .ok (.iload 6, 2) := by decide +kernel
theorem dX2_passAt_112 : decode cX2_passAt 112 = .ok (.iload 8, 2) := by decide +kernel
theorem dX2_passAt_114 : decode cX2_passAt 114 = .ok (.invokevirtual 84, 3) := by decide +kernel
theorem dX2_passAt_117 : decode cX2_passAt 117 = .ok (.istore 9, 2) := by decide +kernel
theorem dX2_passAt_119 : decode cX2_passAt 119 = .ok (.aload_n 1, 1) := by decide +kernel
theorem dX2_passAt_120 : decode cX2_passAt 120 = .ok (.getfield 94, 3) := by decide +kernel
theorem dX2_passAt_123 : decode cX2_passAt 123 = .ok (.iload_n 2, 1) := by decide +kernel
theorem dX2_passAt_124 : decode cX2_passAt 124 = .ok (.iaload, 1) := by decide +kernel
theorem dX2_passAt_125 : decode cX2_passAt 125 = .ok (.iconst 2, 1) := by decide +kernel
theorem dX2_passAt_126 : decode cX2_passAt 126 = .ok (.if_icmp .ne 18, 3) := by decide +kernel
theorem dX2_passAt_129 : decode cX2_passAt 129 = .ok (.iload 9, 2) := by decide +kernel
theorem dX2_passAt_131 : decode cX2_passAt 131 = .ok (.aload_n 1, 1) := by decide +kernel
theorem dX2_passAt_132 : decode cX2_passAt 132 = .ok (.getfield 101, 3) := by decide +kernel
theorem dX2_passAt_135 : decode cX2_passAt 135 = .ok (.iload_n 2, 1) := by decide +kernel
theorem dX2_passAt_136 : decode cX2_passAt 136 = .ok (.iaload, 1) := by decide +kernel
theorem dX2_passAt_137 : decode cX2_passAt 137 = .ok (.imul, 1) := by decide +kernel
theorem dX2_passAt_138 : decode cX2_passAt 138 = .ok (.bipush 100, 2) := by decide +kernel
theorem dX2_passAt_140 : decode cX2_passAt 140 = .ok (.idiv, 1) := by decide +kernel
theorem dX2_passAt_141 : decode cX2_passAt 141 = .ok (.goto 4, 3) := by decide +kernel
theorem dX2_passAt_144 : decode cX2_passAt 144 = .ok (.iconst 0, 1) := by decide +kernel
theorem dX2_passAt_145 : decode cX2_passAt 145 = .ok (.istore 10, 2) := by decide +kernel
theorem dX2_passAt_147 : decode cX2_passAt 147 = .ok (.aload_n 0, 1) := by decide +kernel
theorem dX2_passAt_148 : decode cX2_passAt 148 = .ok (.getfield 21, 3) := by decide +kernel
theorem dX2_passAt_151 : decode cX2_passAt 151 = .ok (.iload_n 2, 1) := by decide +kernel
theorem dX2_passAt_152 : decode cX2_passAt 152 = .ok (.dup2, 1) := by decide +kernel
theorem dX2_passAt_153 : decode cX2_passAt 153 = .ok (.iaload, 1) := by decide +kernel
theorem dX2_passAt_154 : decode cX2_passAt 154 = .ok (.iload 10, 2) := by decide +kernel
theorem dX2_passAt_156 : decode cX2_passAt 156 = .ok (.iadd, 1) := by decide +kernel
theorem dX2_passAt_157 : decode cX2_passAt 157 = .ok (.iastore, 1) := by decide +kernel
theorem dX2_passAt_158 : decode cX2_passAt 158 = .ok (.aload_n 0, 1) := by decide +kernel
theorem dX2_passAt_159 : decode cX2_passAt 159 = .ok (.getfield 27, 3) := by decide +kernel
theorem dX2_passAt_162 : decode cX2_passAt 162 = .ok (.iload 7, 2) := by decide +kernel
theorem dX2_passAt_164 : decode cX2_passAt 164 = .ok (.dup2, 1) := by decide +kernel
theorem dX2_passAt_165 : decode cX2_passAt 165 = .ok (.iaload, 1) := by decide +kernel
theorem dX2_passAt_166 : decode cX2_passAt 166 = .ok (.iload 9, 2) := by decide +kernel
theorem dX2_passAt_168 : decode cX2_passAt 168 = .ok (.iload 10, 2) := by decide +kernel
theorem dX2_passAt_170 : decode cX2_passAt 170 = .ok (.isub, 1) := by decide +kernel
theorem dX2_passAt_171 : decode cX2_passAt 171 = .ok (.iadd, 1) := by decide +kernel
theorem dX2_passAt_172 : decode cX2_passAt 172 = .ok (.iastore, 1) := by decide +kernel
theorem dX2_passAt_173 : decode cX2_passAt 173 = .ok (.aload_n 0, 1) := by decide +kernel
theorem dX2_passAt_174 : decode cX2_passAt 174 = .ok (.getfield 24, 3) := by decide +kernel
theorem dX2_passAt_177 : decode cX2_passAt 177 = .ok (.iload_n 2, 1) := by decide +kernel
theorem dX2_passAt_178 : decode cX2_passAt 178 = .ok (.iload 5, 2) := by decide +kernel
theorem dX2_passAt_180 : decode cX2_passAt 180 = .ok (.ifCond .eq 8, 3) := by decide +kernel
theorem dX2_passAt_183 : decode cX2_passAt 183 = .ok (.iload 9, 2) := by decide +kernel
theorem dX2_passAt_185 : decode cX2_passAt 185 = .ok (.goto 6, 3) := by decide +kernel
theorem dX2_passAt_188 : decode cX2_passAt 188 = .ok (.iload 9, 2) := by decide +kernel
theorem dX2_passAt_190 : decode cX2_passAt 190 = .ok (.ineg, 1) := by decide +kernel
theorem dX2_passAt_191 : decode cX2_passAt 191 = .ok (.iastore, 1) := by decide +kernel
theorem dX2_passAt_192 : decode cX2_passAt 192 = .ok (.return_, 1) := by decide +kernel
set_option maxRecDepth 20000 in
theorem ggX2_slope_X2_lineOf : GoodIn wsX2_slope wsX2_lineOf := goodIn_r _ [12, 13, 14, 15, 16, 17, 18, 19] (by decide +kernel) (by decide +kernel)
set_option maxRecDepth 20000 in
theorem gX2_slope_X2_lineOf : GoodIn wsX2_slope (wsV RX2 97 RX2 yX2_lineOf wsX2_lineOf) := goodIn_app (goodIn_of _ (by decide +kernel)) ggX2_slope_X2_lineOf
theorem dX2_slope_0 : decode cX2_slope 0 = .ok (.aload_n 0, 1) := by decide +kernel
theorem dX2_slope_1 : decode cX2_slope 1 = .ok (.iload_n 1, 1) := by decide +kernel
theorem dX2_slope_2 : decode cX2_slope 2 = .ok (.invokevirtual 97, 3) := by decide +kernel
theorem dX2_slope_5 : decode cX2_slope 5 = .ok (.aload_n 0, 1) := by decide +kernel
theorem dX2_slope_6 : decode cX2_slope 6 = .ok (.iload_n 2, 1) := by decide +kernel
theorem dX2_slope_7 : decode cX2_slope 7 = .ok (.invokevirtual 97, 3) := by decide +kernel
theorem dX2_slope_10 : decode cX2_slope 10 = .ok (.isub, 1) := by decide +kernel
theorem dX2_slope_11 : decode cX2_slope 11 = .ok (.istore_n 3, 1) := by decide +kernel
theorem dX2_slope_12 : decode cX2_slope 12 = .ok (.bipush (-9), 2) := by decide +kernel
theorem dX2_slope_14 : decode cX2_slope 14 = .ok (.iload_n 3, 1) := by decide +kernel
theorem dX2_slope_15 : decode cX2_slope 15 = .ok (.bipush 9, 2) := by decide +kernel
theorem dX2_slope_17 : decode cX2_slope 17 = .ok (.invokestatic 45, 3) := by decide +kernel
theorem dX2_slope_20 : decode cX2_slope 20 = .ok (.invokestatic 91, 3) := by decide +kernel
theorem dX2_slope_23 : decode cX2_slope 23 = .ok (.ireturn, 1) := by decide +kernel
set_option maxRecDepth 20000 in
theorem ggX2_takeFrom_X2_freeSandOf : GoodIn wsX2_takeFrom wsX2_freeSandOf := goodIn_r _ [12, 1, 13, 14, 15, 16, 17, 18, 19, 20, 21, 22, 23, 24, 25, 26, 27] (by decide +kernel) (by decide +kernel)
set_option maxRecDepth 20000 in
theorem gX2_takeFrom_X2_freeSandOf : GoodIn wsX2_takeFrom (wsV RX2 107 RX2 yX2_freeSandOf wsX2_freeSandOf) := goodIn_app (goodIn_of _ (by decide +kernel)) ggX2_takeFrom_X2_freeSandOf
theorem dX2_takeFrom_0 : decode cX2_takeFrom 0 = .ok (.iload_n 3, 1) := by decide +kernel
theorem dX2_takeFrom_1 : decode cX2_takeFrom 1 = .ok (.aload_n 0, 1) := by decide +kernel
theorem dX2_takeFrom_2 : decode cX2_takeFrom 2 = .ok (.getfield 9, 3) := by decide +kernel
theorem dX2_takeFrom_5 : decode cX2_takeFrom 5 = .ok (.iload_n 2, 1) := by decide +kernel
theorem dX2_takeFrom_6 : decode cX2_takeFrom 6 = .ok (.iaload, 1) := by decide +kernel
theorem dX2_takeFrom_7 : decode cX2_takeFrom 7 = .ok (.invokestatic 45, 3) := by decide +kernel
theorem dX2_takeFrom_10 : decode cX2_takeFrom 10 = .ok (.istore 4, 2) := by decide +kernel
theorem dX2_takeFrom_12 : decode cX2_takeFrom 12 = .ok (.iload 4, 2) := by decide +kernel
theorem dX2_takeFrom_14 : decode cX2_takeFrom 14 = .ok (.aload_n 0, 1) := by decide +kernel
theorem dX2_takeFrom_15 : decode cX2_takeFrom 15 = .ok (.aload_n 1, 1) := by decide +kernel
theorem dX2_takeFrom_16 : decode cX2_takeFrom 16 = .ok (.iload_n 2, 1) := by decide +kernel
theorem dX2_takeFrom_17 : decode cX2_takeFrom 17 = .ok (.invokevirtual 107, 3) := by decide +kernel
theorem dX2_takeFrom_20 : decode cX2_takeFrom 20 = .ok (.invokestatic 45, 3) := by decide +kernel
theorem dX2_takeFrom_23 : decode cX2_takeFrom 23 = .ok (.istore 5, 2) := by decide +kernel
theorem dX2_takeFrom_25 : decode cX2_takeFrom 25 = .ok (.aload_n 0, 1) := by decide +kernel
theorem dX2_takeFrom_26 : decode cX2_takeFrom 26 = .ok (.getfield 18, 3) := by decide +kernel
theorem dX2_takeFrom_29 : decode cX2_takeFrom 29 = .ok (.iload_n 2, 1) := by decide +kernel
theorem dX2_takeFrom_30 : decode cX2_takeFrom 30 = .ok (.dup2, 1) := by decide +kernel
theorem dX2_takeFrom_31 : decode cX2_takeFrom 31 = .ok (.iaload, 1) := by decide +kernel
theorem dX2_takeFrom_32 : decode cX2_takeFrom 32 = .ok (.iload 4, 2) := by decide +kernel
theorem dX2_takeFrom_34 : decode cX2_takeFrom 34 = .ok (.iload 5, 2) := by decide +kernel
theorem dX2_takeFrom_36 : decode cX2_takeFrom 36 = .ok (.isub, 1) := by decide +kernel
theorem dX2_takeFrom_37 : decode cX2_takeFrom 37 = .ok (.iadd, 1) := by decide +kernel
theorem dX2_takeFrom_38 : decode cX2_takeFrom 38 = .ok (.iastore, 1) := by decide +kernel
theorem dX2_takeFrom_39 : decode cX2_takeFrom 39 = .ok (.aload_n 0, 1) := by decide +kernel
theorem dX2_takeFrom_40 : decode cX2_takeFrom 40 = .ok (.getfield 27, 3) := by decide +kernel
theorem dX2_takeFrom_43 : decode cX2_takeFrom 43 = .ok (.iload_n 2, 1) := by decide +kernel
theorem dX2_takeFrom_44 : decode cX2_takeFrom 44 = .ok (.dup2, 1) := by decide +kernel
theorem dX2_takeFrom_45 : decode cX2_takeFrom 45 = .ok (.iaload, 1) := by decide +kernel
theorem dX2_takeFrom_46 : decode cX2_takeFrom 46 = .ok (.iload 5, 2) := by decide +kernel
theorem dX2_takeFrom_48 : decode cX2_takeFrom 48 = .ok (.isub, 1) := by decide +kernel
theorem dX2_takeFrom_49 : decode cX2_takeFrom 49 = .ok (.iastore, 1) := by decide +kernel
theorem dX2_takeFrom_50 : decode cX2_takeFrom 50 = .ok (.iload 5, 2) := by decide +kernel
theorem dX2_takeFrom_52 : decode cX2_takeFrom 52 = .ok (.ireturn, 1) := by decide +kernel
theorem dX2_freeSandOf_0 : decode cX2_freeSandOf 0 = .ok (.aload_n 0, 1) := by decide +kernel
theorem dX2_freeSandOf_1 : decode cX2_freeSandOf 1 = .ok (.getfield 9, 3) := by decide +kernel
theorem dX2_freeSandOf_4 : decode cX2_freeSandOf 4 = .ok (.iload_n 2, 1) := by decide +kernel
theorem dX2_freeSandOf_5 : decode cX2_freeSandOf 5 = .ok (.iaload, 1) := by decide +kernel
theorem dX2_freeSandOf_6 : decode cX2_freeSandOf 6 = .ok (.bipush 10, 2) := by decide +kernel
theorem dX2_freeSandOf_8 : decode cX2_freeSandOf 8 = .ok (.aload_n 1, 1) := by decide +kernel
theorem dX2_freeSandOf_9 : decode cX2_freeSandOf 9 = .ok (.getfield 111, 3) := by decide +kernel
theorem dX2_freeSandOf_12 : decode cX2_freeSandOf 12 = .ok (.iload_n 2, 1) := by decide +kernel
theorem dX2_freeSandOf_13 : decode cX2_freeSandOf 13 = .ok (.iaload, 1) := by decide +kernel
theorem dX2_freeSandOf_14 : decode cX2_freeSandOf 14 = .ok (.imul, 1) := by decide +kernel
theorem dX2_freeSandOf_15 : decode cX2_freeSandOf 15 = .ok (.isub, 1) := by decide +kernel
theorem dX2_freeSandOf_16 : decode cX2_freeSandOf 16 = .ok (.istore_n 3, 1) := by decide +kernel
theorem dX2_freeSandOf_17 : decode cX2_freeSandOf 17 = .ok (.iload_n 3, 1) := by decide +kernel
theorem dX2_freeSandOf_18 : decode cX2_freeSandOf 18 = .ok (.ifCond .le 7, 3) := by decide +kernel
theorem dX2_freeSandOf_21 : decode cX2_freeSandOf 21 = .ok (.iload_n 3, 1) := by decide +kernel
theorem dX2_freeSandOf_22 : decode cX2_freeSandOf 22 = .ok (.goto 4, 3) := by decide +kernel
theorem dX2_freeSandOf_25 : decode cX2_freeSandOf 25 = .ok (.iconst 0, 1) := by decide +kernel
theorem dX2_freeSandOf_26 : decode cX2_freeSandOf 26 = .ok (.ireturn, 1) := by decide +kernel
theorem dX2_addChanges_0 : decode cX2_addChanges 0 = .ok (.iconst 0, 1) := by decide +kernel
theorem dX2_addChanges_1 : decode cX2_addChanges 1 = .ok (.istore_n 2, 1) := by decide +kernel
theorem dX2_addChanges_2 : decode cX2_addChanges 2 = .ok (.iload_n 2, 1) := by decide +kernel
theorem dX2_addChanges_3 : decode cX2_addChanges 3 = .ok (.aload_n 1, 1) := by decide +kernel
theorem dX2_addChanges_4 : decode cX2_addChanges 4 = .ok (.getfield 56, 3) := by decide +kernel
theorem dX2_addChanges_7 : decode cX2_addChanges 7 = .ok (.if_icmp .ge 33, 3) := by decide +kernel
theorem dX2_addChanges_10 : decode cX2_addChanges 10 = .ok (.aload_n 0, 1) := by decide +kernel
theorem dX2_addChanges_11 : decode cX2_addChanges 11 = .ok (.getfield 9, 3) := by decide +kernel
theorem dX2_addChanges_14 : decode cX2_addChanges 14 = .ok (.iload_n 2, 1) := by decide +kernel
theorem dX2_addChanges_15 : decode cX2_addChanges 15 = .ok (.aload_n 0, 1) := by decide +kernel
theorem dX2_addChanges_16 : decode cX2_addChanges 16 = .ok (.getfield 9, 3) := by decide +kernel
theorem dX2_addChanges_19 : decode cX2_addChanges 19 = .ok (.iload_n 2, 1) := by decide +kernel
theorem dX2_addChanges_20 : decode cX2_addChanges 20 = .ok (.iaload, 1) := by decide +kernel
theorem dX2_addChanges_21 : decode cX2_addChanges 21 = .ok (.aload_n 0, 1) := by decide +kernel
theorem dX2_addChanges_22 : decode cX2_addChanges 22 = .ok (.getfield 27, 3) := by decide +kernel
theorem dX2_addChanges_25 : decode cX2_addChanges 25 = .ok (.iload_n 2, 1) := by decide +kernel
theorem dX2_addChanges_26 : decode cX2_addChanges 26 = .ok (.iaload, 1) := by decide +kernel
theorem dX2_addChanges_27 : decode cX2_addChanges 27 = .ok (.iadd, 1) := by decide +kernel
theorem dX2_addChanges_28 : decode cX2_addChanges 28 = .ok (.ldc 51, 2) := by decide +kernel
theorem dX2_addChanges_30 : decode cX2_addChanges 30 = .ok (.invokestatic 45, 3) := by decide +kernel
theorem dX2_addChanges_33 : decode cX2_addChanges 33 = .ok (.iastore, 1) := by decide +kernel
theorem dX2_addChanges_34 : decode cX2_addChanges 34 = .ok (.iinc 2 1, 3) := by decide +kernel
theorem dX2_addChanges_37 : decode cX2_addChanges 37 = .ok (.goto (-35), 3) := by decide +kernel
theorem dX2_addChanges_40 : decode cX2_addChanges 40 = .ok (.return_, 1) := by decide +kernel
set_option maxRecDepth 20000 in
theorem ggX2_takeOutToSea_X2_freeSandOf : GoodIn wsX2_takeOutToSea wsX2_freeSandOf := goodIn_r _ [12, 6, 13, 22, 23, 24, 25, 26, 27, 14, 15, 16, 17, 18, 19, 20, 21] (by decide +kernel) (by decide +kernel)
set_option maxRecDepth 20000 in
theorem gX2_takeOutToSea_X2_freeSandOf : GoodIn wsX2_takeOutToSea (wsV RX2 107 RX2 yX2_freeSandOf wsX2_freeSandOf) := goodIn_app (goodIn_of _ (by decide +kernel)) ggX2_takeOutToSea_X2_freeSandOf
theorem dX2_takeOutToSea_0 : decode cX2_takeOutToSea 0 = .ok (.iconst 0, 1) := by decide +kernel
theorem dX2_takeOutToSea_1 : decode cX2_takeOutToSea 1 = .ok (.istore_n 3, 1) := by decide +kernel
theorem dX2_takeOutToSea_2 : decode cX2_takeOutToSea 2 = .ok (.iload_n 3, 1) := by decide +kernel
theorem dX2_takeOutToSea_3 : decode cX2_takeOutToSea 3 = .ok (.aload_n 1, 1) := by decide +kernel
theorem dX2_takeOutToSea_4 : decode cX2_takeOutToSea 4 = .ok (.getfield 56, 3) := by decide +kernel
theorem dX2_takeOutToSea_7 : decode cX2_takeOutToSea 7 = .ok (.if_icmp .ge 43, 3) := by decide +kernel
theorem dX2_takeOutToSea_10 : decode cX2_takeOutToSea 10 = .ok (.iload_n 2, 1) := by decide +kernel
theorem dX2_takeOutToSea_11 : decode cX2_takeOutToSea 11 = .ok (.aload_n 0, 1) := by decide +kernel
theorem dX2_takeOutToSea_12 : decode cX2_takeOutToSea 12 = .ok (.aload_n 1, 1) := by decide +kernel
theorem dX2_takeOutToSea_13 : decode cX2_takeOutToSea 13 = .ok (.iload_n 3, 1) := by decide +kernel
theorem dX2_takeOutToSea_14 : decode cX2_takeOutToSea 14 = .ok (.invokevirtual 107, 3) := by decide +kernel
theorem dX2_takeOutToSea_17 : decode cX2_takeOutToSea 17 = .ok (.invokestatic 45, 3) := by decide +kernel
theorem dX2_takeOutToSea_20 : decode cX2_takeOutToSea 20 = .ok (.istore 4, 2) := by decide +kernel
theorem dX2_takeOutToSea_22 : decode cX2_takeOutToSea 22 = .ok (.aload_n 0, 1) := by decide +kernel
theorem dX2_takeOutToSea_23 : decode cX2_takeOutToSea 23 = .ok (.getfield 9, 3) := by decide +kernel
theorem dX2_takeOutToSea_26 : decode cX2_takeOutToSea 26 = .ok (.iload_n 3, 1) := by decide +kernel
theorem dX2_takeOutToSea_27 : decode cX2_takeOutToSea 27 = .ok (.dup2, 1) := by decide +kernel
theorem dX2_takeOutToSea_28 : decode cX2_takeOutToSea 28 = .ok (.iaload, 1) := by decide +kernel
theorem dX2_takeOutToSea_29 : decode cX2_takeOutToSea 29 = .ok (.iload 4, 2) := by decide +kernel
theorem dX2_takeOutToSea_31 : decode cX2_takeOutToSea 31 = .ok (.isub, 1) := by decide +kernel
theorem dX2_takeOutToSea_32 : decode cX2_takeOutToSea 32 = .ok (.iastore, 1) := by decide +kernel
theorem dX2_takeOutToSea_33 : decode cX2_takeOutToSea 33 = .ok (.aload_n 0, 1) := by decide +kernel
theorem dX2_takeOutToSea_34 : decode cX2_takeOutToSea 34 = .ok (.getfield 15, 3) := by decide +kernel
theorem dX2_takeOutToSea_37 : decode cX2_takeOutToSea 37 = .ok (.iload_n 3, 1) := by decide +kernel
theorem dX2_takeOutToSea_38 : decode cX2_takeOutToSea 38 = .ok (.dup2, 1) := by decide +kernel
theorem dX2_takeOutToSea_39 : decode cX2_takeOutToSea 39 = .ok (.iaload, 1) := by decide +kernel
theorem dX2_takeOutToSea_40 : decode cX2_takeOutToSea 40 = .ok (.iload 4, 2) := by decide +kernel
theorem dX2_takeOutToSea_42 : decode cX2_takeOutToSea 42 = .ok (.iadd, 1) := by decide +kernel
theorem dX2_takeOutToSea_43 : decode cX2_takeOutToSea 43 = .ok (.iastore, 1) := by decide +kernel
theorem dX2_takeOutToSea_44 : decode cX2_takeOutToSea 44 = .ok (.iinc 3 1, 3) := by decide +kernel
theorem dX2_takeOutToSea_47 : decode cX2_takeOutToSea 47 = .ok (.goto (-45), 3) := by decide +kernel
theorem dX2_takeOutToSea_50 : decode cX2_takeOutToSea 50 = .ok (.return_, 1) := by decide +kernel
theorem dX2_bringBackFromSea_0 : decode cX2_bringBackFromSea 0 = .ok (.iconst 0, 1) := by decide +kernel
theorem dX2_bringBackFromSea_1 : decode cX2_bringBackFromSea 1 = .ok (.istore_n 2, 1) := by decide +kernel
theorem dX2_bringBackFromSea_2 : decode cX2_bringBackFromSea 2 = .ok (.iload_n 2, 1) := by decide +kernel
theorem dX2_bringBackFromSea_3 : decode cX2_bringBackFromSea 3 = .ok (.aload_n 1, 1) := by decide +kernel
theorem dX2_bringBackFromSea_4 : decode cX2_bringBackFromSea 4 = .ok (.getfield 56, 3) := by decide +kernel
theorem dX2_bringBackFromSea_7 : decode cX2_bringBackFromSea 7 = .ok (.if_icmp .ge 49, 3) := by decide +kernel
theorem dX2_bringBackFromSea_10 : decode cX2_bringBackFromSea 10 = .ok (.aload_n 0, 1) := by decide +kernel
theorem dX2_bringBackFromSea_11 : decode cX2_bringBackFromSea 11 = .ok (.getfield 15, 3) := by decide +kernel
theorem dX2_bringBackFromSea_14 : decode cX2_bringBackFromSea 14 = .ok (.iload_n 2, 1) := by decide +kernel
theorem dX2_bringBackFromSea_15 : decode cX2_bringBackFromSea 15 = .ok (.iaload, 1) := by decide +kernel
theorem dX2_bringBackFromSea_16 : decode cX2_bringBackFromSea 16 = .ok (.iconst 3, 1) := by decide +kernel
theorem dX2_bringBackFromSea_17 : decode cX2_bringBackFromSea 17 = .ok (.iadd, 1) := by decide +kernel
theorem dX2_bringBackFromSea_18 : decode cX2_bringBackFromSea 18 = .ok (.iconst 4, 1) := by decide +kernel
theorem dX2_bringBackFromSea_19 : decode cX2_bringBackFromSea 19 = .ok (.idiv, 1) := by decide +kernel
theorem dX2_bringBackFromSea_20 : decode cX2_bringBackFromSea 20 = .ok (.istore_n 3, 1) := by decide +kernel
theorem dX2_bringBackFromSea_21 : decode cX2_bringBackFromSea 21 = .ok (.aload_n 0, 1) := by decide +kernel
theorem dX2_bringBackFromSea_22 : decode cX2_bringBackFromSea 22 = .ok (.getfield 15, 3) := by decide +kernel
theorem dX2_bringBackFromSea_25 : decode cX2_bringBackFromSea 25 = .ok (.iload_n 2, 1) := by decide +kernel
theorem dX2_bringBackFromSea_26 : decode cX2_bringBackFromSea 26 = .ok (.dup2, 1) := by decide +kernel
theorem dX2_bringBackFromSea_27 : decode cX2_bringBackFromSea 27 = .ok (.iaload, 1) := by decide +kernel
theorem dX2_bringBackFromSea_28 : decode cX2_bringBackFromSea 28 = .ok (.iload_n 3, 1) := by decide +kernel
theorem dX2_bringBackFromSea_29 : decode cX2_bringBackFromSea 29 = .ok (.isub, 1) := by decide +kernel
theorem dX2_bringBackFromSea_30 : decode cX2_bringBackFromSea 30 = .ok (.iastore, 1) := by decide +kernel
theorem dX2_bringBackFromSea_31 : decode cX2_bringBackFromSea 31 = .ok (.aload_n 0, 1) := by decide +kernel
theorem dX2_bringBackFromSea_32 : decode cX2_bringBackFromSea 32 = .ok (.getfield 9, 3) := by decide +kernel
theorem dX2_bringBackFromSea_35 : decode cX2_bringBackFromSea 35 = .ok (.iload_n 2, 1) := by decide +kernel
theorem dX2_bringBackFromSea_36 : decode cX2_bringBackFromSea 36 = .ok (.aload_n 0, 1) := by decide +kernel
theorem dX2_bringBackFromSea_37 : decode cX2_bringBackFromSea 37 = .ok (.getfield 9, 3) := by decide +kernel
theorem dX2_bringBackFromSea_40 : decode cX2_bringBackFromSea 40 = .ok (.iload_n 2, 1) := by decide +kernel
theorem dX2_bringBackFromSea_41 : decode cX2_bringBackFromSea 41 = .ok (.iaload, 1) := by decide +kernel
theorem dX2_bringBackFromSea_42 : decode cX2_bringBackFromSea 42 = .ok (.iload_n 3, 1) := by decide +kernel
theorem dX2_bringBackFromSea_43 : decode cX2_bringBackFromSea 43 = .ok (.iadd, 1) := by decide +kernel
theorem dX2_bringBackFromSea_44 : decode cX2_bringBackFromSea 44 = .ok (.ldc 51, 2) := by decide +kernel
theorem dX2_bringBackFromSea_46 : decode cX2_bringBackFromSea 46 = .ok (.invokestatic 45, 3) := by decide +kernel
theorem dX2_bringBackFromSea_49 : decode cX2_bringBackFromSea 49 = .ok (.iastore, 1) := by decide +kernel
theorem dX2_bringBackFromSea_50 : decode cX2_bringBackFromSea 50 = .ok (.iinc 2 1, 3) := by decide +kernel
theorem dX2_bringBackFromSea_53 : decode cX2_bringBackFromSea 53 = .ok (.goto (-51), 3) := by decide +kernel
theorem dX2_bringBackFromSea_56 : decode cX2_bringBackFromSea 56 = .ok (.return_, 1) := by decide +kernel
theorem dX3_init_0 : decode cX3_init 0 = .ok (.aload_n 0, 1) := by decide +kernel
theorem dX3_init_1 : decode cX3_init 1 = .ok (.invokespecial 3, 3) := by decide +kernel
theorem dX3_init_4 : decode cX3_init 4 = .ok (.aload_n 0, 1) := by decide +kernel
theorem dX3_init_5 : decode cX3_init 5 = .ok (.iconst 0, 1) := by decide +kernel
theorem dX3_init_6 : decode cX3_init 6 = .ok (.putfield 9, 3) := by decide +kernel
theorem dX3_init_9 : decode cX3_init 9 = .ok (.aload_n 0, 1) := by decide +kernel
theorem dX3_init_10 : decode cX3_init 10 = .ok (.bipush 20, 2) := by decide +kernel
theorem dX3_init_12 : decode cX3_init 12 = .ok (.newarray .int, 2) := by decide +kernel
theorem dX3_init_14 : decode cX3_init 14 = .ok (.putfield 15, 3) := by decide +kernel
theorem dX3_init_17 : decode cX3_init 17 = .ok (.aload_n 0, 1) := by decide +kernel
theorem dX3_init_18 : decode cX3_init 18 = .ok (.bipush 20, 2) := by decide +kernel
theorem dX3_init_20 : decode cX3_init 20 = .ok (.newarray .int, 2) := by decide +kernel
theorem dX3_init_22 : decode cX3_init 22 = .ok (.putfield 19, 3) := by decide +kernel
theorem dX3_init_25 : decode cX3_init 25 = .ok (.aload_n 0, 1) := by decide +kernel
theorem dX3_init_26 : decode cX3_init 26 = .ok (.bipush 20, 2) := by decide +kernel
theorem dX3_init_28 : decode cX3_init 28 = .ok (.newarray .int, 2) := by decide +kernel
theorem dX3_init_30 : decode cX3_init 30 = .ok (.putfield 22, 3) := by decide +kernel
theorem dX3_init_33 : decode cX3_init 33 = .ok (.aload_n 0, 1) := by decide +kernel
theorem dX3_init_34 : decode cX3_init 34 = .ok (.bipush 20, 2) := by decide +kernel
theorem dX3_init_36 : decode cX3_init 36 = .ok (.newarray .int, 2) := by decide +kernel
theorem dX3_init_38 : decode cX3_init 38 = .ok (.putfield 25, 3) := by decide +kernel
theorem dX3_init_41 : decode cX3_init 41 = .ok (.return_, 1) := by decide +kernel
theorem dX3_add_0 : decode cX3_add 0 = .ok (.aload_n 0, 1) := by decide +kernel
theorem dX3_add_1 : decode cX3_add 1 = .ok (.getfield 9, 3) := by decide +kernel
theorem dX3_add_4 : decode cX3_add 4 = .ok (.bipush 20, 2) := by decide +kernel
theorem dX3_add_6 : decode cX3_add 6 = .ok (.if_icmp .ge 54, 3) := by decide +kernel
theorem dX3_add_9 : decode cX3_add 9 = .ok (.aload_n 0, 1) := by decide +kernel
theorem dX3_add_10 : decode cX3_add 10 = .ok (.getfield 15, 3) := by decide +kernel
theorem dX3_add_13 : decode cX3_add 13 = .ok (.aload_n 0, 1) := by decide +kernel
theorem dX3_add_14 : decode cX3_add 14 = .ok (.getfield 9, 3) := by decide +kernel
theorem dX3_add_17 : decode cX3_add 17 = .ok (.iload_n 1, 1) := by decide +kernel
theorem dX3_add_18 : decode cX3_add 18 = .ok (.iastore, 1) := by decide +kernel
theorem dX3_add_19 : decode cX3_add 19 = .ok (.aload_n 0, 1) := by decide +kernel
theorem dX3_add_20 : decode cX3_add 20 = .ok (.getfield 19, 3) := by decide +kernel
theorem dX3_add_23 : decode cX3_add 23 = .ok (.aload_n 0, 1) := by decide +kernel
theorem dX3_add_24 : decode cX3_add 24 = .ok (.getfield 9, 3) := by decide +kernel
theorem dX3_add_27 : decode cX3_add 27 = .ok (.iload_n 2, 1) := by decide +kernel
theorem dX3_add_28 : decode cX3_add 28 = .ok (.iastore, 1) := by decide +kernel
theorem dX3_add_29 : decode cX3_add 29 = .ok (.aload_n 0, 1) := by decide +kernel
theorem dX3_add_30 : decode cX3_add 30 = .ok (.getfield 22, 3) := by decide +kernel
theorem dX3_add_33 : decode cX3_add 33 = .ok (.aload_n 0, 1) := by decide +kernel
theorem dX3_add_34 : decode cX3_add 34 = .ok (.getfield 9, 3) := by decide +kernel
theorem dX3_add_37 : decode cX3_add 37 = .ok (.iload_n 3, 1) := by decide +kernel
theorem dX3_add_38 : decode cX3_add 38 = .ok (.iastore, 1) := by decide +kernel
theorem dX3_add_39 : decode cX3_add 39 = .ok (.aload_n 0, 1) := by decide +kernel
theorem dX3_add_40 : decode cX3_add 40 = .ok (.getfield 25, 3) := by decide +kernel
theorem dX3_add_43 : decode cX3_add 43 = .ok (.aload_n 0, 1) := by decide +kernel
theorem dX3_add_44 : decode cX3_add 44 = .ok (.getfield 9, 3) := by decide +kernel
theorem dX3_add_47 : decode cX3_add 47 = .ok (.iload 4, 2) := by decide +kernel
theorem dX3_add_49 : decode cX3_add 49 = .ok (.iastore, 1) := by decide +kernel
theorem dX3_add_50 : decode cX3_add 50 = .ok (.aload_n 0, 1) := by decide +kernel
theorem dX3_add_51 : decode cX3_add 51 = .ok (.dup, 1) := by decide +kernel
theorem dX3_add_52 : decode cX3_add 52 = .ok (.getfield 9, 3) := by decide +kernel
theorem dX3_add_55 : decode cX3_add 55 = .ok (.iconst 1, 1) := by decide +kernel
theorem dX3_add_56 : decode cX3_add 56 = .ok (.iadd, 1) := by decide +kernel
theorem dX3_add_57 : decode cX3_add 57 = .ok (.putfield 9, 3) := by decide +kernel
theorem dX3_add_60 : decode cX3_add 60 = .ok (.return_, 1) := by decide +kernel
set_option maxRecDepth 20000 in
theorem ggX3_agreeBehind_X2_lineOf : GoodIn wsX3_agreeBehind wsX2_lineOf := goodIn_r _ [10, 11, 17, 18, 19, 20, 21, 22] (by decide +kernel) (by decide +kernel)
set_option maxRecDepth 20000 in
theorem gX3_agreeBehind_X2_lineOf : GoodIn wsX3_agreeBehind (wsV RX3 28 RX2 yX2_lineOf wsX2_lineOf) := goodIn_app (goodIn_of _ (by decide +kernel)) ggX3_agreeBehind_X2_lineOf
theorem dX3_agreeBehind_0 : decode cX3_agreeBehind 0 = .ok (.iconst 0, 1) := by decide +kernel
theorem dX3_agreeBehind_1 : decode cX3_agreeBehind 1 = .ok (.istore_n 3, 1) := by decide +kernel
theorem dX3_agreeBehind_2 : decode cX3_agreeBehind 2 = .ok (.iload_n 3, 1) := by decide +kernel
theorem dX3_agreeBehind_3 : decode cX3_agreeBehind 3 = .ok (.aload_n 0, 1) := by decide +kernel
theorem dX3_agreeBehind_4 : decode cX3_agreeBehind 4 = .ok (.getfield 9, 3) := by decide +kernel
theorem dX3_agreeBehind_7 : decode cX3_agreeBehind 7 = .ok (.if_icmp .ge 55, 3) := by decide +kernel
theorem dX3_agreeBehind_10 : decode cX3_agreeBehind 10 = .ok (.aload_n 0, 1) := by decide +kernel
theorem dX3_agreeBehind_11 : decode cX3_agreeBehind 11 = .ok (.getfield 19, 3) := by decide +kernel
theorem dX3_agreeBehind_14 : decode cX3_agreeBehind 14 = .ok (.iload_n 3, 1) := by decide +kernel
theorem dX3_agreeBehind_15 : decode cX3_agreeBehind 15 = .ok (.iaload, 1) := by decide +kernel
theorem dX3_agreeBehind_16 : decode cX3_agreeBehind 16 = .ok (.iload_n 1, 1) := by decide +kernel
theorem dX3_agreeBehind_17 : decode cX3_agreeBehind 17 = .ok (.if_icmp .ne 39, 3) := by decide +kernel
theorem dX3_agreeBehind_20 : decode cX3_agreeBehind 20 = .ok (.aload_n 2, 1) := by decide +kernel
theorem dX3_agreeBehind_21 : decode cX3_agreeBehind 21 = .ok (.aload_n 0, 1) := by decide +kernel
theorem dX3_agreeBehind_22 : decode cX3_agreeBehind 22 = .ok (.getfield 15, 3) := by decide +kernel
theorem dX3_agreeBehind_25 : decode cX3_agreeBehind 25 = .ok (.iload_n 3, 1) := by decide +kernel
theorem dX3_agreeBehind_26 : decode cX3_agreeBehind 26 = .ok (.iaload, 1) := by decide +kernel
theorem dX3_agreeBehind_27 : decode cX3_agreeBehind 27 = .ok (.invokevirtual 28, 3) := by decide +kernel
theorem dX3_agreeBehind_30 : decode cX3_agreeBehind 30 = .ok (.istore 4, 2) := by decide +kernel
theorem dX3_agreeBehind_32 : decode cX3_agreeBehind 32 = .ok (.iload 4, 2) := by decide +kernel
theorem dX3_agreeBehind_34 : decode cX3_agreeBehind 34 = .ok (.aload_n 0, 1) := by decide +kernel
theorem dX3_agreeBehind_35 : decode cX3_agreeBehind 35 = .ok (.getfield 22, 3) := by decide +kernel
theorem dX3_agreeBehind_38 : decode cX3_agreeBehind 38 = .ok (.iload_n 3, 1) := by decide +kernel
theorem dX3_agreeBehind_39 : decode cX3_agreeBehind 39 = .ok (.iaload, 1) := by decide +kernel
theorem dX3_agreeBehind_40 : decode cX3_agreeBehind 40 = .ok (.if_icmp .lt 14, 3) := by decide +kernel
theorem dX3_agreeBehind_43 : decode cX3_agreeBehind 43 = .ok (.iload 4, 2) := by decide +kernel
theorem dX3_agreeBehind_45 : decode cX3_agreeBehind 45 = .ok (.aload_n 0, 1) := by decide +kernel
theorem dX3_agreeBehind_46 : decode cX3_agreeBehind 46 = .ok (.getfield 25, 3) := by decide +kernel
theorem dX3_agreeBehind_49 : decode cX3_agreeBehind 49 = .ok (.iload_n 3, 1) := by decide +kernel
theorem dX3_agreeBehind_50 : decode cX3_agreeBehind 50 = .ok (.iaload, 1) := by decide +kernel
theorem dX3_agreeBehind_51 : decode cX3_agreeBehind 51 = .ok (.if_icmp .le 5, 3) := by decide +kernel
theorem dX3_agreeBehind_54 : decode cX3_agreeBehind 54 = .ok (.iconst 0, 1) := by decide +kernel
theorem dX3_agreeBehind_55 : decode cX3_agreeBehind 55 = .ok (.ireturn, 1) := by decide +kernel
theorem dX3_agreeBehind_56 : decode cX3_agreeBehind 56 = .ok (.iinc 3 1, 3) := by decide +kernel
theorem dX3_agreeBehind_59 : decode cX3_agreeBehind 59 = .ok (.goto (-57), 3) := by decide +kernel
theorem dX3_agreeBehind_62 : decode cX3_agreeBehind 62 = .ok (.iconst 1, 1) := by decide +kernel
theorem dX3_agreeBehind_63 : decode cX3_agreeBehind 63 = .ok (.ireturn, 1) := by decide +kernel
theorem dX4_init_0 : decode cX4_init 0 = .ok (.aload_n 0, 1) := by decide +kernel
theorem dX4_init_1 : decode cX4_init 1 = .ok (.invokespecial 3, 3) := by decide +kernel
theorem dX4_init_4 : decode cX4_init 4 = .ok (.aload_n 0, 1) := by decide +kernel
theorem dX4_init_5 : decode cX4_init 5 = .ok (.iconst 0, 1) := by decide +kernel
theorem dX4_init_6 : decode cX4_init 6 = .ok (.putfield 9, 3) := by decide +kernel
theorem dX4_init_9 : decode cX4_init 9 = .ok (.aload_n 0, 1) := by decide +kernel
theorem dX4_init_10 : decode cX4_init 10 = .ok (.bipush 120, 2) := by decide +kernel
theorem dX4_init_12 : decode cX4_init 12 = .ok (.newarray .int, 2) := by decide +kernel
theorem dX4_init_14 : decode cX4_init 14 = .ok (.putfield 15, 3) := by decide +kernel
theorem dX4_init_17 : decode cX4_init 17 = .ok (.aload_n 0, 1) := by decide +kernel
theorem dX4_init_18 : decode cX4_init 18 = .ok (.bipush 120, 2) := by decide +kernel
theorem dX4_init_20 : decode cX4_init 20 = .ok (.newarray .int, 2) := by decide +kernel
theorem dX4_init_22 : decode cX4_init 22 = .ok (.putfield 19, 3) := by decide +kernel
theorem dX4_init_25 : decode cX4_init 25 = .ok (.return_, 1) := by decide +kernel
theorem dX4_add_0 : decode cX4_add 0 = .ok (.aload_n 0, 1) := by decide +kernel
theorem dX4_add_1 : decode cX4_add 1 = .ok (.getfield 9, 3) := by decide +kernel
theorem dX4_add_4 : decode cX4_add 4 = .ok (.bipush 120, 2) := by decide +kernel
theorem dX4_add_6 : decode cX4_add 6 = .ok (.if_icmp .ge 33, 3) := by decide +kernel
theorem dX4_add_9 : decode cX4_add 9 = .ok (.aload_n 0, 1) := by decide +kernel
theorem dX4_add_10 : decode cX4_add 10 = .ok (.getfield 15, 3) := by decide +kernel
theorem dX4_add_13 : decode cX4_add 13 = .ok (.aload_n 0, 1) := by decide +kernel
theorem dX4_add_14 : decode cX4_add 14 = .ok (.getfield 9, 3) := by decide +kernel
theorem dX4_add_17 : decode cX4_add 17 = .ok (.iload_n 1, 1) := by decide +kernel
theorem dX4_add_18 : decode cX4_add 18 = .ok (.iastore, 1) := by decide +kernel
theorem dX4_add_19 : decode cX4_add 19 = .ok (.aload_n 0, 1) := by decide +kernel
theorem dX4_add_20 : decode cX4_add 20 = .ok (.getfield 19, 3) := by decide +kernel
theorem dX4_add_23 : decode cX4_add 23 = .ok (.aload_n 0, 1) := by decide +kernel
theorem dX4_add_24 : decode cX4_add 24 = .ok (.getfield 9, 3) := by decide +kernel
theorem dX4_add_27 : decode cX4_add 27 = .ok (.iload_n 2, 1) := by decide +kernel
theorem dX4_add_28 : decode cX4_add 28 = .ok (.iastore, 1) := by decide +kernel
theorem dX4_add_29 : decode cX4_add 29 = .ok (.aload_n 0, 1) := by decide +kernel
theorem dX4_add_30 : decode cX4_add 30 = .ok (.dup, 1) := by decide +kernel
theorem dX4_add_31 : decode cX4_add 31 = .ok (.getfield 9, 3) := by decide +kernel
theorem dX4_add_34 : decode cX4_add 34 = .ok (.iconst 1, 1) := by decide +kernel
theorem dX4_add_35 : decode cX4_add 35 = .ok (.iadd, 1) := by decide +kernel
theorem dX4_add_36 : decode cX4_add 36 = .ok (.putfield 9, 3) := by decide +kernel
theorem dX4_add_39 : decode cX4_add 39 = .ok (.return_, 1) := by decide +kernel
theorem dX5_init_0 : decode cX5_init 0 = .ok (.aload_n 0, 1) := by decide +kernel
theorem dX5_init_1 : decode cX5_init 1 = .ok (.invokespecial 3, 3) := by decide +kernel
theorem dX5_init_4 : decode cX5_init 4 = .ok (.aload_n 0, 1) := by decide +kernel
theorem dX5_init_5 : decode cX5_init 5 = .ok (.iconst 0, 1) := by decide +kernel
theorem dX5_init_6 : decode cX5_init 6 = .ok (.putfield 9, 3) := by decide +kernel
theorem dX5_init_9 : decode cX5_init 9 = .ok (.aload_n 0, 1) := by decide +kernel
theorem dX5_init_10 : decode cX5_init 10 = .ok (.bipush 6, 2) := by decide +kernel
theorem dX5_init_12 : decode cX5_init 12 = .ok (.newarray .int, 2) := by decide +kernel
theorem dX5_init_14 : decode cX5_init 14 = .ok (.putfield 15, 3) := by decide +kernel
theorem dX5_init_17 : decode cX5_init 17 = .ok (.aload_n 0, 1) := by decide +kernel
theorem dX5_init_18 : decode cX5_init 18 = .ok (.bipush 6, 2) := by decide +kernel
theorem dX5_init_20 : decode cX5_init 20 = .ok (.newarray .int, 2) := by decide +kernel
theorem dX5_init_22 : decode cX5_init 22 = .ok (.putfield 19, 3) := by decide +kernel
theorem dX5_init_25 : decode cX5_init 25 = .ok (.aload_n 0, 1) := by decide +kernel
theorem dX5_init_26 : decode cX5_init 26 = .ok (.bipush 6, 2) := by decide +kernel
theorem dX5_init_28 : decode cX5_init 28 = .ok (.newarray .int, 2) := by decide +kernel
theorem dX5_init_30 : decode cX5_init 30 = .ok (.putfield 22, 3) := by decide +kernel
theorem dX5_init_33 : decode cX5_init 33 = .ok (.aload_n 0, 1) := by decide +kernel
theorem dX5_init_34 : decode cX5_init 34 = .ok (.bipush 6, 2) := by decide +kernel
theorem dX5_init_36 : decode cX5_init 36 = .ok (.newarray .int, 2) := by decide +kernel
theorem dX5_init_38 : decode cX5_init 38 = .ok (.putfield 25, 3) := by decide +kernel
theorem dX5_init_41 : decode cX5_init 41 = .ok (.return_, 1) := by decide +kernel
theorem dX5_add_0 : decode cX5_add 0 = .ok (.aload_n 0, 1) := by decide +kernel
theorem dX5_add_1 : decode cX5_add 1 = .ok (.getfield 9, 3) := by decide +kernel
theorem dX5_add_4 : decode cX5_add 4 = .ok (.bipush 6, 2) := by decide +kernel
theorem dX5_add_6 : decode cX5_add 6 = .ok (.if_icmp .ge 54, 3) := by decide +kernel
theorem dX5_add_9 : decode cX5_add 9 = .ok (.aload_n 0, 1) := by decide +kernel
theorem dX5_add_10 : decode cX5_add 10 = .ok (.getfield 15, 3) := by decide +kernel
theorem dX5_add_13 : decode cX5_add 13 = .ok (.aload_n 0, 1) := by decide +kernel
theorem dX5_add_14 : decode cX5_add 14 = .ok (.getfield 9, 3) := by decide +kernel
theorem dX5_add_17 : decode cX5_add 17 = .ok (.iload_n 1, 1) := by decide +kernel
theorem dX5_add_18 : decode cX5_add 18 = .ok (.iastore, 1) := by decide +kernel
theorem dX5_add_19 : decode cX5_add 19 = .ok (.aload_n 0, 1) := by decide +kernel
theorem dX5_add_20 : decode cX5_add 20 = .ok (.getfield 19, 3) := by decide +kernel
theorem dX5_add_23 : decode cX5_add 23 = .ok (.aload_n 0, 1) := by decide +kernel
theorem dX5_add_24 : decode cX5_add 24 = .ok (.getfield 9, 3) := by decide +kernel
theorem dX5_add_27 : decode cX5_add 27 = .ok (.iload_n 2, 1) := by decide +kernel
theorem dX5_add_28 : decode cX5_add 28 = .ok (.iastore, 1) := by decide +kernel
theorem dX5_add_29 : decode cX5_add 29 = .ok (.aload_n 0, 1) := by decide +kernel
theorem dX5_add_30 : decode cX5_add 30 = .ok (.getfield 22, 3) := by decide +kernel
theorem dX5_add_33 : decode cX5_add 33 = .ok (.aload_n 0, 1) := by decide +kernel
theorem dX5_add_34 : decode cX5_add 34 = .ok (.getfield 9, 3) := by decide +kernel
theorem dX5_add_37 : decode cX5_add 37 = .ok (.iload_n 3, 1) := by decide +kernel
theorem dX5_add_38 : decode cX5_add 38 = .ok (.iastore, 1) := by decide +kernel
theorem dX5_add_39 : decode cX5_add 39 = .ok (.aload_n 0, 1) := by decide +kernel
theorem dX5_add_40 : decode cX5_add 40 = .ok (.getfield 25, 3) := by decide +kernel
theorem dX5_add_43 : decode cX5_add 43 = .ok (.aload_n 0, 1) := by decide +kernel
theorem dX5_add_44 : decode cX5_add 44 = .ok (.getfield 9, 3) := by decide +kernel
theorem dX5_add_47 : decode cX5_add 47 = .ok (.iload 4, 2) := by decide +kernel
theorem dX5_add_49 : decode cX5_add 49 = .ok (.iastore, 1) := by decide +kernel
theorem dX5_add_50 : decode cX5_add 50 = .ok (.aload_n 0, 1) := by decide +kernel
theorem dX5_add_51 : decode cX5_add 51 = .ok (.dup, 1) := by decide +kernel
theorem dX5_add_52 : decode cX5_add 52 = .ok (.getfield 9, 3) := by decide +kernel
theorem dX5_add_55 : decode cX5_add 55 = .ok (.iconst 1, 1) := by decide +kernel
theorem dX5_add_56 : decode cX5_add 56 = .ok (.iadd, 1) := by decide +kernel
theorem dX5_add_57 : decode cX5_add 57 = .ok (.putfield 9, 3) := by decide +kernel
theorem dX5_add_60 : decode cX5_add 60 = .ok (.return_, 1) := by decide +kernel
theorem dX5_priceOf_0 : decode cX5_priceOf 0 = .ok (.iconst 0, 1) := by decide +kernel
theorem dX5_priceOf_1 : decode cX5_priceOf 1 = .ok (.istore_n 2, 1) := by decide +kernel
theorem dX5_priceOf_2 : decode cX5_priceOf 2 = .ok (.iconst 0, 1) := by decide +kernel
theorem dX5_priceOf_3 : decode cX5_priceOf 3 = .ok (.istore_n 3, 1) := by decide +kernel
theorem dX5_priceOf_4 : decode cX5_priceOf 4 = .ok (.iload_n 3, 1) := by decide +kernel
theorem dX5_priceOf_5 : decode cX5_priceOf 5 = .ok (.aload_n 0, 1) := by decide +kernel
theorem dX5_priceOf_6 : decode cX5_priceOf 6 = .ok (.getfield 9, 3) := by decide +kernel
theorem dX5_priceOf_9 : decode cX5_priceOf 9 = .ok (.if_icmp .ge 26, 3) := by decide +kernel
theorem dX5_priceOf_12 : decode cX5_priceOf 12 = .ok (.iload_n 1, 1) := by decide +kernel
theorem dX5_priceOf_13 : decode cX5_priceOf 13 = .ok (.iconst 1, 1) := by decide +kernel
theorem dX5_priceOf_14 : decode cX5_priceOf 14 = .ok (.iload_n 3, 1) := by decide +kernel
theorem dX5_priceOf_15 : decode cX5_priceOf 15 = .ok (.ishl, 1) := by decide +kernel
theorem dX5_priceOf_16 : decode cX5_priceOf 16 = .ok (.iand, 1) := by decide +kernel
theorem dX5_priceOf_17 : decode cX5_priceOf 17 = .ok (.ifCond .eq 12, 3) := by decide +kernel
theorem dX5_priceOf_20 : decode cX5_priceOf 20 = .ok (.iload_n 2, 1) := by decide +kernel
theorem dX5_priceOf_21 : decode cX5_priceOf 21 = .ok (.aload_n 0, 1) := by decide +kernel
theorem dX5_priceOf_22 : decode cX5_priceOf 22 = .ok (.getfield 25, 3) := by decide +kernel
theorem dX5_priceOf_25 : decode cX5_priceOf 25 = .ok (.iload_n 3, 1) := by decide +kernel
theorem dX5_priceOf_26 : decode cX5_priceOf 26 = .ok (.iaload, 1) := by decide +kernel
theorem dX5_priceOf_27 : decode cX5_priceOf 27 = .ok (.iadd, 1) := by decide +kernel
theorem dX5_priceOf_28 : decode cX5_priceOf 28 = .ok (.istore_n 2, 1) := by decide +kernel
theorem dX5_priceOf_29 : decode cX5_priceOf 29 = .ok (.iinc 3 1, 3) := by decide +kernel
theorem dX5_priceOf_32 : decode cX5_priceOf 32 = .ok (.goto (-28), 3) := by decide +kernel
theorem dX5_priceOf_35 : decode cX5_priceOf 35 = .ok (.iload_n 2, 1) := by decide +kernel
theorem dX5_priceOf_36 : decode cX5_priceOf 36 = .ok (.ireturn, 1) := by decide +kernel
set_option maxRecDepth 20000 in
theorem ggX5_applyTo_X5_applyOne : GoodIn wsX5_applyTo wsX5_applyOne := goodIn_r _ [6, 7, 8, 9, 10, 11, 12, 13, 14, 15, 16, 17, 18, 19, 20, 21, 22, 23, 24, 25, 26, 27, 28, 29, 30, 31, 32, 33, 34, 35, 36, 37, 38, 39, 40] (by decide +kernel) (by decide +kernel)
set_option maxRecDepth 20000 in
theorem gX5_applyTo_X5_applyOne : GoodIn wsX5_applyTo (wsV RX5 28 RX5 yX5_applyOne wsX5_applyOne) := goodIn_app (goodIn_of _ (by decide +kernel)) ggX5_applyTo_X5_applyOne
theorem dX5_applyTo_0 : decode cX5_applyTo 0 = .ok (.iconst 0, 1) := by decide +kernel
theorem dX5_applyTo_1 : decode cX5_applyTo 1 = .ok (.istore_n 3, 1) := by decide +kernel
theorem dX5_applyTo_2 : decode cX5_applyTo 2 = .ok (.iload_n 3, 1) := by decide +kernel
theorem dX5_applyTo_3 : decode cX5_applyTo 3 = .ok (.aload_n 0, 1) := by decide +kernel
theorem dX5_applyTo_4 : decode cX5_applyTo 4 = .ok (.getfield 9, 3) := by decide +kernel
theorem dX5_applyTo_7 : decode cX5_applyTo 7 = .ok (.if_icmp .ge 23, 3) := by decide +kernel
theorem dX5_applyTo_10 : decode cX5_applyTo 10 = .ok (.iload_n 2, 1) := by decide +kernel
theorem dX5_applyTo_11 : decode cX5_applyTo 11 = .ok (.iconst 1, 1) := by decide +kernel
theorem dX5_applyTo_12 : decode cX5_applyTo 12 = .ok (.iload_n 3, 1) := by decide +kernel
theorem dX5_applyTo_13 : decode cX5_applyTo 13 = .ok (.ishl, 1) := by decide +kernel
theorem dX5_applyTo_14 : decode cX5_applyTo 14 = .ok (.iand, 1) := by decide +kernel
theorem dX5_applyTo_15 : decode cX5_applyTo 15 = .ok (.ifCond .eq 9, 3) := by decide +kernel
theorem dX5_applyTo_18 : decode cX5_applyTo 18 = .ok (.aload_n 0, 1) := by decide +kernel
theorem dX5_applyTo_19 : decode cX5_applyTo 19 = .ok (.aload_n 1, 1) := by decide +kernel
theorem dX5_applyTo_20 : decode cX5_applyTo 20 = .ok (.iload_n 3, 1) := by decide +kernel
theorem dX5_applyTo_21 : decode cX5_applyTo 21 = .ok (.invokevirtual 28, 3) := by decide +kernel
theorem dX5_applyTo_24 : decode cX5_applyTo 24 = .ok (.iinc 3 1, 3) := by decide +kernel
theorem dX5_applyTo_27 : decode cX5_applyTo 27 = .ok (.goto (-25), 3) := by decide +kernel
theorem dX5_applyTo_30 : decode cX5_applyTo 30 = .ok (.return_, 1) := by decide +kernel
set_option maxRecDepth 20000 in
theorem ggX5_applyOne_X0_hasAt : GoodIn wsX5_applyOne wsX0_hasAt := goodIn_r _ [15, 16, 17, 18, 19, 14, 20, 21, 27, 28, 29, 30, 31, 32, 33, 34] (by decide +kernel) (by decide +kernel)
set_option maxRecDepth 20000 in
theorem gX5_applyOne_X0_hasAt : GoodIn wsX5_applyOne (wsV RX5 44 RX0 yX0_hasAt wsX0_hasAt) := goodIn_app (goodIn_of _ (by decide +kernel)) ggX5_applyOne_X0_hasAt
theorem dX5_applyOne_0 : decode cX5_applyOne 0 = .ok (.aload_n 0, 1) := by decide +kernel
theorem dX5_applyOne_1 : decode cX5_applyOne 1 = .ok (.getfield 19, 3) := by decide +kernel
theorem dX5_applyOne_4 : decode cX5_applyOne 4 = .ok (.iload_n 2, 1) := by decide +kernel
theorem dX5_applyOne_5 : decode cX5_applyOne 5 = .ok (.iaload, 1) := by decide +kernel
theorem dX5_applyOne_6 : decode cX5_applyOne 6 = .ok (.istore_n 3, 1) := by decide +kernel
theorem dX5_applyOne_7 : decode cX5_applyOne 7 = .ok (.aload_n 0, 1) := by decide +kernel
theorem dX5_applyOne_8 : decode cX5_applyOne 8 = .ok (.getfield 15, 3) := by decide +kernel
theorem dX5_applyOne_11 : decode cX5_applyOne 11 = .ok (.iload_n 2, 1) := by decide +kernel
theorem dX5_applyOne_12 : decode cX5_applyOne 12 = .ok (.iaload, 1) := by decide +kernel
theorem dX5_applyOne_13 : decode cX5_applyOne 13 = .ok (.ifCond .ne 30, 3) := by decide +kernel
theorem dX5_applyOne_16 : decode cX5_applyOne 16 = .ok (.aload_n 1, 1) := by decide +kernel
theorem dX5_applyOne_17 : decode cX5_applyOne 17 = .ok (.getfield 32, 3) := by decide +kernel
theorem dX5_applyOne_20 : decode cX5_applyOne 20 = .ok (.iload_n 3, 1) := by decide +kernel
theorem dX5_applyOne_21 : decode cX5_applyOne 21 = .ok (.aload_n 1, 1) := by decide +kernel
theorem dX5_applyOne_22 : decode cX5_applyOne 22 = .ok (.getfield 32, 3) := by decide +kernel
theorem dX5_applyOne_25 : decode cX5_applyOne 25 = .ok (.iload_n 3, 1) := by decide +kernel
theorem dX5_applyOne_26 : decode cX5_applyOne 26 = .ok (.iaload, 1) := by decide +kernel
theorem dX5_applyOne_27 : decode cX5_applyOne 27 = .ok (.aload_n 0, 1) := by decide +kernel
