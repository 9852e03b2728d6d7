/-! NoSuchElementException's constructor of a String links its super by entry 13 -/
abbrev NSE : String := "java/util/NoSuchElementException"
abbrev RTE : String := "java/lang/RuntimeException"
def s13 : ByteArray := ⟨#[0x2a, 0x2b, 0xb7, 0x00, 0x0d, 0xb1]⟩
theorem s13_0 : decode s13 0 = .ok (.aload_n 0, 1) := by decide +kernel
theorem s13_1 : decode s13 1 = .ok (.aload_n 1, 1) := by decide +kernel
theorem s13_2 : decode s13 2 = .ok (.invokespecial 13, 3) := by decide +kernel
theorem s13_5 : decode s13 5 = .ok (.return_, 1) := by decide +kernel
def thT : List Cond := [.methodLink RX6 139 (Bundle.initS NSE), .instantiable NSE 6, .castable NSE NSE, .selects NSE Bundle.tFill0 Bundle.tFill0, .selects NSE Bundle.tFill Bundle.tFill,
   .lays NSE Bundle.tN "cause" "Ljava/lang/Throwable;", .lays NSE Bundle.tN "stackTrace" Bundle.steD, .lays NSE Bundle.tN "suppressedExceptions" Bundle.listD, .lays NSE Bundle.tN "detailMessage" "Ljava/lang/String;",
   .isRef (.static Bundle.tN "UNASSIGNED_STACK" Bundle.steD), .isRef (.static Bundle.tN "SUPPRESSED_SENTINEL" Bundle.listD),
   .fieldLink Bundle.tN 198 Bundle.tN "backtrace" "Ljava/lang/Object;", .lays Bundle.tN Bundle.tN "backtrace" "Ljava/lang/Object;", .lays NSE Bundle.tN "backtrace" "Ljava/lang/Object;"]
def thA : List Cond := Bundle.throwableAtoms ++ (Bundle.throwableSAtoms ++ (Bundle.passSAtoms NSE RTE 13 s13 ++ (Bundle.chainSAtoms RTE ["java/lang/Exception"] ++ thT)))
def thL : List Cond := thA.filter vx_no
def thG : List Cond := thL.filter goodWord
def wtX6_line : List Cond := .code yX6_line cX6_line 2 (some .int) :: ([.classLink RX6 135 "java/util/NoSuchElementException", .initialized "java/util/NoSuchElementException", .fieldLink RX6 12 "ShoreFields" "begin" "LShoreFields$Begin;", .fieldLink RX6 22 "ShoreFields" "now" "LShoreFields$Shore;", .methodLink RX6 80 yX0_hasField, .instanceMethod yX0_hasField, .selects RX0 yX0_hasField yX0_hasField, .initialized RX0, .code yX0_hasField cX0_hasField 2 (some .boolean), .fieldLink RX0 9 "ShoreFields$Begin" "fieldCount" "I", .methodLink RX6 142 yX2_lineOf, .instanceMethod yX2_lineOf, .selects RX2 yX2_lineOf yX2_lineOf, .initialized RX2, .code yX2_lineOf cX2_lineOf 2 (some .int), .fieldLink RX2 9 "ShoreFields$Shore" "sandOf" "[I"] ++ wsX60 ++ wsX00 ++ wsX20 ++ thG)
def wtX6_share : List Cond := .code yX6_share cX6_share 11 (some .int) :: ((wsX6_share_r1 ++ (wsX6_share_r2 ++ (wsX6_share_r3 ++ (wsX6_share_r4 ++ (wsX6_share_r5 ++ (wsX6_share_r6 ++ wsX6_share_r7)))))) ++ wsX60 ++ wsX00 ++ wsX20 ++ wsX40 ++ wsX10 ++ thG)
set_option maxRecDepth 20000 in
theorem hgX6_line_X0_hasField : GoodIn wtX6_line wsX0_hasField := goodIn_r _ [9, 10, 28, 29, 30, 31, 32, 33, 34, 35] (by decide +kernel) (by decide +kernel)
set_option maxRecDepth 20000 in
theorem hX6_line_X0_hasField : GoodIn wtX6_line (wsV RX6 80 RX0 yX0_hasField wsX0_hasField) := goodIn_app (goodIn_of _ (by decide +kernel)) hgX6_line_X0_hasField
set_option maxRecDepth 20000 in
theorem hgX6_line_X2_lineOf : GoodIn wtX6_line wsX2_lineOf := goodIn_r _ [15, 16, 36, 37, 38, 39, 40, 41] (by decide +kernel) (by decide +kernel)
set_option maxRecDepth 20000 in
theorem hX6_line_X2_lineOf : GoodIn wtX6_line (wsV RX6 142 RX2 yX2_lineOf wsX2_lineOf) := goodIn_app (goodIn_of _ (by decide +kernel)) hgX6_line_X2_lineOf
set_option maxRecDepth 20000 in
theorem hgX6_share_X0_hasField : GoodIn wtX6_share wsX0_hasField := goodIn_r _ [8, 9, 169, 170, 171, 172, 173, 174, 175, 176] (by decide +kernel) (by decide +kernel)
set_option maxRecDepth 20000 in
theorem hX6_share_X0_hasField : GoodIn wtX6_share (wsV RX6 80 RX0 yX0_hasField wsX0_hasField) := goodIn_app (goodIn_of _ (by decide +kernel)) hgX6_share_X0_hasField
set_option maxRecDepth 20000 in
theorem hgX6_share_X0_hasGroynes : GoodIn wtX6_share wsX0_hasGroynes := goodIn_r _ [13, 9, 14, 169, 170, 171, 172, 173, 174, 175, 176] (by decide +kernel) (by decide +kernel)
set_option maxRecDepth 20000 in
theorem hX6_share_X0_hasGroynes : GoodIn wtX6_share (wsV RX6 172 RX0 yX0_hasGroynes wsX0_hasGroynes) := goodIn_app (goodIn_of _ (by decide +kernel)) hgX6_share_X0_hasGroynes
set_option maxRecDepth 20000 in
theorem hgX6_share_J6_bitCount_0f7a4 : GoodIn wtX6_share wsJ6_bitCount_0f7a4 := goodIn_r _ [18, 19, 20, 21] (by decide +kernel) (by decide +kernel)
set_option maxRecDepth 20000 in
theorem hX6_share_J6_bitCount_0f7a4 : GoodIn wtX6_share (va_wsS RX6 179 yJ6_bitCount_0f7a4 wsJ6_bitCount_0f7a4) := goodIn_app (goodIn_of _ (by decide +kernel)) hgX6_share_J6_bitCount_0f7a4
set_option maxRecDepth 20000 in
theorem hgX6_share_X0_hasBorder : GoodIn wtX6_share wsX0_hasBorder := goodIn_r _ [25, 9, 169, 170, 171, 172, 173, 174, 175, 176] (by decide +kernel) (by decide +kernel)
set_option maxRecDepth 20000 in
theorem hX6_share_X0_hasBorder : GoodIn wtX6_share (wsV RX6 153 RX0 yX0_hasBorder wsX0_hasBorder) := goodIn_app (goodIn_of _ (by decide +kernel)) hgX6_share_X0_hasBorder
set_option maxRecDepth 20000 in
theorem hgX6_share_X6_factorial : GoodIn wtX6_share wsX6_factorial := goodIn_r _ [29] (by decide +kernel) (by decide +kernel)
set_option maxRecDepth 20000 in
theorem hX6_share_X6_factorial : GoodIn wtX6_share (va_wsS RX6 188 yX6_factorial wsX6_factorial) := goodIn_app (goodIn_of _ (by decide +kernel)) hgX6_share_X6_factorial
set_option maxRecDepth 20000 in
theorem hgX6_share_X6_lineLeavingAway : GoodIn wtX6_share wsX6_lineLeavingAway := goodIn_r _ [33, 34, 3, 35, 36, 37, 38, 39, 7, 40, 9, 41, 42, 43, 44, 45, 46, 47, 48, 14, 49, 50, 51, 52, 53, 54, 55, 56, 57, 58, 59, 60, 61, 62, 63, 64, 65, 66, 67, 68, 69, 70, 71, 72, 73, 74, 75, 76, 77, 28, 78, 79, 80, 81, 82, 83, 84, 85, 86, 87, 88, 89, 90, 91, 92, 93, 94, 95, 96, 97, 98, 99, 100, 101, 102, 103, 104, 105, 106, 107, 108, 109, 110, 111, 112, 113, 114, 115, 116, 117, 118, 119, 120, 121, 122, 123, 124, 125, 126, 127, 128, 129, 130, 131, 132, 133, 134, 135, 136, 137, 138, 139, 140, 141, 142, 143, 144, 145, 146, 147, 148, 149, 150, 151, 152, 153, 154, 155, 156, 157, 158, 159, 160, 161, 162, 163, 164, 165, 166, 167, 168, 169, 170, 171, 172, 173, 174, 175, 176, 177, 178, 179, 180, 181, 182, 183, 184, 185, 186, 187, 188, 189, 190] (by decide +kernel) (by decide +kernel)
set_option maxRecDepth 20000 in
theorem hX6_share_X6_lineLeavingAway : GoodIn wtX6_share (wsV RX6 175 RX6 yX6_lineLeavingAway wsX6_lineLeavingAway) := goodIn_app (goodIn_of _ (by decide +kernel)) hgX6_share_X6_lineLeavingAway
