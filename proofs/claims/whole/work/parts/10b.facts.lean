/-! FACTS: methods, links, constants, by their places in the tables -/
theorem hinX0 : ∀ w ∈ u_ws RX0 TX0 1, w ∈ gT := by
  intro w hw
  obtain ⟨k, hk, rfl⟩ := List.mem_map.mp hw
  have hk := List.mem_range.mp hk
  match k, hk with
  | 0, _ => exact gT_of 279 (by decide +kernel) rfl
  | n + 1, h => exact absurd h (by omega)
theorem hinX1 : ∀ w ∈ u_ws RX1 TX1 12, w ∈ gT := by
  intro w hw
  obtain ⟨k, hk, rfl⟩ := List.mem_map.mp hw
  have hk := List.mem_range.mp hk
  match k, hk with
  | 0, _ => exact gT_of 202 (by decide +kernel) rfl
  | 1, _ => exact gT_of 204 (by decide +kernel) rfl
  | 2, _ => exact gT_of 206 (by decide +kernel) rfl
  | 3, _ => exact gT_of 208 (by decide +kernel) rfl
  | 4, _ => exact gT_of 210 (by decide +kernel) rfl
  | 5, _ => exact gT_of 212 (by decide +kernel) rfl
  | 6, _ => exact gT_of 214 (by decide +kernel) rfl
  | 7, _ => exact gT_of 216 (by decide +kernel) rfl
  | 8, _ => exact gT_of 218 (by decide +kernel) rfl
  | 9, _ => exact gT_of 220 (by decide +kernel) rfl
  | 10, _ => exact gT_of 222 (by decide +kernel) rfl
  | 11, _ => exact gT_of 224 (by decide +kernel) rfl
  | n + 12, h => exact absurd h (by omega)
theorem hinX2 : ∀ w ∈ u_ws RX2 TX2 5, w ∈ gT := by
  intro w hw
  obtain ⟨k, hk, rfl⟩ := List.mem_map.mp hw
  have hk := List.mem_range.mp hk
  match k, hk with
  | 0, _ => exact gT_of 335 (by decide +kernel) rfl
  | 1, _ => exact gT_of 337 (by decide +kernel) rfl
  | 2, _ => exact gT_of 339 (by decide +kernel) rfl
  | 3, _ => exact gT_of 341 (by decide +kernel) rfl
  | 4, _ => exact gT_of 343 (by decide +kernel) rfl
  | n + 5, h => exact absurd h (by omega)
theorem hinX3 : ∀ w ∈ u_ws RX3 TX3 8, w ∈ gT := by
  intro w hw
  obtain ⟨k, hk, rfl⟩ := List.mem_map.mp hw
  have hk := List.mem_range.mp hk
  match k, hk with
  | 0, _ => exact gT_of 304 (by decide +kernel) rfl
  | 1, _ => exact gT_of 306 (by decide +kernel) rfl
  | 2, _ => exact gT_of 308 (by decide +kernel) rfl
  | 3, _ => exact gT_of 310 (by decide +kernel) rfl
  | 4, _ => exact gT_of 312 (by decide +kernel) rfl
  | 5, _ => exact gT_of 314 (by decide +kernel) rfl
  | 6, _ => exact gT_of 316 (by decide +kernel) rfl
  | 7, _ => exact gT_of 318 (by decide +kernel) rfl
  | n + 8, h => exact absurd h (by omega)
theorem hinX4 : ∀ w ∈ u_ws RX4 TX4 11, w ∈ gT := by
  intro w hw
  obtain ⟨k, hk, rfl⟩ := List.mem_map.mp hw
  have hk := List.mem_range.mp hk
  match k, hk with
  | 0, _ => exact gT_of 100 (by decide +kernel) rfl
  | 1, _ => exact gT_of 102 (by decide +kernel) rfl
  | 2, _ => exact gT_of 104 (by decide +kernel) rfl
  | 3, _ => exact gT_of 106 (by decide +kernel) rfl
  | 4, _ => exact gT_of 108 (by decide +kernel) rfl
  | 5, _ => exact gT_of 110 (by decide +kernel) rfl
  | 6, _ => exact gT_of 112 (by decide +kernel) rfl
  | 7, _ => exact gT_of 114 (by decide +kernel) rfl
  | 8, _ => exact gT_of 116 (by decide +kernel) rfl
  | 9, _ => exact gT_of 118 (by decide +kernel) rfl
  | 10, _ => exact gT_of 120 (by decide +kernel) rfl
  | n + 11, h => exact absurd h (by omega)
theorem hinX5 : ∀ w ∈ u_ws RX5 TX5 12, w ∈ gT := by
  intro w hw
  obtain ⟨k, hk, rfl⟩ := List.mem_map.mp hw
  have hk := List.mem_range.mp hk
  match k, hk with
  | 0, _ => exact gT_of 246 (by decide +kernel) rfl
  | 1, _ => exact gT_of 248 (by decide +kernel) rfl
  | 2, _ => exact gT_of 250 (by decide +kernel) rfl
  | 3, _ => exact gT_of 252 (by decide +kernel) rfl
  | 4, _ => exact gT_of 254 (by decide +kernel) rfl
  | 5, _ => exact gT_of 256 (by decide +kernel) rfl
  | 6, _ => exact gT_of 258 (by decide +kernel) rfl
  | 7, _ => exact gT_of 260 (by decide +kernel) rfl
  | 8, _ => exact gT_of 262 (by decide +kernel) rfl
  | 9, _ => exact gT_of 264 (by decide +kernel) rfl
  | 10, _ => exact gT_of 266 (by decide +kernel) rfl
  | 11, _ => exact gT_of 268 (by decide +kernel) rfl
  | n + 12, h => exact absurd h (by omega)
theorem hinX6 : ∀ w ∈ u_ws RX6 TX6 4, w ∈ gT := by
  intro w hw
  obtain ⟨k, hk, rfl⟩ := List.mem_map.mp hw
  have hk := List.mem_range.mp hk
  match k, hk with
  | 0, _ => exact gT_of 166 (by decide +kernel) rfl
  | 1, _ => exact gT_of 168 (by decide +kernel) rfl
  | 2, _ => exact gT_of 170 (by decide +kernel) rfl
  | 3, _ => exact gT_of 172 (by decide +kernel) rfl
  | n + 4, h => exact absurd h (by omega)
theorem hinX7 : ∀ w ∈ u_ws RX7 TX7 9, w ∈ gT := by
  intro w hw
  obtain ⟨k, hk, rfl⟩ := List.mem_map.mp hw
  have hk := List.mem_range.mp hk
  match k, hk with
  | 0, _ => exact gT_of 134 (by decide +kernel) rfl
  | 1, _ => exact gT_of 136 (by decide +kernel) rfl
  | 2, _ => exact gT_of 138 (by decide +kernel) rfl
  | 3, _ => exact gT_of 140 (by decide +kernel) rfl
  | 4, _ => exact gT_of 142 (by decide +kernel) rfl
  | 5, _ => exact gT_of 144 (by decide +kernel) rfl
  | 6, _ => exact gT_of 146 (by decide +kernel) rfl
  | 7, _ => exact gT_of 148 (by decide +kernel) rfl
  | 8, _ => exact gT_of 150 (by decide +kernel) rfl
  | n + 9, h => exact absurd h (by omega)
theorem hinX8 : ∀ w ∈ u_ws RX8 TX8 2, w ∈ gT := by
  intro w hw
  obtain ⟨k, hk, rfl⟩ := List.mem_map.mp hw
  have hk := List.mem_range.mp hk
  match k, hk with
  | 0, _ => exact gT_of 38 (by decide +kernel) rfl
  | 1, _ => exact gT_of 40 (by decide +kernel) rfl
  | n + 2, h => exact absurd h (by omega)
theorem hinX9 : ∀ w ∈ u_ws RX9 TX9 10, w ∈ gT := by
  intro w hw
  obtain ⟨k, hk, rfl⟩ := List.mem_map.mp hw
  have hk := List.mem_range.mp hk
  match k, hk with
  | 0, _ => exact gT_of 356 (by decide +kernel) rfl
  | 1, _ => exact gT_of 358 (by decide +kernel) rfl
  | 2, _ => exact gT_of 360 (by decide +kernel) rfl
  | 3, _ => exact gT_of 362 (by decide +kernel) rfl
  | 4, _ => exact gT_of 364 (by decide +kernel) rfl
  | 5, _ => exact gT_of 366 (by decide +kernel) rfl
  | 6, _ => exact gT_of 368 (by decide +kernel) rfl
  | 7, _ => exact gT_of 370 (by decide +kernel) rfl
  | 8, _ => exact gT_of 372 (by decide +kernel) rfl
  | 9, _ => exact gT_of 374 (by decide +kernel) rfl
  | n + 10, h => exact absurd h (by omega)
theorem hinX10 : ∀ w ∈ u_ws RX10 TX10 57, w ∈ gT := by
  intro w hw
  obtain ⟨k, hk, rfl⟩ := List.mem_map.mp hw
  have hk := List.mem_range.mp hk
  match k, hk with
  | 0, _ => exact gT_of 965 (by decide +kernel) rfl
  | 1, _ => exact gT_of 967 (by decide +kernel) rfl
  | 2, _ => exact gT_of 969 (by decide +kernel) rfl
  | 3, _ => exact gT_of 971 (by decide +kernel) rfl
  | 4, _ => exact gT_of 973 (by decide +kernel) rfl
  | 5, _ => exact gT_of 975 (by decide +kernel) rfl
  | 6, _ => exact gT_of 977 (by decide +kernel) rfl
  | 7, _ => exact gT_of 979 (by decide +kernel) rfl
  | 8, _ => exact gT_of 981 (by decide +kernel) rfl
  | 9, _ => exact gT_of 983 (by decide +kernel) rfl
  | 10, _ => exact gT_of 985 (by decide +kernel) rfl
  | 11, _ => exact gT_of 987 (by decide +kernel) rfl
  | 12, _ => exact gT_of 989 (by decide +kernel) rfl
  | 13, _ => exact gT_of 991 (by decide +kernel) rfl
  | 14, _ => exact gT_of 993 (by decide +kernel) rfl
  | 15, _ => exact gT_of 995 (by decide +kernel) rfl
  | 16, _ => exact gT_of 997 (by decide +kernel) rfl
  | 17, _ => exact gT_of 999 (by decide +kernel) rfl
  | 18, _ => exact gT_of 1001 (by decide +kernel) rfl
  | 19, _ => exact gT_of 1003 (by decide +kernel) rfl
  | 20, _ => exact gT_of 1005 (by decide +kernel) rfl
  | 21, _ => exact gT_of 1007 (by decide +kernel) rfl
  | 22, _ => exact gT_of 1009 (by decide +kernel) rfl
  | 23, _ => exact gT_of 1011 (by decide +kernel) rfl
  | 24, _ => exact gT_of 1013 (by decide +kernel) rfl
  | 25, _ => exact gT_of 1015 (by decide +kernel) rfl
  | 26, _ => exact gT_of 1017 (by decide +kernel) rfl
  | 27, _ => exact gT_of 1019 (by decide +kernel) rfl
  | 28, _ => exact gT_of 1021 (by decide +kernel) rfl
  | 29, _ => exact gT_of 1023 (by decide +kernel) rfl
  | 30, _ => exact gT_of 1025 (by decide +kernel) rfl
  | 31, _ => exact gT_of 1027 (by decide +kernel) rfl
  | 32, _ => exact gT_of 1029 (by decide +kernel) rfl
  | 33, _ => exact gT_of 1031 (by decide +kernel) rfl
  | 34, _ => exact gT_of 1033 (by decide +kernel) rfl
  | 35, _ => exact gT_of 1035 (by decide +kernel) rfl
  | 36, _ => exact gT_of 1037 (by decide +kernel) rfl
  | 37, _ => exact gT_of 1039 (by decide +kernel) rfl
  | 38, _ => exact gT_of 1041 (by decide +kernel) rfl
  | 39, _ => exact gT_of 1043 (by decide +kernel) rfl
  | 40, _ => exact gT_of 1045 (by decide +kernel) rfl
  | 41, _ => exact gT_of 1047 (by decide +kernel) rfl
  | 42, _ => exact gT_of 1049 (by decide +kernel) rfl
  | 43, _ => exact gT_of 1051 (by decide +kernel) rfl
  | 44, _ => exact gT_of 1053 (by decide +kernel) rfl
  | 45, _ => exact gT_of 1055 (by decide +kernel) rfl
  | 46, _ => exact gT_of 1057 (by decide +kernel) rfl
  | 47, _ => exact gT_of 1059 (by decide +kernel) rfl
  | 48, _ => exact gT_of 1061 (by decide +kernel) rfl
  | 49, _ => exact gT_of 1063 (by decide +kernel) rfl
  | 50, _ => exact gT_of 1065 (by decide +kernel) rfl
  | 51, _ => exact gT_of 1067 (by decide +kernel) rfl
  | 52, _ => exact gT_of 1069 (by decide +kernel) rfl
  | 53, _ => exact gT_of 1071 (by decide +kernel) rfl
  | 54, _ => exact gT_of 1073 (by decide +kernel) rfl
  | 55, _ => exact gT_of 1075 (by decide +kernel) rfl
  | 56, _ => exact gT_of 1077 (by decide +kernel) rfl
  | n + 57, h => exact absurd h (by omega)
abbrev mX9_init : MT := (yX9_init, cX9_init, 2, (Option.none : Option Jvm.ClassFile.FieldType))
theorem moX9_init : MtN mX9_init 0 := ⟨⟨gT_of 23 (by decide +kernel) rfl, gT_of 1 (by decide +kernel) rfl, ⟨by decide +kernel, by decide +kernel⟩, by decide +kernel, by decide⟩, gT_of 22 (by decide +kernel) rfl, rfl, rfl⟩
abbrev mX8_init : MT := (yX8_init, cX8_init, 1, (Option.none : Option Jvm.ClassFile.FieldType))
theorem moX8_init : MtN mX8_init 0 := ⟨⟨gT_of 31 (by decide +kernel) rfl, gT_of 2 (by decide +kernel) rfl, ⟨by decide +kernel, by decide +kernel⟩, by decide +kernel, by decide⟩, gT_of 30 (by decide +kernel) rfl, rfl, rfl⟩
abbrev mX7_init : MT := (yX7_init, cX7_init, 1, (Option.none : Option Jvm.ClassFile.FieldType))
theorem moX7_init : MtN mX7_init 0 := ⟨⟨gT_of 48 (by decide +kernel) rfl, gT_of 3 (by decide +kernel) rfl, ⟨by decide +kernel, by decide +kernel⟩, by decide +kernel, by decide⟩, gT_of 47 (by decide +kernel) rfl, rfl, rfl⟩
abbrev mX4_init : MT := (yX4_init, cX4_init, 1, (Option.none : Option Jvm.ClassFile.FieldType))
theorem moX4_init : MtN mX4_init 0 := ⟨⟨gT_of 54 (by decide +kernel) rfl, gT_of 4 (by decide +kernel) rfl, ⟨by decide +kernel, by decide +kernel⟩, by decide +kernel, by decide⟩, gT_of 53 (by decide +kernel) rfl, rfl, rfl⟩
abbrev mX6_init : MT := (yX6_init, cX6_init, 1, (Option.none : Option Jvm.ClassFile.FieldType))
theorem moX6_init : MtN mX6_init 0 := ⟨⟨gT_of 159 (by decide +kernel) rfl, gT_of 5 (by decide +kernel) rfl, ⟨by decide +kernel, by decide +kernel⟩, by decide +kernel, by decide⟩, gT_of 158 (by decide +kernel) rfl, rfl, rfl⟩
abbrev mX1_init : MT := (yX1_init, cX1_init, 3, (Option.none : Option Jvm.ClassFile.FieldType))
theorem moX1_init : MtN mX1_init 2 := ⟨⟨gT_of 180 (by decide +kernel) rfl, gT_of 6 (by decide +kernel) rfl, ⟨by decide +kernel, by decide +kernel⟩, by decide +kernel, by decide⟩, gT_of 179 (by decide +kernel) rfl, rfl, rfl⟩
abbrev mX5_init : MT := (yX5_init, cX5_init, 3, (Option.none : Option Jvm.ClassFile.FieldType))
theorem moX5_init : MtN mX5_init 2 := ⟨⟨gT_of 231 (by decide +kernel) rfl, gT_of 7 (by decide +kernel) rfl, ⟨by decide +kernel, by decide +kernel⟩, by decide +kernel, by decide⟩, gT_of 230 (by decide +kernel) rfl, rfl, rfl⟩
abbrev mX0_init : MT := (yX0_init, cX0_init, 1, (Option.none : Option Jvm.ClassFile.FieldType))
theorem moX0_init : MtN mX0_init 0 := ⟨⟨gT_of 275 (by decide +kernel) rfl, gT_of 8 (by decide +kernel) rfl, ⟨by decide +kernel, by decide +kernel⟩, by decide +kernel, by decide⟩, gT_of 274 (by decide +kernel) rfl, rfl, rfl⟩
abbrev mX3_init : MT := (yX3_init, cX3_init, 1, (Option.none : Option Jvm.ClassFile.FieldType))
theorem moX3_init : MtN mX3_init 0 := ⟨⟨gT_of 286 (by decide +kernel) rfl, gT_of 9 (by decide +kernel) rfl, ⟨by decide +kernel, by decide +kernel⟩, by decide +kernel, by decide⟩, gT_of 285 (by decide +kernel) rfl, rfl, rfl⟩
abbrev mX2_init : MT := (yX2_init, cX2_init, 1, (Option.none : Option Jvm.ClassFile.FieldType))
theorem moX2_init : MtN mX2_init 0 := ⟨⟨gT_of 326 (by decide +kernel) rfl, gT_of 10 (by decide +kernel) rfl, ⟨by decide +kernel, by decide +kernel⟩, by decide +kernel, by decide⟩, gT_of 325 (by decide +kernel) rfl, rfl, rfl⟩
abbrev mX9_feed : MT := (yX9_feed, cX9_feed, 4, (Option.some Jvm.ClassFile.FieldType.int))
theorem moX9_feed : MtV mX9_feed 2 := ⟨⟨gT_of 380 (by decide +kernel) rfl, gT_of 1 (by decide +kernel) rfl, ⟨by decide +kernel, by decide +kernel⟩, by decide +kernel, by decide⟩, gT_of 378 (by decide +kernel) rfl, gT_of 379 (by decide +kernel) rfl⟩
abbrev mX8_append : MT := (yX8_append, cX8_append, 5, (Option.none : Option Jvm.ClassFile.FieldType))
theorem moX8_append : MtV mX8_append 2 := ⟨⟨gT_of 386 (by decide +kernel) rfl, gT_of 2 (by decide +kernel) rfl, ⟨by decide +kernel, by decide +kernel⟩, by decide +kernel, by decide⟩, gT_of 385 (by decide +kernel) rfl, gT_sel (n := 2) (List.mem_of_getElem? (i := 0) (by decide +kernel)) rfl⟩
abbrev mX9_put : MT := (yX9_put, cX9_put, 3, (Option.none : Option Jvm.ClassFile.FieldType))
theorem moX9_put : MtS mX9_put 3 := ⟨⟨gT_of 390 (by decide +kernel) rfl, gT_of 1 (by decide +kernel) rfl, ⟨by decide +kernel, by decide +kernel⟩, by decide +kernel, by decide⟩, gT_of 389 (by decide +kernel) rfl⟩
abbrev mX9_land : MT := (yX9_land, cX9_land, 3, (Option.some Jvm.ClassFile.FieldType.int))
theorem moX9_land : MtV mX9_land 0 := ⟨⟨gT_of 394 (by decide +kernel) rfl, gT_of 1 (by decide +kernel) rfl, ⟨by decide +kernel, by decide +kernel⟩, by decide +kernel, by decide⟩, gT_of 392 (by decide +kernel) rfl, gT_of 393 (by decide +kernel) rfl⟩
abbrev mX7_read : MT := (yX7_read, cX7_read, 3, (Option.some Jvm.ClassFile.FieldType.int))
theorem moX7_read : MtV mX7_read 1 := ⟨⟨gT_of 398 (by decide +kernel) rfl, gT_of 3 (by decide +kernel) rfl, ⟨by decide +kernel, by decide +kernel⟩, by decide +kernel, by decide⟩, gT_of 397 (by decide +kernel) rfl, gT_sel (n := 9) (List.mem_of_getElem? (i := 1) (by decide +kernel)) rfl⟩
abbrev mX4_empty : MT := (yX4_empty, cX4_empty, 1, (Option.none : Option Jvm.ClassFile.FieldType))
theorem moX4_empty : MtV mX4_empty 0 := ⟨⟨gT_of 402 (by decide +kernel) rfl, gT_of 4 (by decide +kernel) rfl, ⟨by decide +kernel, by decide +kernel⟩, by decide +kernel, by decide⟩, gT_of 401 (by decide +kernel) rfl, gT_sel (n := 11) (List.mem_of_getElem? (i := 2) (by decide +kernel)) rfl⟩
abbrev mX7_step : MT := (yX7_step, cX7_step, 2, (Option.none : Option Jvm.ClassFile.FieldType))
theorem moX7_step : MtV mX7_step 0 := ⟨⟨gT_of 406 (by decide +kernel) rfl, gT_of 3 (by decide +kernel) rfl, ⟨by decide +kernel, by decide +kernel⟩, by decide +kernel, by decide⟩, gT_of 405 (by decide +kernel) rfl, gT_sel (n := 9) (List.mem_of_getElem? (i := 3) (by decide +kernel)) rfl⟩
abbrev mX7_byteAt : MT := (yX7_byteAt, cX7_byteAt, 2, (Option.some Jvm.ClassFile.FieldType.int))
theorem moX7_byteAt : MtV mX7_byteAt 1 := ⟨⟨gT_of 410 (by decide +kernel) rfl, gT_of 3 (by decide +kernel) rfl, ⟨by decide +kernel, by decide +kernel⟩, by decide +kernel, by decide⟩, gT_of 409 (by decide +kernel) rfl, gT_sel (n := 9) (List.mem_of_getElem? (i := 4) (by decide +kernel)) rfl⟩
abbrev mX9_at : MT := (yX9_at, cX9_at, 2, (Option.some Jvm.ClassFile.FieldType.int))
theorem moX9_at : MtS mX9_at 2 := ⟨⟨gT_of 413 (by decide +kernel) rfl, gT_of 1 (by decide +kernel) rfl, ⟨by decide +kernel, by decide +kernel⟩, by decide +kernel, by decide⟩, gT_of 412 (by decide +kernel) rfl⟩
abbrev mX7_isLetter : MT := (yX7_isLetter, cX7_isLetter, 1, (Option.some Jvm.ClassFile.FieldType.boolean))
theorem moX7_isLetter : MtS mX7_isLetter 1 := ⟨⟨gT_of 416 (by decide +kernel) rfl, gT_of 3 (by decide +kernel) rfl, ⟨by decide +kernel, by decide +kernel⟩, by decide +kernel, by decide⟩, gT_of 415 (by decide +kernel) rfl⟩
abbrev mX7_isFigure : MT := (yX7_isFigure, cX7_isFigure, 1, (Option.some Jvm.ClassFile.FieldType.boolean))
theorem moX7_isFigure : MtS mX7_isFigure 1 := ⟨⟨gT_of 419 (by decide +kernel) rfl, gT_of 3 (by decide +kernel) rfl, ⟨by decide +kernel, by decide +kernel⟩, by decide +kernel, by decide⟩, gT_of 418 (by decide +kernel) rfl⟩
abbrev mX7_goesOn : MT := (yX7_goesOn, cX7_goesOn, 2, (Option.some Jvm.ClassFile.FieldType.boolean))
theorem moX7_goesOn : MtV mX7_goesOn 1 := ⟨⟨gT_of 423 (by decide +kernel) rfl, gT_of 3 (by decide +kernel) rfl, ⟨by decide +kernel, by decide +kernel⟩, by decide +kernel, by decide⟩, gT_of 422 (by decide +kernel) rfl, gT_sel (n := 9) (List.mem_of_getElem? (i := 5) (by decide +kernel)) rfl⟩
abbrev mX7_isWord : MT := (yX7_isWord, cX7_isWord, 4, (Option.some Jvm.ClassFile.FieldType.boolean))
theorem moX7_isWord : MtV mX7_isWord 1 := ⟨⟨gT_of 428 (by decide +kernel) rfl, gT_of 3 (by decide +kernel) rfl, ⟨by decide +kernel, by decide +kernel⟩, by decide +kernel, by decide⟩, gT_of 427 (by decide +kernel) rfl, gT_sel (n := 9) (List.mem_of_getElem? (i := 6) (by decide +kernel)) rfl⟩
abbrev mJ0_length_8abf5 : MT := (yJ0_length_8abf5, cJ0_length_8abf5, 1, (Option.some Jvm.ClassFile.FieldType.int))
theorem moJ0_length_8abf5 : MtV mJ0_length_8abf5 0 := ⟨⟨gT_of 432 (by decide +kernel) rfl, gT_of 12 (by decide +kernel) rfl, ⟨by decide +kernel, by decide +kernel⟩, by decide +kernel, by decide⟩, gT_of 430 (by decide +kernel) rfl, gT_of 431 (by decide +kernel) rfl⟩
abbrev mJ0_coder_7d493 : MT := (yJ0_coder_7d493, cJ0_coder_7d493, 1, (Option.some Jvm.ClassFile.FieldType.byte))
theorem moJ0_coder_7d493 : MtV mJ0_coder_7d493 0 := ⟨⟨gT_of 436 (by decide +kernel) rfl, gT_of 12 (by decide +kernel) rfl, ⟨by decide +kernel, by decide +kernel⟩, by decide +kernel, by decide⟩, gT_of 434 (by decide +kernel) rfl, gT_of 435 (by decide +kernel) rfl⟩
abbrev mJ0_charAt_5068e : MT := (yJ0_charAt_5068e, cJ0_charAt_5068e, 2, (Option.some Jvm.ClassFile.FieldType.char))
theorem moJ0_charAt_5068e : MtV mJ0_charAt_5068e 1 := ⟨⟨gT_of 442 (by decide +kernel) rfl, gT_of 12 (by decide +kernel) rfl, ⟨by decide +kernel, by decide +kernel⟩, by decide +kernel, by decide⟩, gT_of 440 (by decide +kernel) rfl, gT_of 441 (by decide +kernel) rfl⟩
abbrev mJ0_isLatin1_aae02 : MT := (yJ0_isLatin1_aae02, cJ0_isLatin1_aae02, 1, (Option.some Jvm.ClassFile.FieldType.boolean))
theorem moJ0_isLatin1_aae02 : MtV mJ0_isLatin1_aae02 0 := ⟨⟨gT_of 446 (by decide +kernel) rfl, gT_of 12 (by decide +kernel) rfl, ⟨by decide +kernel, by decide +kernel⟩, by decide +kernel, by decide⟩, gT_of 444 (by decide +kernel) rfl, gT_of 445 (by decide +kernel) rfl⟩
abbrev mJ1_charAt_3b067 : MT := (yJ1_charAt_3b067, cJ1_charAt_3b067, 2, (Option.some Jvm.ClassFile.FieldType.char))
theorem moJ1_charAt_3b067 : MtS mJ1_charAt_3b067 2 := ⟨⟨gT_of 449 (by decide +kernel) rfl, gT_of 13 (by decide +kernel) rfl, ⟨by decide +kernel, by decide +kernel⟩, by decide +kernel, by decide⟩, gT_of 448 (by decide +kernel) rfl⟩
abbrev mJ0_checkIndex_df160 : MT := (yJ0_checkIndex_df160, cJ0_checkIndex_df160, 2, (Option.none : Option Jvm.ClassFile.FieldType))
theorem moJ0_checkIndex_df160 : MtS mJ0_checkIndex_df160 2 := ⟨⟨gT_of 452 (by decide +kernel) rfl, gT_of 12 (by decide +kernel) rfl, ⟨by decide +kernel, by decide +kernel⟩, by decide +kernel, by decide⟩, gT_of 451 (by decide +kernel) rfl⟩
abbrev mJ3_checkIndex_8e157 : MT := (yJ3_checkIndex_8e157, cJ3_checkIndex_8e157, 3, (Option.some Jvm.ClassFile.FieldType.int))
theorem moJ3_checkIndex_8e157 : MtS mJ3_checkIndex_8e157 3 := ⟨⟨gT_of 457 (by decide +kernel) rfl, gT_of 14 (by decide +kernel) rfl, ⟨by decide +kernel, by decide +kernel⟩, by decide +kernel, by decide⟩, gT_of 456 (by decide +kernel) rfl⟩
abbrev mJ2_charAt_3b067 : MT := (yJ2_charAt_3b067, cJ2_charAt_3b067, 2, (Option.some Jvm.ClassFile.FieldType.char))
theorem moJ2_charAt_3b067 : MtS mJ2_charAt_3b067 2 := ⟨⟨gT_of 460 (by decide +kernel) rfl, gT_of 15 (by decide +kernel) rfl, ⟨by decide +kernel, by decide +kernel⟩, by decide +kernel, by decide⟩, gT_of 459 (by decide +kernel) rfl⟩
abbrev mJ2_checkIndex_2214a : MT := (yJ2_checkIndex_2214a, cJ2_checkIndex_2214a, 2, (Option.none : Option Jvm.ClassFile.FieldType))
theorem moJ2_checkIndex_2214a : MtS mJ2_checkIndex_2214a 2 := ⟨⟨gT_of 463 (by decide +kernel) rfl, gT_of 15 (by decide +kernel) rfl, ⟨by decide +kernel, by decide +kernel⟩, by decide +kernel, by decide⟩, gT_of 462 (by decide +kernel) rfl⟩
abbrev mJ2_length_9d52b : MT := (yJ2_length_9d52b, cJ2_length_9d52b, 1, (Option.some Jvm.ClassFile.FieldType.int))
theorem moJ2_length_9d52b : MtS mJ2_length_9d52b 1 := ⟨⟨gT_of 466 (by decide +kernel) rfl, gT_of 15 (by decide +kernel) rfl, ⟨by decide +kernel, by decide +kernel⟩, by decide +kernel, by decide⟩, gT_of 465 (by decide +kernel) rfl⟩
abbrev mJ2_getChar_3b067 : MT := (yJ2_getChar_3b067, cJ2_getChar_3b067, 2, (Option.some Jvm.ClassFile.FieldType.char))
theorem moJ2_getChar_3b067 : MtS mJ2_getChar_3b067 2 := ⟨⟨gT_of 470 (by decide +kernel) rfl, gT_of 15 (by decide +kernel) rfl, ⟨by decide +kernel, by decide +kernel⟩, by decide +kernel, by decide⟩, gT_of 469 (by decide +kernel) rfl⟩
abbrev mX7_readPlaces : MT := (yX7_readPlaces, cX7_readPlaces, 2, (Option.none : Option Jvm.ClassFile.FieldType))
theorem moX7_readPlaces : MtV mX7_readPlaces 0 := ⟨⟨gT_of 480 (by decide +kernel) rfl, gT_of 3 (by decide +kernel) rfl, ⟨by decide +kernel, by decide +kernel⟩, by decide +kernel, by decide⟩, gT_of 479 (by decide +kernel) rfl, gT_sel (n := 9) (List.mem_of_getElem? (i := 7) (by decide +kernel)) rfl⟩
abbrev mX7_blame : MT := (yX7_blame, cX7_blame, 2, (Option.none : Option Jvm.ClassFile.FieldType))
theorem moX7_blame : MtV mX7_blame 1 := ⟨⟨gT_of 484 (by decide +kernel) rfl, gT_of 3 (by decide +kernel) rfl, ⟨by decide +kernel, by decide +kernel⟩, by decide +kernel, by decide⟩, gT_of 483 (by decide +kernel) rfl, gT_sel (n := 9) (List.mem_of_getElem? (i := 8) (by decide +kernel)) rfl⟩
abbrev mX7_takeNumber : MT := (yX7_takeNumber, cX7_takeNumber, 4, (Option.some Jvm.ClassFile.FieldType.int))
theorem moX7_takeNumber : MtV mX7_takeNumber 2 := ⟨⟨gT_of 488 (by decide +kernel) rfl, gT_of 3 (by decide +kernel) rfl, ⟨by decide +kernel, by decide +kernel⟩, by decide +kernel, by decide⟩, gT_of 487 (by decide +kernel) rfl, gT_sel (n := 9) (List.mem_of_getElem? (i := 9) (by decide +kernel)) rfl⟩
abbrev mX7_seeNumber : MT := (yX7_seeNumber, cX7_seeNumber, 3, (Option.some Jvm.ClassFile.FieldType.int))
theorem moX7_seeNumber : MtV mX7_seeNumber 2 := ⟨⟨gT_of 492 (by decide +kernel) rfl, gT_of 3 (by decide +kernel) rfl, ⟨by decide +kernel, by decide +kernel⟩, by decide +kernel, by decide⟩, gT_of 491 (by decide +kernel) rfl, gT_sel (n := 9) (List.mem_of_getElem? (i := 10) (by decide +kernel)) rfl⟩
abbrev mX7_takeSign : MT := (yX7_takeSign, cX7_takeSign, 2, (Option.none : Option Jvm.ClassFile.FieldType))
theorem moX7_takeSign : MtV mX7_takeSign 1 := ⟨⟨gT_of 496 (by decide +kernel) rfl, gT_of 3 (by decide +kernel) rfl, ⟨by decide +kernel, by decide +kernel⟩, by decide +kernel, by decide⟩, gT_of 495 (by decide +kernel) rfl, gT_sel (n := 9) (List.mem_of_getElem? (i := 11) (by decide +kernel)) rfl⟩
abbrev mX7_isSign : MT := (yX7_isSign, cX7_isSign, 2, (Option.some Jvm.ClassFile.FieldType.boolean))
theorem moX7_isSign : MtV mX7_isSign 1 := ⟨⟨gT_of 500 (by decide +kernel) rfl, gT_of 3 (by decide +kernel) rfl, ⟨by decide +kernel, by decide +kernel⟩, by decide +kernel, by decide⟩, gT_of 499 (by decide +kernel) rfl, gT_sel (n := 9) (List.mem_of_getElem? (i := 12) (by decide +kernel)) rfl⟩
abbrev mX7_readWay : MT := (yX7_readWay, cX7_readWay, 4, (Option.none : Option Jvm.ClassFile.FieldType))
theorem moX7_readWay : MtV mX7_readWay 0 := ⟨⟨gT_of 505 (by decide +kernel) rfl, gT_of 3 (by decide +kernel) rfl, ⟨by decide +kernel, by decide +kernel⟩, by decide +kernel, by decide⟩, gT_of 504 (by decide +kernel) rfl, gT_sel (n := 9) (List.mem_of_getElem? (i := 13) (by decide +kernel)) rfl⟩
abbrev mX4_areJoined : MT := (yX4_areJoined, cX4_areJoined, 4, (Option.some Jvm.ClassFile.FieldType.boolean))
theorem moX4_areJoined : MtV mX4_areJoined 2 := ⟨⟨gT_of 509 (by decide +kernel) rfl, gT_of 4 (by decide +kernel) rfl, ⟨by decide +kernel, by decide +kernel⟩, by decide +kernel, by decide⟩, gT_of 508 (by decide +kernel) rfl, gT_sel (n := 11) (List.mem_of_getElem? (i := 14) (by decide +kernel)) rfl⟩
abbrev mX4_otherEnd : MT := (yX4_otherEnd, cX4_otherEnd, 5, (Option.some Jvm.ClassFile.FieldType.int))
theorem moX4_otherEnd : MtV mX4_otherEnd 2 := ⟨⟨gT_of 513 (by decide +kernel) rfl, gT_of 4 (by decide +kernel) rfl, ⟨by decide +kernel, by decide +kernel⟩, by decide +kernel, by decide⟩, gT_of 512 (by decide +kernel) rfl, gT_sel (n := 11) (List.mem_of_getElem? (i := 15) (by decide +kernel)) rfl⟩
abbrev mX7_readPerson : MT := (yX7_readPerson, cX7_readPerson, 2, (Option.none : Option Jvm.ClassFile.FieldType))
theorem moX7_readPerson : MtV mX7_readPerson 0 := ⟨⟨gT_of 520 (by decide +kernel) rfl, gT_of 3 (by decide +kernel) rfl, ⟨by decide +kernel, by decide +kernel⟩, by decide +kernel, by decide⟩, gT_of 519 (by decide +kernel) rfl, gT_sel (n := 9) (List.mem_of_getElem? (i := 16) (by decide +kernel)) rfl⟩
abbrev mX7_takeHabit : MT := (yX7_takeHabit, cX7_takeHabit, 2, (Option.some Jvm.ClassFile.FieldType.int))
theorem moX7_takeHabit : MtV mX7_takeHabit 0 := ⟨⟨gT_of 524 (by decide +kernel) rfl, gT_of 3 (by decide +kernel) rfl, ⟨by decide +kernel, by decide +kernel⟩, by decide +kernel, by decide⟩, gT_of 523 (by decide +kernel) rfl, gT_sel (n := 9) (List.mem_of_getElem? (i := 17) (by decide +kernel)) rfl⟩
abbrev mX7_takeKnown : MT := (yX7_takeKnown, cX7_takeKnown, 5, (Option.some Jvm.ClassFile.FieldType.int))
theorem moX7_takeKnown : MtV mX7_takeKnown 0 := ⟨⟨gT_of 533 (by decide +kernel) rfl, gT_of 3 (by decide +kernel) rfl, ⟨by decide +kernel, by decide +kernel⟩, by decide +kernel, by decide⟩, gT_of 532 (by decide +kernel) rfl, gT_sel (n := 9) (List.mem_of_getElem? (i := 18) (by decide +kernel)) rfl⟩
abbrev mX4_become : MT := (yX4_become, cX4_become, 2, (Option.none : Option Jvm.ClassFile.FieldType))
theorem moX4_become : MtV mX4_become 1 := ⟨⟨gT_of 537 (by decide +kernel) rfl, gT_of 4 (by decide +kernel) rfl, ⟨by decide +kernel, by decide +kernel⟩, by decide +kernel, by decide⟩, gT_of 536 (by decide +kernel) rfl, gT_sel (n := 11) (List.mem_of_getElem? (i := 19) (by decide +kernel)) rfl⟩
abbrev mX9_copy : MT := (yX9_copy, cX9_copy, 2, (Option.none : Option Jvm.ClassFile.FieldType))
theorem moX9_copy : MtS mX9_copy 2 := ⟨⟨gT_of 540 (by decide +kernel) rfl, gT_of 1 (by decide +kernel) rfl, ⟨by decide +kernel, by decide +kernel⟩, by decide +kernel, by decide⟩, gT_of 539 (by decide +kernel) rfl⟩
abbrev mX3_forget : MT := (yX3_forget, cX3_forget, 1, (Option.none : Option Jvm.ClassFile.FieldType))
theorem moX3_forget : MtV mX3_forget 0 := ⟨⟨gT_of 550 (by decide +kernel) rfl, gT_of 9 (by decide +kernel) rfl, ⟨by decide +kernel, by decide +kernel⟩, by decide +kernel, by decide⟩, gT_of 549 (by decide +kernel) rfl, gT_sel (n := 8) (List.mem_of_getElem? (i := 20) (by decide +kernel)) rfl⟩
abbrev mX9_fault : MT := (yX9_fault, cX9_fault, 1, (Option.some Jvm.ClassFile.FieldType.int))
theorem moX9_fault : MtV mX9_fault 0 := ⟨⟨gT_of 555 (by decide +kernel) rfl, gT_of 1 (by decide +kernel) rfl, ⟨by decide +kernel, by decide +kernel⟩, by decide +kernel, by decide⟩, gT_of 553 (by decide +kernel) rfl, gT_of 554 (by decide +kernel) rfl⟩
abbrev mX9_told : MT := (yX9_told, cX9_told, 2, (Option.some Jvm.ClassFile.FieldType.int))
theorem moX9_told : MtV mX9_told 1 := ⟨⟨gT_of 559 (by decide +kernel) rfl, gT_of 1 (by decide +kernel) rfl, ⟨by decide +kernel, by decide +kernel⟩, by decide +kernel, by decide⟩, gT_of 557 (by decide +kernel) rfl, gT_of 558 (by decide +kernel) rfl⟩
abbrev mX9_way : MT := (yX9_way, cX9_way, 3, (Option.some Jvm.ClassFile.FieldType.int))
theorem moX9_way : MtV mX9_way 2 := ⟨⟨gT_of 563 (by decide +kernel) rfl, gT_of 1 (by decide +kernel) rfl, ⟨by decide +kernel, by decide +kernel⟩, by decide +kernel, by decide⟩, gT_of 561 (by decide +kernel) rfl, gT_of 562 (by decide +kernel) rfl⟩
abbrev mX4_hasWay : MT := (yX4_hasWay, cX4_hasWay, 2, (Option.some Jvm.ClassFile.FieldType.boolean))
theorem moX4_hasWay : MtV mX4_hasWay 1 := ⟨⟨gT_of 567 (by decide +kernel) rfl, gT_of 4 (by decide +kernel) rfl, ⟨by decide +kernel, by decide +kernel⟩, by decide +kernel, by decide⟩, gT_of 566 (by decide +kernel) rfl, gT_sel (n := 11) (List.mem_of_getElem? (i := 21) (by decide +kernel)) rfl⟩
abbrev mX9_person : MT := (yX9_person, cX9_person, 3, (Option.some Jvm.ClassFile.FieldType.int))
theorem moX9_person : MtV mX9_person 2 := ⟨⟨gT_of 573 (by decide +kernel) rfl, gT_of 1 (by decide +kernel) rfl, ⟨by decide +kernel, by decide +kernel⟩, by decide +kernel, by decide⟩, gT_of 571 (by decide +kernel) rfl, gT_of 572 (by decide +kernel) rfl⟩
abbrev mX4_hasPerson : MT := (yX4_hasPerson, cX4_hasPerson, 2, (Option.some Jvm.ClassFile.FieldType.boolean))
theorem moX4_hasPerson : MtV mX4_hasPerson 1 := ⟨⟨gT_of 577 (by decide +kernel) rfl, gT_of 4 (by decide +kernel) rfl, ⟨by decide +kernel, by decide +kernel⟩, by decide +kernel, by decide⟩, gT_of 576 (by decide +kernel) rfl, gT_sel (n := 11) (List.mem_of_getElem? (i := 22) (by decide +kernel)) rfl⟩
abbrev mX9_far : MT := (yX9_far, cX9_far, 3, (Option.some Jvm.ClassFile.FieldType.int))
theorem moX9_far : MtV mX9_far 2 := ⟨⟨gT_of 581 (by decide +kernel) rfl, gT_of 1 (by decide +kernel) rfl, ⟨by decide +kernel, by decide +kernel⟩, by decide +kernel, by decide⟩, gT_of 579 (by decide +kernel) rfl, gT_of 580 (by decide +kernel) rfl⟩
abbrev mX4_hasPlace : MT := (yX4_hasPlace, cX4_hasPlace, 2, (Option.some Jvm.ClassFile.FieldType.boolean))
theorem moX4_hasPlace : MtV mX4_hasPlace 1 := ⟨⟨gT_of 585 (by decide +kernel) rfl, gT_of 4 (by decide +kernel) rfl, ⟨by decide +kernel, by decide +kernel⟩, by decide +kernel, by decide⟩, gT_of 584 (by decide +kernel) rfl, gT_sel (n := 11) (List.mem_of_getElem? (i := 23) (by decide +kernel)) rfl⟩
abbrev mX9_farBetween : MT := (yX9_farBetween, cX9_farBetween, 3, (Option.some Jvm.ClassFile.FieldType.int))
theorem moX9_farBetween : MtV mX9_farBetween 2 := ⟨⟨gT_of 589 (by decide +kernel) rfl, gT_of 1 (by decide +kernel) rfl, ⟨by decide +kernel, by decide +kernel⟩, by decide +kernel, by decide⟩, gT_of 588 (by decide +kernel) rfl, gT_sel (n := 10) (List.mem_of_getElem? (i := 24) (by decide +kernel)) rfl⟩
abbrev mX6_seek : MT := (yX6_seek, cX6_seek, 8, (Option.none : Option Jvm.ClassFile.FieldType))
theorem moX6_seek : MtV mX6_seek 4 := ⟨⟨gT_of 593 (by decide +kernel) rfl, gT_of 5 (by decide +kernel) rfl, ⟨by decide +kernel, by decide +kernel⟩, by decide +kernel, by decide⟩, gT_of 592 (by decide +kernel) rfl, gT_sel (n := 4) (List.mem_of_getElem? (i := 25) (by decide +kernel)) rfl⟩
abbrev mX6_measure : MT := (yX6_measure, cX6_measure, 12, (Option.none : Option Jvm.ClassFile.FieldType))
theorem moX6_measure : MtV mX6_measure 3 := ⟨⟨gT_of 598 (by decide +kernel) rfl, gT_of 5 (by decide +kernel) rfl, ⟨by decide +kernel, by decide +kernel⟩, by decide +kernel, by decide⟩, gT_of 597 (by decide +kernel) rfl, gT_sel (n := 4) (List.mem_of_getElem? (i := 26) (by decide +kernel)) rfl⟩
abbrev mJ7_fill_53178 : MT := (yJ7_fill_53178, cJ7_fill_53178, 4, (Option.none : Option Jvm.ClassFile.FieldType))
theorem moJ7_fill_53178 : MtS mJ7_fill_53178 2 := ⟨⟨gT_of 602 (by decide +kernel) rfl, gT_of 18 (by decide +kernel) rfl, ⟨by decide +kernel, by decide +kernel⟩, by decide +kernel, by decide⟩, gT_of 601 (by decide +kernel) rfl⟩
abbrev mX6_nextWay : MT := (yX6_nextWay, cX6_nextWay, 8, (Option.some Jvm.ClassFile.FieldType.int))
theorem moX6_nextWay : MtV mX6_nextWay 3 := ⟨⟨gT_of 608 (by decide +kernel) rfl, gT_of 5 (by decide +kernel) rfl, ⟨by decide +kernel, by decide +kernel⟩, by decide +kernel, by decide⟩, gT_of 607 (by decide +kernel) rfl, gT_sel (n := 4) (List.mem_of_getElem? (i := 27) (by decide +kernel)) rfl⟩
abbrev mX6_minutesTo : MT := (yX6_minutesTo, cX6_minutesTo, 2, (Option.some Jvm.ClassFile.FieldType.int))
theorem moX6_minutesTo : MtV mX6_minutesTo 1 := ⟨⟨gT_of 613 (by decide +kernel) rfl, gT_of 5 (by decide +kernel) rfl, ⟨by decide +kernel, by decide +kernel⟩, by decide +kernel, by decide⟩, gT_of 612 (by decide +kernel) rfl, gT_sel (n := 4) (List.mem_of_getElem? (i := 28) (by decide +kernel)) rfl⟩
abbrev mX9_law : MT := (yX9_law, cX9_law, 3, (Option.some Jvm.ClassFile.FieldType.int))
theorem moX9_law : MtV mX9_law 1 := ⟨⟨gT_of 617 (by decide +kernel) rfl, gT_of 1 (by decide +kernel) rfl, ⟨by decide +kernel, by decide +kernel⟩, by decide +kernel, by decide⟩, gT_of 615 (by decide +kernel) rfl, gT_of 616 (by decide +kernel) rfl⟩
abbrev mX9_learn : MT := (yX9_learn, cX9_learn, 5, (Option.some Jvm.ClassFile.FieldType.int))
theorem moX9_learn : MtV mX9_learn 3 := ⟨⟨gT_of 621 (by decide +kernel) rfl, gT_of 1 (by decide +kernel) rfl, ⟨by decide +kernel, by decide +kernel⟩, by decide +kernel, by decide⟩, gT_of 619 (by decide +kernel) rfl, gT_of 620 (by decide +kernel) rfl⟩
abbrev mX9_habit : MT := (yX9_habit, cX9_habit, 4, (Option.some Jvm.ClassFile.FieldType.int))
theorem moX9_habit : MtV mX9_habit 2 := ⟨⟨gT_of 626 (by decide +kernel) rfl, gT_of 1 (by decide +kernel) rfl, ⟨by decide +kernel, by decide +kernel⟩, by decide +kernel, by decide⟩, gT_of 624 (by decide +kernel) rfl, gT_of 625 (by decide +kernel) rfl⟩
abbrev mX9_route : MT := (yX9_route, cX9_route, 5, (Option.some Jvm.ClassFile.FieldType.int))
theorem moX9_route : MtV mX9_route 4 := ⟨⟨gT_of 630 (by decide +kernel) rfl, gT_of 1 (by decide +kernel) rfl, ⟨by decide +kernel, by decide +kernel⟩, by decide +kernel, by decide⟩, gT_of 628 (by decide +kernel) rfl, gT_of 629 (by decide +kernel) rfl⟩
abbrev mX9_canAsk : MT := (yX9_canAsk, cX9_canAsk, 4, (Option.some Jvm.ClassFile.FieldType.boolean))
theorem moX9_canAsk : MtV mX9_canAsk 3 := ⟨⟨gT_of 634 (by decide +kernel) rfl, gT_of 1 (by decide +kernel) rfl, ⟨by decide +kernel, by decide +kernel⟩, by decide +kernel, by decide⟩, gT_of 633 (by decide +kernel) rfl, gT_sel (n := 10) (List.mem_of_getElem? (i := 29) (by decide +kernel)) rfl⟩
abbrev mX9_seekFor : MT := (yX9_seekFor, cX9_seekFor, 4, (Option.none : Option Jvm.ClassFile.FieldType))
theorem moX9_seekFor : MtV mX9_seekFor 3 := ⟨⟨gT_of 638 (by decide +kernel) rfl, gT_of 1 (by decide +kernel) rfl, ⟨by decide +kernel, by decide +kernel⟩, by decide +kernel, by decide⟩, gT_of 637 (by decide +kernel) rfl, gT_sel (n := 10) (List.mem_of_getElem? (i := 30) (by decide +kernel)) rfl⟩
abbrev mX6_placeAfter : MT := (yX6_placeAfter, cX6_placeAfter, 2, (Option.some Jvm.ClassFile.FieldType.int))
theorem moX6_placeAfter : MtV mX6_placeAfter 1 := ⟨⟨gT_of 642 (by decide +kernel) rfl, gT_of 5 (by decide +kernel) rfl, ⟨by decide +kernel, by decide +kernel⟩, by decide +kernel, by decide⟩, gT_of 641 (by decide +kernel) rfl, gT_sel (n := 4) (List.mem_of_getElem? (i := 31) (by decide +kernel)) rfl⟩
abbrev mX9_says : MT := (yX9_says, cX9_says, 6, (Option.some Jvm.ClassFile.FieldType.int))
theorem moX9_says : MtV mX9_says 4 := ⟨⟨gT_of 646 (by decide +kernel) rfl, gT_of 1 (by decide +kernel) rfl, ⟨by decide +kernel, by decide +kernel⟩, by decide +kernel, by decide⟩, gT_of 644 (by decide +kernel) rfl, gT_of 645 (by decide +kernel) rfl⟩
abbrev mX6_saidBy : MT := (yX6_saidBy, cX6_saidBy, 3, (Option.some Jvm.ClassFile.FieldType.int))
theorem moX6_saidBy : MtV mX6_saidBy 2 := ⟨⟨gT_of 650 (by decide +kernel) rfl, gT_of 5 (by decide +kernel) rfl, ⟨by decide +kernel, by decide +kernel⟩, by decide +kernel, by decide⟩, gT_of 649 (by decide +kernel) rfl, gT_sel (n := 4) (List.mem_of_getElem? (i := 32) (by decide +kernel)) rfl⟩
abbrev mX6_piecesTo : MT := (yX6_piecesTo, cX6_piecesTo, 3, (Option.some Jvm.ClassFile.FieldType.int))
theorem moX6_piecesTo : MtV mX6_piecesTo 1 := ⟨⟨gT_of 654 (by decide +kernel) rfl, gT_of 5 (by decide +kernel) rfl, ⟨by decide +kernel, by decide +kernel⟩, by decide +kernel, by decide⟩, gT_of 653 (by decide +kernel) rfl, gT_sel (n := 4) (List.mem_of_getElem? (i := 33) (by decide +kernel)) rfl⟩
abbrev mX6_placeByLaw : MT := (yX6_placeByLaw, cX6_placeByLaw, 3, (Option.some Jvm.ClassFile.FieldType.int))
theorem moX6_placeByLaw : MtV mX6_placeByLaw 2 := ⟨⟨gT_of 661 (by decide +kernel) rfl, gT_of 5 (by decide +kernel) rfl, ⟨by decide +kernel, by decide +kernel⟩, by decide +kernel, by decide⟩, gT_of 660 (by decide +kernel) rfl, gT_sel (n := 4) (List.mem_of_getElem? (i := 34) (by decide +kernel)) rfl⟩
abbrev mX6_outByLaw : MT := (yX6_outByLaw, cX6_outByLaw, 3, (Option.some Jvm.ClassFile.FieldType.int))
theorem moX6_outByLaw : MtV mX6_outByLaw 2 := ⟨⟨gT_of 665 (by decide +kernel) rfl, gT_of 5 (by decide +kernel) rfl, ⟨by decide +kernel, by decide +kernel⟩, by decide +kernel, by decide⟩, gT_of 664 (by decide +kernel) rfl, gT_sel (n := 4) (List.mem_of_getElem? (i := 35) (by decide +kernel)) rfl⟩
abbrev mX6_minutesByLaw : MT := (yX6_minutesByLaw, cX6_minutesByLaw, 3, (Option.some Jvm.ClassFile.FieldType.int))
theorem moX6_minutesByLaw : MtV mX6_minutesByLaw 2 := ⟨⟨gT_of 670 (by decide +kernel) rfl, gT_of 5 (by decide +kernel) rfl, ⟨by decide +kernel, by decide +kernel⟩, by decide +kernel, by decide⟩, gT_of 669 (by decide +kernel) rfl, gT_sel (n := 4) (List.mem_of_getElem? (i := 36) (by decide +kernel)) rfl⟩
abbrev mX9_own : MT := (yX9_own, cX9_own, 8, (Option.some Jvm.ClassFile.FieldType.int))
theorem moX9_own : MtV mX9_own 4 := ⟨⟨gT_of 675 (by decide +kernel) rfl, gT_of 1 (by decide +kernel) rfl, ⟨by decide +kernel, by decide +kernel⟩, by decide +kernel, by decide⟩, gT_of 673 (by decide +kernel) rfl, gT_of 674 (by decide +kernel) rfl⟩
abbrev mX6_dearest : MT := (yX6_dearest, cX6_dearest, 6, (Option.some Jvm.ClassFile.FieldType.int))
theorem moX6_dearest : MtV mX6_dearest 3 := ⟨⟨gT_of 679 (by decide +kernel) rfl, gT_of 5 (by decide +kernel) rfl, ⟨by decide +kernel, by decide +kernel⟩, by decide +kernel, by decide⟩, gT_of 678 (by decide +kernel) rfl, gT_sel (n := 4) (List.mem_of_getElem? (i := 37) (by decide +kernel)) rfl⟩
abbrev mX6_gain : MT := (yX6_gain, cX6_gain, 7, (Option.some Jvm.ClassFile.FieldType.int))
theorem moX6_gain : MtV mX6_gain 4 := ⟨⟨gT_of 683 (by decide +kernel) rfl, gT_of 5 (by decide +kernel) rfl, ⟨by decide +kernel, by decide +kernel⟩, by decide +kernel, by decide⟩, gT_of 682 (by decide +kernel) rfl, gT_sel (n := 4) (List.mem_of_getElem? (i := 38) (by decide +kernel)) rfl⟩
abbrev mX9_led : MT := (yX9_led, cX9_led, 6, (Option.some Jvm.ClassFile.FieldType.int))
theorem moX9_led : MtV mX9_led 4 := ⟨⟨gT_of 689 (by decide +kernel) rfl, gT_of 1 (by decide +kernel) rfl, ⟨by decide +kernel, by decide +kernel⟩, by decide +kernel, by decide⟩, gT_of 687 (by decide +kernel) rfl, gT_of 688 (by decide +kernel) rfl⟩
abbrev mX9_gathered : MT := (yX9_gathered, cX9_gathered, 4, (Option.some (Jvm.ClassFile.FieldType.object "ToldWays$Guides")))
theorem moX9_gathered : MtV mX9_gathered 2 := ⟨⟨gT_of 693 (by decide +kernel) rfl, gT_of 1 (by decide +kernel) rfl, ⟨by decide +kernel, by decide +kernel⟩, by decide +kernel, by decide⟩, gT_of 692 (by decide +kernel) rfl, gT_sel (n := 10) (List.mem_of_getElem? (i := 39) (by decide +kernel)) rfl⟩
abbrev mX9_guidesTo : MT := (yX9_guidesTo, cX9_guidesTo, 2, (Option.some (Jvm.ClassFile.FieldType.object "ToldWays$Guides")))
theorem moX9_guidesTo : MtV mX9_guidesTo 1 := ⟨⟨gT_of 697 (by decide +kernel) rfl, gT_of 1 (by decide +kernel) rfl, ⟨by decide +kernel, by decide +kernel⟩, by decide +kernel, by decide⟩, gT_of 696 (by decide +kernel) rfl, gT_sel (n := 10) (List.mem_of_getElem? (i := 40) (by decide +kernel)) rfl⟩
abbrev mX1_gather : MT := (yX1_gather, cX1_gather, 5, (Option.none : Option Jvm.ClassFile.FieldType))
theorem moX1_gather : MtV mX1_gather 3 := ⟨⟨gT_of 701 (by decide +kernel) rfl, gT_of 6 (by decide +kernel) rfl, ⟨by decide +kernel, by decide +kernel⟩, by decide +kernel, by decide⟩, gT_of 700 (by decide +kernel) rfl, gT_sel (n := 12) (List.mem_of_getElem? (i := 41) (by decide +kernel)) rfl⟩
abbrev mX1_hear : MT := (yX1_hear, cX1_hear, 3, (Option.none : Option Jvm.ClassFile.FieldType))
theorem moX1_hear : MtV mX1_hear 2 := ⟨⟨gT_of 708 (by decide +kernel) rfl, gT_of 6 (by decide +kernel) rfl, ⟨by decide +kernel, by decide +kernel⟩, by decide +kernel, by decide⟩, gT_of 707 (by decide +kernel) rfl, gT_sel (n := 12) (List.mem_of_getElem? (i := 42) (by decide +kernel)) rfl⟩
abbrev mX1_ask : MT := (yX1_ask, cX1_ask, 4, (Option.none : Option Jvm.ClassFile.FieldType))
theorem moX1_ask : MtV mX1_ask 3 := ⟨⟨gT_of 715 (by decide +kernel) rfl, gT_of 6 (by decide +kernel) rfl, ⟨by decide +kernel, by decide +kernel⟩, by decide +kernel, by decide⟩, gT_of 714 (by decide +kernel) rfl, gT_sel (n := 12) (List.mem_of_getElem? (i := 43) (by decide +kernel)) rfl⟩
abbrev mX1_lead : MT := (yX1_lead, cX1_lead, 8, (Option.none : Option Jvm.ClassFile.FieldType))
theorem moX1_lead : MtV mX1_lead 3 := ⟨⟨gT_of 720 (by decide +kernel) rfl, gT_of 6 (by decide +kernel) rfl, ⟨by decide +kernel, by decide +kernel⟩, by decide +kernel, by decide⟩, gT_of 719 (by decide +kernel) rfl, gT_sel (n := 12) (List.mem_of_getElem? (i := 44) (by decide +kernel)) rfl⟩
abbrev mX1_howMany : MT := (yX1_howMany, cX1_howMany, 5, (Option.some Jvm.ClassFile.FieldType.int))
theorem moX1_howMany : MtV mX1_howMany 2 := ⟨⟨gT_of 724 (by decide +kernel) rfl, gT_of 6 (by decide +kernel) rfl, ⟨by decide +kernel, by decide +kernel⟩, by decide +kernel, by decide⟩, gT_of 723 (by decide +kernel) rfl, gT_sel (n := 12) (List.mem_of_getElem? (i := 45) (by decide +kernel)) rfl⟩
abbrev mX1_leads : MT := (yX1_leads, cX1_leads, 4, (Option.some Jvm.ClassFile.FieldType.boolean))
theorem moX1_leads : MtV mX1_leads 3 := ⟨⟨gT_of 728 (by decide +kernel) rfl, gT_of 6 (by decide +kernel) rfl, ⟨by decide +kernel, by decide +kernel⟩, by decide +kernel, by decide⟩, gT_of 727 (by decide +kernel) rfl, gT_sel (n := 12) (List.mem_of_getElem? (i := 46) (by decide +kernel)) rfl⟩
abbrev mX0_next : MT := (yX0_next, cX0_next, 2, (Option.some Jvm.ClassFile.FieldType.int))
theorem moX0_next : MtV mX0_next 1 := ⟨⟨gT_of 732 (by decide +kernel) rfl, gT_of 8 (by decide +kernel) rfl, ⟨by decide +kernel, by decide +kernel⟩, by decide +kernel, by decide⟩, gT_of 731 (by decide +kernel) rfl, gT_sel (n := 1) (List.mem_of_getElem? (i := 47) (by decide +kernel)) rfl⟩
abbrev mX1_leader : MT := (yX1_leader, cX1_leader, 6, (Option.some Jvm.ClassFile.FieldType.int))
theorem moX1_leader : MtV mX1_leader 3 := ⟨⟨gT_of 740 (by decide +kernel) rfl, gT_of 6 (by decide +kernel) rfl, ⟨by decide +kernel, by decide +kernel⟩, by decide +kernel, by decide⟩, gT_of 739 (by decide +kernel) rfl, gT_sel (n := 12) (List.mem_of_getElem? (i := 48) (by decide +kernel)) rfl⟩
abbrev mX9_soonest : MT := (yX9_soonest, cX9_soonest, 3, (Option.some Jvm.ClassFile.FieldType.int))
theorem moX9_soonest : MtV mX9_soonest 2 := ⟨⟨gT_of 744 (by decide +kernel) rfl, gT_of 1 (by decide +kernel) rfl, ⟨by decide +kernel, by decide +kernel⟩, by decide +kernel, by decide⟩, gT_of 742 (by decide +kernel) rfl, gT_of 743 (by decide +kernel) rfl⟩
abbrev mX1_fewestMinutes : MT := (yX1_fewestMinutes, cX1_fewestMinutes, 6, (Option.some Jvm.ClassFile.FieldType.int))
theorem moX1_fewestMinutes : MtV mX1_fewestMinutes 2 := ⟨⟨gT_of 748 (by decide +kernel) rfl, gT_of 6 (by decide +kernel) rfl, ⟨by decide +kernel, by decide +kernel⟩, by decide +kernel, by decide⟩, gT_of 747 (by decide +kernel) rfl, gT_sel (n := 12) (List.mem_of_getElem? (i := 49) (by decide +kernel)) rfl⟩
abbrev mX1_keyBy : MT := (yX1_keyBy, cX1_keyBy, 2, (Option.some Jvm.ClassFile.FieldType.int))
theorem moX1_keyBy : MtV mX1_keyBy 1 := ⟨⟨gT_of 754 (by decide +kernel) rfl, gT_of 6 (by decide +kernel) rfl, ⟨by decide +kernel, by decide +kernel⟩, by decide +kernel, by decide⟩, gT_of 753 (by decide +kernel) rfl, gT_sel (n := 12) (List.mem_of_getElem? (i := 50) (by decide +kernel)) rfl⟩
abbrev mX9_guide : MT := (yX9_guide, cX9_guide, 5, (Option.some Jvm.ClassFile.FieldType.int))
theorem moX9_guide : MtV mX9_guide 3 := ⟨⟨gT_of 758 (by decide +kernel) rfl, gT_of 1 (by decide +kernel) rfl, ⟨by decide +kernel, by decide +kernel⟩, by decide +kernel, by decide⟩, gT_of 756 (by decide +kernel) rfl, gT_of 757 (by decide +kernel) rfl⟩
abbrev mX1_fewestGuides : MT := (yX1_fewestGuides, cX1_fewestGuides, 2, (Option.some Jvm.ClassFile.FieldType.int))
theorem moX1_fewestGuides : MtV mX1_fewestGuides 1 := ⟨⟨gT_of 762 (by decide +kernel) rfl, gT_of 6 (by decide +kernel) rfl, ⟨by decide +kernel, by decide +kernel⟩, by decide +kernel, by decide⟩, gT_of 761 (by decide +kernel) rfl, gT_sel (n := 12) (List.mem_of_getElem? (i := 51) (by decide +kernel)) rfl⟩
abbrev mX1_bestGuide : MT := (yX1_bestGuide, cX1_bestGuide, 7, (Option.some Jvm.ClassFile.FieldType.int))
theorem moX1_bestGuide : MtV mX1_bestGuide 3 := ⟨⟨gT_of 766 (by decide +kernel) rfl, gT_of 6 (by decide +kernel) rfl, ⟨by decide +kernel, by decide +kernel⟩, by decide +kernel, by decide⟩, gT_of 765 (by decide +kernel) rfl, gT_sel (n := 12) (List.mem_of_getElem? (i := 52) (by decide +kernel)) rfl⟩
abbrev mX1_leastGuide : MT := (yX1_leastGuide, cX1_leastGuide, 3, (Option.some Jvm.ClassFile.FieldType.int))
theorem moX1_leastGuide : MtV mX1_leastGuide 1 := ⟨⟨gT_of 770 (by decide +kernel) rfl, gT_of 6 (by decide +kernel) rfl, ⟨by decide +kernel, by decide +kernel⟩, by decide +kernel, by decide⟩, gT_of 769 (by decide +kernel) rfl, gT_sel (n := 12) (List.mem_of_getElem? (i := 53) (by decide +kernel)) rfl⟩
abbrev mX9_lot : MT := (yX9_lot, cX9_lot, 5, (Option.some Jvm.ClassFile.FieldType.int))
theorem moX9_lot : MtV mX9_lot 3 := ⟨⟨gT_of 774 (by decide +kernel) rfl, gT_of 1 (by decide +kernel) rfl, ⟨by decide +kernel, by decide +kernel⟩, by decide +kernel, by decide⟩, gT_of 772 (by decide +kernel) rfl, gT_of 773 (by decide +kernel) rfl⟩
abbrev mX1_lots : MT := (yX1_lots, cX1_lots, 3, (Option.none : Option Jvm.ClassFile.FieldType))
theorem moX1_lots : MtV mX1_lots 2 := ⟨⟨gT_of 778 (by decide +kernel) rfl, gT_of 6 (by decide +kernel) rfl, ⟨by decide +kernel, by decide +kernel⟩, by decide +kernel, by decide⟩, gT_of 777 (by decide +kernel) rfl, gT_sel (n := 12) (List.mem_of_getElem? (i := 54) (by decide +kernel)) rfl⟩
abbrev mX1_castLots : MT := (yX1_castLots, cX1_castLots, 11, (Option.none : Option Jvm.ClassFile.FieldType))
theorem moX1_castLots : MtS mX1_castLots 6 := ⟨⟨gT_of 781 (by decide +kernel) rfl, gT_of 6 (by decide +kernel) rfl, ⟨by decide +kernel, by decide +kernel⟩, by decide +kernel, by decide⟩, gT_of 780 (by decide +kernel) rfl⟩
abbrev mX9_say : MT := (yX9_say, cX9_say, 10, (Option.some Jvm.ClassFile.FieldType.int))
theorem moX9_say : MtV mX9_say 3 := ⟨⟨gT_of 787 (by decide +kernel) rfl, gT_of 1 (by decide +kernel) rfl, ⟨by decide +kernel, by decide +kernel⟩, by decide +kernel, by decide⟩, gT_of 785 (by decide +kernel) rfl, gT_of 786 (by decide +kernel) rfl⟩
abbrev mX9_minutesIfLedTo : MT := (yX9_minutesIfLedTo, cX9_minutesIfLedTo, 6, (Option.some Jvm.ClassFile.FieldType.int))
theorem moX9_minutesIfLedTo : MtV mX9_minutesIfLedTo 4 := ⟨⟨gT_of 791 (by decide +kernel) rfl, gT_of 1 (by decide +kernel) rfl, ⟨by decide +kernel, by decide +kernel⟩, by decide +kernel, by decide⟩, gT_of 790 (by decide +kernel) rfl, gT_sel (n := 10) (List.mem_of_getElem? (i := 55) (by decide +kernel)) rfl⟩
abbrev mX9_learnt : MT := (yX9_learnt, cX9_learnt, 6, (Option.some Jvm.ClassFile.FieldType.int))
theorem moX9_learnt : MtV mX9_learnt 4 := ⟨⟨gT_of 795 (by decide +kernel) rfl, gT_of 1 (by decide +kernel) rfl, ⟨by decide +kernel, by decide +kernel⟩, by decide +kernel, by decide⟩, gT_of 793 (by decide +kernel) rfl, gT_of 794 (by decide +kernel) rfl⟩
abbrev mX5_begin : MT := (yX5_begin, cX5_begin, 4, (Option.none : Option Jvm.ClassFile.FieldType))
theorem moX5_begin : MtV mX5_begin 3 := ⟨⟨gT_of 799 (by decide +kernel) rfl, gT_of 7 (by decide +kernel) rfl, ⟨by decide +kernel, by decide +kernel⟩, by decide +kernel, by decide⟩, gT_of 798 (by decide +kernel) rfl, gT_sel (n := 12) (List.mem_of_getElem? (i := 56) (by decide +kernel)) rfl⟩
abbrev mX5_isInTime : MT := (yX5_isInTime, cX5_isInTime, 2, (Option.some Jvm.ClassFile.FieldType.boolean))
theorem moX5_isInTime : MtV mX5_isInTime 0 := ⟨⟨gT_of 805 (by decide +kernel) rfl, gT_of 7 (by decide +kernel) rfl, ⟨by decide +kernel, by decide +kernel⟩, by decide +kernel, by decide⟩, gT_of 804 (by decide +kernel) rfl, gT_sel (n := 12) (List.mem_of_getElem? (i := 57) (by decide +kernel)) rfl⟩
abbrev mX5_seekOne : MT := (yX5_seekOne, cX5_seekOne, 3, (Option.none : Option Jvm.ClassFile.FieldType))
theorem moX5_seekOne : MtV mX5_seekOne 0 := ⟨⟨gT_of 810 (by decide +kernel) rfl, gT_of 7 (by decide +kernel) rfl, ⟨by decide +kernel, by decide +kernel⟩, by decide +kernel, by decide⟩, gT_of 809 (by decide +kernel) rfl, gT_sel (n := 12) (List.mem_of_getElem? (i := 58) (by decide +kernel)) rfl⟩
abbrev mX5_canBeLearnt : MT := (yX5_canBeLearnt, cX5_canBeLearnt, 4, (Option.some Jvm.ClassFile.FieldType.boolean))
theorem moX5_canBeLearnt : MtV mX5_canBeLearnt 1 := ⟨⟨gT_of 814 (by decide +kernel) rfl, gT_of 7 (by decide +kernel) rfl, ⟨by decide +kernel, by decide +kernel⟩, by decide +kernel, by decide⟩, gT_of 813 (by decide +kernel) rfl, gT_sel (n := 12) (List.mem_of_getElem? (i := 59) (by decide +kernel)) rfl⟩
abbrev mX5_unlearn : MT := (yX5_unlearn, cX5_unlearn, 2, (Option.none : Option Jvm.ClassFile.FieldType))
theorem moX5_unlearn : MtV mX5_unlearn 1 := ⟨⟨gT_of 823 (by decide +kernel) rfl, gT_of 7 (by decide +kernel) rfl, ⟨by decide +kernel, by decide +kernel⟩, by decide +kernel, by decide⟩, gT_of 822 (by decide +kernel) rfl, gT_sel (n := 12) (List.mem_of_getElem? (i := 60) (by decide +kernel)) rfl⟩
abbrev mX5_seekTwo : MT := (yX5_seekTwo, cX5_seekTwo, 3, (Option.none : Option Jvm.ClassFile.FieldType))
theorem moX5_seekTwo : MtV mX5_seekTwo 0 := ⟨⟨gT_of 827 (by decide +kernel) rfl, gT_of 7 (by decide +kernel) rfl, ⟨by decide +kernel, by decide +kernel⟩, by decide +kernel, by decide⟩, gT_of 826 (by decide +kernel) rfl, gT_sel (n := 12) (List.mem_of_getElem? (i := 61) (by decide +kernel)) rfl⟩
abbrev mX5_areBothInTime : MT := (yX5_areBothInTime, cX5_areBothInTime, 6, (Option.some Jvm.ClassFile.FieldType.boolean))
theorem moX5_areBothInTime : MtV mX5_areBothInTime 2 := ⟨⟨gT_of 831 (by decide +kernel) rfl, gT_of 7 (by decide +kernel) rfl, ⟨by decide +kernel, by decide +kernel⟩, by decide +kernel, by decide⟩, gT_of 830 (by decide +kernel) rfl, gT_sel (n := 12) (List.mem_of_getElem? (i := 62) (by decide +kernel)) rfl⟩
abbrev mX5_changesNothing : MT := (yX5_changesNothing, cX5_changesNothing, 3, (Option.some Jvm.ClassFile.FieldType.boolean))
theorem moX5_changesNothing : MtV mX5_changesNothing 1 := ⟨⟨gT_of 835 (by decide +kernel) rfl, gT_of 7 (by decide +kernel) rfl, ⟨by decide +kernel, by decide +kernel⟩, by decide +kernel, by decide⟩, gT_of 834 (by decide +kernel) rfl, gT_sel (n := 12) (List.mem_of_getElem? (i := 63) (by decide +kernel)) rfl⟩
abbrev mX5_apply : MT := (yX5_apply, cX5_apply, 2, (Option.none : Option Jvm.ClassFile.FieldType))
theorem moX5_apply : MtV mX5_apply 1 := ⟨⟨gT_of 839 (by decide +kernel) rfl, gT_of 7 (by decide +kernel) rfl, ⟨by decide +kernel, by decide +kernel⟩, by decide +kernel, by decide⟩, gT_of 838 (by decide +kernel) rfl, gT_sel (n := 12) (List.mem_of_getElem? (i := 64) (by decide +kernel)) rfl⟩
abbrev mX5_answer : MT := (yX5_answer, cX5_answer, 2, (Option.some Jvm.ClassFile.FieldType.int))
theorem moX5_answer : MtV mX5_answer 1 := ⟨⟨gT_of 843 (by decide +kernel) rfl, gT_of 7 (by decide +kernel) rfl, ⟨by decide +kernel, by decide +kernel⟩, by decide +kernel, by decide⟩, gT_of 842 (by decide +kernel) rfl, gT_sel (n := 12) (List.mem_of_getElem? (i := 65) (by decide +kernel)) rfl⟩
abbrev mX9_missing : MT := (yX9_missing, cX9_missing, 3, (Option.some Jvm.ClassFile.FieldType.int))
theorem moX9_missing : MtV mX9_missing 2 := ⟨⟨gT_of 847 (by decide +kernel) rfl, gT_of 1 (by decide +kernel) rfl, ⟨by decide +kernel, by decide +kernel⟩, by decide +kernel, by decide⟩, gT_of 845 (by decide +kernel) rfl, gT_of 846 (by decide +kernel) rfl⟩
abbrev mX9_askedFor : MT := (yX9_askedFor, cX9_askedFor, 6, (Option.some Jvm.ClassFile.FieldType.int))
theorem moX9_askedFor : MtV mX9_askedFor 2 := ⟨⟨gT_of 851 (by decide +kernel) rfl, gT_of 1 (by decide +kernel) rfl, ⟨by decide +kernel, by decide +kernel⟩, by decide +kernel, by decide⟩, gT_of 850 (by decide +kernel) rfl, gT_sel (n := 10) (List.mem_of_getElem? (i := 66) (by decide +kernel)) rfl⟩
abbrev mX9_lack : MT := (yX9_lack, cX9_lack, 3, (Option.some Jvm.ClassFile.FieldType.int))
theorem moX9_lack : MtV mX9_lack 2 := ⟨⟨gT_of 855 (by decide +kernel) rfl, gT_of 1 (by decide +kernel) rfl, ⟨by decide +kernel, by decide +kernel⟩, by decide +kernel, by decide⟩, gT_of 853 (by decide +kernel) rfl, gT_of 854 (by decide +kernel) rfl⟩
abbrev mX3_addMissed : MT := (yX3_addMissed, cX3_addMissed, 3, (Option.some Jvm.ClassFile.FieldType.int))
theorem moX3_addMissed : MtV mX3_addMissed 2 := ⟨⟨gT_of 859 (by decide +kernel) rfl, gT_of 9 (by decide +kernel) rfl, ⟨by decide +kernel, by decide +kernel⟩, by decide +kernel, by decide⟩, gT_of 858 (by decide +kernel) rfl, gT_sel (n := 8) (List.mem_of_getElem? (i := 67) (by decide +kernel)) rfl⟩
abbrev mX9_fits : MT := (yX9_fits, cX9_fits, 2, (Option.some Jvm.ClassFile.FieldType.int))
theorem moX9_fits : MtV mX9_fits 0 := ⟨⟨gT_of 865 (by decide +kernel) rfl, gT_of 1 (by decide +kernel) rfl, ⟨by decide +kernel, by decide +kernel⟩, by decide +kernel, by decide⟩, gT_of 863 (by decide +kernel) rfl, gT_of 864 (by decide +kernel) rfl⟩
abbrev mX9_log : MT := (yX9_log, cX9_log, 5, (Option.some Jvm.ClassFile.FieldType.int))
theorem moX9_log : MtV mX9_log 4 := ⟨⟨gT_of 869 (by decide +kernel) rfl, gT_of 1 (by decide +kernel) rfl, ⟨by decide +kernel, by decide +kernel⟩, by decide +kernel, by decide⟩, gT_of 867 (by decide +kernel) rfl, gT_of 868 (by decide +kernel) rfl⟩
abbrev mX3_addLogged : MT := (yX3_addLogged, cX3_addLogged, 5, (Option.some Jvm.ClassFile.FieldType.int))
theorem moX3_addLogged : MtV mX3_addLogged 4 := ⟨⟨gT_of 873 (by decide +kernel) rfl, gT_of 9 (by decide +kernel) rfl, ⟨by decide +kernel, by decide +kernel⟩, by decide +kernel, by decide⟩, gT_of 872 (by decide +kernel) rfl, gT_sel (n := 8) (List.mem_of_getElem? (i := 68) (by decide +kernel)) rfl⟩
abbrev mX9_clear : MT := (yX9_clear, cX9_clear, 2, (Option.some Jvm.ClassFile.FieldType.int))
theorem moX9_clear : MtV mX9_clear 0 := ⟨⟨gT_of 877 (by decide +kernel) rfl, gT_of 1 (by decide +kernel) rfl, ⟨by decide +kernel, by decide +kernel⟩, by decide +kernel, by decide⟩, gT_of 875 (by decide +kernel) rfl, gT_of 876 (by decide +kernel) rfl⟩
abbrev mX9_judge : MT := (yX9_judge, cX9_judge, 5, (Option.some Jvm.ClassFile.FieldType.int))
theorem moX9_judge : MtV mX9_judge 0 := ⟨⟨gT_of 881 (by decide +kernel) rfl, gT_of 1 (by decide +kernel) rfl, ⟨by decide +kernel, by decide +kernel⟩, by decide +kernel, by decide⟩, gT_of 879 (by decide +kernel) rfl, gT_of 880 (by decide +kernel) rfl⟩
abbrev mX9_drift : MT := (yX9_drift, cX9_drift, 10, (Option.some Jvm.ClassFile.FieldType.int))
theorem moX9_drift : MtV mX9_drift 2 := ⟨⟨gT_of 886 (by decide +kernel) rfl, gT_of 1 (by decide +kernel) rfl, ⟨by decide +kernel, by decide +kernel⟩, by decide +kernel, by decide⟩, gT_of 884 (by decide +kernel) rfl, gT_of 885 (by decide +kernel) rfl⟩
abbrev mX9_seed : MT := (yX9_seed, cX9_seed, 3, (Option.some Jvm.ClassFile.FieldType.int))
theorem moX9_seed : MtV mX9_seed 1 := ⟨⟨gT_of 892 (by decide +kernel) rfl, gT_of 1 (by decide +kernel) rfl, ⟨by decide +kernel, by decide +kernel⟩, by decide +kernel, by decide⟩, gT_of 890 (by decide +kernel) rfl, gT_of 891 (by decide +kernel) rfl⟩
abbrev mX9_keep : MT := (yX9_keep, cX9_keep, 3, (Option.some Jvm.ClassFile.FieldType.int))
theorem moX9_keep : MtV mX9_keep 1 := ⟨⟨gT_of 896 (by decide +kernel) rfl, gT_of 1 (by decide +kernel) rfl, ⟨by decide +kernel, by decide +kernel⟩, by decide +kernel, by decide⟩, gT_of 894 (by decide +kernel) rfl, gT_of 895 (by decide +kernel) rfl⟩
abbrev mX9_goBack : MT := (yX9_goBack, cX9_goBack, 3, (Option.some Jvm.ClassFile.FieldType.int))
theorem moX9_goBack : MtV mX9_goBack 1 := ⟨⟨gT_of 901 (by decide +kernel) rfl, gT_of 1 (by decide +kernel) rfl, ⟨by decide +kernel, by decide +kernel⟩, by decide +kernel, by decide⟩, gT_of 899 (by decide +kernel) rfl, gT_of 900 (by decide +kernel) rfl⟩
abbrev mX10_init : MT := (yX10_init, cX10_init, 1, (Option.none : Option Jvm.ClassFile.FieldType))
theorem moX10_init : MtN mX10_init 0 := ⟨⟨gT_of 906 (by decide +kernel) rfl, gT_of 11 (by decide +kernel) rfl, ⟨by decide +kernel, by decide +kernel⟩, by decide +kernel, by decide⟩, gT_of 905 (by decide +kernel) rfl, rfl, rfl⟩
abbrev mX10_feed : MT := (yX10_feed, cX10_feed, 5, (Option.some Jvm.ClassFile.FieldType.int))
theorem moX10_feed : MtV mX10_feed 2 := ⟨⟨gT_of 1085 (by decide +kernel) rfl, gT_of 11 (by decide +kernel) rfl, ⟨by decide +kernel, by decide +kernel⟩, by decide +kernel, by decide⟩, gT_of 1083 (by decide +kernel) rfl, gT_of 1084 (by decide +kernel) rfl⟩
abbrev mX10_in : MT := (yX10_in, cX10_in, 6, (Option.some Jvm.ClassFile.FieldType.boolean))
theorem moX10_in : MtS mX10_in 3 := ⟨⟨gT_of 1089 (by decide +kernel) rfl, gT_of 11 (by decide +kernel) rfl, ⟨by decide +kernel, by decide +kernel⟩, by decide +kernel, by decide⟩, gT_of 1088 (by decide +kernel) rfl⟩
abbrev mX10_land : MT := (yX10_land, cX10_land, 3, (Option.some Jvm.ClassFile.FieldType.int))
theorem moX10_land : MtV mX10_land 0 := ⟨⟨gT_of 1096 (by decide +kernel) rfl, gT_of 11 (by decide +kernel) rfl, ⟨by decide +kernel, by decide +kernel⟩, by decide +kernel, by decide⟩, gT_of 1094 (by decide +kernel) rfl, gT_of 1095 (by decide +kernel) rfl⟩
abbrev mX10_here : MT := (yX10_here, cX10_here, 1, (Option.some Jvm.ClassFile.FieldType.int))
theorem moX10_here : MtV mX10_here 0 := ⟨⟨gT_of 1100 (by decide +kernel) rfl, gT_of 11 (by decide +kernel) rfl, ⟨by decide +kernel, by decide +kernel⟩, by decide +kernel, by decide⟩, gT_of 1099 (by decide +kernel) rfl, gT_sel (n := 57) (List.mem_of_getElem? (i := 69) (by decide +kernel)) rfl⟩
abbrev mX10_takeClause : MT := (yX10_takeClause, cX10_takeClause, 3, (Option.some Jvm.ClassFile.FieldType.int))
theorem moX10_takeClause : MtV mX10_takeClause 0 := ⟨⟨gT_of 1104 (by decide +kernel) rfl, gT_of 11 (by decide +kernel) rfl, ⟨by decide +kernel, by decide +kernel⟩, by decide +kernel, by decide⟩, gT_of 1103 (by decide +kernel) rfl, gT_sel (n := 57) (List.mem_of_getElem? (i := 70) (by decide +kernel)) rfl⟩
abbrev mX10_readWord : MT := (yX10_readWord, cX10_readWord, 2, (Option.none : Option Jvm.ClassFile.FieldType))
theorem moX10_readWord : MtV mX10_readWord 0 := ⟨⟨gT_of 1108 (by decide +kernel) rfl, gT_of 11 (by decide +kernel) rfl, ⟨by decide +kernel, by decide +kernel⟩, by decide +kernel, by decide⟩, gT_of 1107 (by decide +kernel) rfl, gT_sel (n := 57) (List.mem_of_getElem? (i := 71) (by decide +kernel)) rfl⟩
abbrev mX10_code : MT := (yX10_code, cX10_code, 3, (Option.some Jvm.ClassFile.FieldType.long))
theorem moX10_code : MtS mX10_code 3 := ⟨⟨gT_of 1117 (by decide +kernel) rfl, gT_of 11 (by decide +kernel) rfl, ⟨by decide +kernel, by decide +kernel⟩, by decide +kernel, by decide⟩, gT_of 1116 (by decide +kernel) rfl⟩
abbrev mX10_longer : MT := (yX10_longer, cX10_longer, 4, (Option.some Jvm.ClassFile.FieldType.long))
theorem moX10_longer : MtS mX10_longer 3 := ⟨⟨gT_of 1120 (by decide +kernel) rfl, gT_of 11 (by decide +kernel) rfl, ⟨by decide +kernel, by decide +kernel⟩, by decide +kernel, by decide⟩, gT_of 1119 (by decide +kernel) rfl⟩
abbrev mX10_fails : MT := (yX10_fails, cX10_fails, 3, (Option.some Jvm.ClassFile.FieldType.int))
theorem moX10_fails : MtV mX10_fails 2 := ⟨⟨gT_of 1124 (by decide +kernel) rfl, gT_of 11 (by decide +kernel) rfl, ⟨by decide +kernel, by decide +kernel⟩, by decide +kernel, by decide⟩, gT_of 1123 (by decide +kernel) rfl, gT_sel (n := 57) (List.mem_of_getElem? (i := 72) (by decide +kernel)) rfl⟩
abbrev mX10_takeNumber : MT := (yX10_takeNumber, cX10_takeNumber, 4, (Option.some Jvm.ClassFile.FieldType.int))
theorem moX10_takeNumber : MtV mX10_takeNumber 2 := ⟨⟨gT_of 1128 (by decide +kernel) rfl, gT_of 11 (by decide +kernel) rfl, ⟨by decide +kernel, by decide +kernel⟩, by decide +kernel, by decide⟩, gT_of 1127 (by decide +kernel) rfl, gT_sel (n := 57) (List.mem_of_getElem? (i := 73) (by decide +kernel)) rfl⟩
abbrev mX10_takeWay : MT := (yX10_takeWay, cX10_takeWay, 5, (Option.some Jvm.ClassFile.FieldType.int))
theorem moX10_takeWay : MtV mX10_takeWay 0 := ⟨⟨gT_of 1134 (by decide +kernel) rfl, gT_of 11 (by decide +kernel) rfl, ⟨by decide +kernel, by decide +kernel⟩, by decide +kernel, by decide⟩, gT_of 1133 (by decide +kernel) rfl, gT_sel (n := 57) (List.mem_of_getElem? (i := 74) (by decide +kernel)) rfl⟩
abbrev mX10_into : MT := (yX10_into, cX10_into, 6, (Option.some Jvm.ClassFile.FieldType.int))
theorem moX10_into : MtV mX10_into 4 := ⟨⟨gT_of 1138 (by decide +kernel) rfl, gT_of 11 (by decide +kernel) rfl, ⟨by decide +kernel, by decide +kernel⟩, by decide +kernel, by decide⟩, gT_of 1137 (by decide +kernel) rfl, gT_sel (n := 57) (List.mem_of_getElem? (i := 75) (by decide +kernel)) rfl⟩
abbrev mX10_takePerson : MT := (yX10_takePerson, cX10_takePerson, 3, (Option.some Jvm.ClassFile.FieldType.int))
theorem moX10_takePerson : MtV mX10_takePerson 0 := ⟨⟨gT_of 1142 (by decide +kernel) rfl, gT_of 11 (by decide +kernel) rfl, ⟨by decide +kernel, by decide +kernel⟩, by decide +kernel, by decide⟩, gT_of 1141 (by decide +kernel) rfl, gT_sel (n := 57) (List.mem_of_getElem? (i := 76) (by decide +kernel)) rfl⟩
abbrev mX10_takeHabit : MT := (yX10_takeHabit, cX10_takeHabit, 2, (Option.some Jvm.ClassFile.FieldType.int))
theorem moX10_takeHabit : MtV mX10_takeHabit 0 := ⟨⟨gT_of 1146 (by decide +kernel) rfl, gT_of 11 (by decide +kernel) rfl, ⟨by decide +kernel, by decide +kernel⟩, by decide +kernel, by decide⟩, gT_of 1145 (by decide +kernel) rfl, gT_sel (n := 57) (List.mem_of_getElem? (i := 77) (by decide +kernel)) rfl⟩
abbrev mX10_takeKnows : MT := (yX10_takeKnows, cX10_takeKnows, 3, (Option.some Jvm.ClassFile.FieldType.int))
theorem moX10_takeKnows : MtV mX10_takeKnows 0 := ⟨⟨gT_of 1150 (by decide +kernel) rfl, gT_of 11 (by decide +kernel) rfl, ⟨by decide +kernel, by decide +kernel⟩, by decide +kernel, by decide⟩, gT_of 1149 (by decide +kernel) rfl, gT_sel (n := 57) (List.mem_of_getElem? (i := 78) (by decide +kernel)) rfl⟩
abbrev mX10_has : MT := (yX10_has, cX10_has, 2, (Option.some Jvm.ClassFile.FieldType.boolean))
theorem moX10_has : MtS mX10_has 2 := ⟨⟨gT_of 1153 (by decide +kernel) rfl, gT_of 11 (by decide +kernel) rfl, ⟨by decide +kernel, by decide +kernel⟩, by decide +kernel, by decide⟩, gT_of 1152 (by decide +kernel) rfl⟩
abbrev mX10_fault : MT := (yX10_fault, cX10_fault, 1, (Option.some Jvm.ClassFile.FieldType.int))
theorem moX10_fault : MtV mX10_fault 0 := ⟨⟨gT_of 1157 (by decide +kernel) rfl, gT_of 11 (by decide +kernel) rfl, ⟨by decide +kernel, by decide +kernel⟩, by decide +kernel, by decide⟩, gT_of 1155 (by decide +kernel) rfl, gT_of 1156 (by decide +kernel) rfl⟩
abbrev mX10_told : MT := (yX10_told, cX10_told, 2, (Option.some Jvm.ClassFile.FieldType.int))
theorem moX10_told : MtV mX10_told 1 := ⟨⟨gT_of 1161 (by decide +kernel) rfl, gT_of 11 (by decide +kernel) rfl, ⟨by decide +kernel, by decide +kernel⟩, by decide +kernel, by decide⟩, gT_of 1159 (by decide +kernel) rfl, gT_of 1160 (by decide +kernel) rfl⟩
abbrev mX10_way : MT := (yX10_way, cX10_way, 3, (Option.some Jvm.ClassFile.FieldType.int))
theorem moX10_way : MtV mX10_way 2 := ⟨⟨gT_of 1165 (by decide +kernel) rfl, gT_of 11 (by decide +kernel) rfl, ⟨by decide +kernel, by decide +kernel⟩, by decide +kernel, by decide⟩, gT_of 1163 (by decide +kernel) rfl, gT_of 1164 (by decide +kernel) rfl⟩
abbrev mX10_isWay : MT := (yX10_isWay, cX10_isWay, 2, (Option.some Jvm.ClassFile.FieldType.boolean))
theorem moX10_isWay : MtV mX10_isWay 1 := ⟨⟨gT_of 1169 (by decide +kernel) rfl, gT_of 11 (by decide +kernel) rfl, ⟨by decide +kernel, by decide +kernel⟩, by decide +kernel, by decide⟩, gT_of 1168 (by decide +kernel) rfl, gT_sel (n := 57) (List.mem_of_getElem? (i := 79) (by decide +kernel)) rfl⟩
abbrev mX10_person : MT := (yX10_person, cX10_person, 3, (Option.some Jvm.ClassFile.FieldType.int))
theorem moX10_person : MtV mX10_person 2 := ⟨⟨gT_of 1174 (by decide +kernel) rfl, gT_of 11 (by decide +kernel) rfl, ⟨by decide +kernel, by decide +kernel⟩, by decide +kernel, by decide⟩, gT_of 1172 (by decide +kernel) rfl, gT_of 1173 (by decide +kernel) rfl⟩
abbrev mX10_isPerson : MT := (yX10_isPerson, cX10_isPerson, 2, (Option.some Jvm.ClassFile.FieldType.boolean))
theorem moX10_isPerson : MtV mX10_isPerson 1 := ⟨⟨gT_of 1178 (by decide +kernel) rfl, gT_of 11 (by decide +kernel) rfl, ⟨by decide +kernel, by decide +kernel⟩, by decide +kernel, by decide⟩, gT_of 1177 (by decide +kernel) rfl, gT_sel (n := 57) (List.mem_of_getElem? (i := 80) (by decide +kernel)) rfl⟩
abbrev mX10_law : MT := (yX10_law, cX10_law, 3, (Option.some Jvm.ClassFile.FieldType.int))
theorem moX10_law : MtV mX10_law 1 := ⟨⟨gT_of 1182 (by decide +kernel) rfl, gT_of 11 (by decide +kernel) rfl, ⟨by decide +kernel, by decide +kernel⟩, by decide +kernel, by decide⟩, gT_of 1180 (by decide +kernel) rfl, gT_of 1181 (by decide +kernel) rfl⟩
abbrev mX10_learn : MT := (yX10_learn, cX10_learn, 5, (Option.some Jvm.ClassFile.FieldType.int))
theorem moX10_learn : MtV mX10_learn 3 := ⟨⟨gT_of 1187 (by decide +kernel) rfl, gT_of 11 (by decide +kernel) rfl, ⟨by decide +kernel, by decide +kernel⟩, by decide +kernel, by decide⟩, gT_of 1185 (by decide +kernel) rfl, gT_of 1186 (by decide +kernel) rfl⟩
abbrev mX10_habit : MT := (yX10_habit, cX10_habit, 4, (Option.some Jvm.ClassFile.FieldType.int))
theorem moX10_habit : MtV mX10_habit 2 := ⟨⟨gT_of 1191 (by decide +kernel) rfl, gT_of 11 (by decide +kernel) rfl, ⟨by decide +kernel, by decide +kernel⟩, by decide +kernel, by decide⟩, gT_of 1189 (by decide +kernel) rfl, gT_of 1190 (by decide +kernel) rfl⟩
abbrev mX10_far : MT := (yX10_far, cX10_far, 3, (Option.some Jvm.ClassFile.FieldType.int))
theorem moX10_far : MtV mX10_far 2 := ⟨⟨gT_of 1195 (by decide +kernel) rfl, gT_of 11 (by decide +kernel) rfl, ⟨by decide +kernel, by decide +kernel⟩, by decide +kernel, by decide⟩, gT_of 1193 (by decide +kernel) rfl, gT_of 1194 (by decide +kernel) rfl⟩
abbrev mX10_isPlace : MT := (yX10_isPlace, cX10_isPlace, 2, (Option.some Jvm.ClassFile.FieldType.boolean))
theorem moX10_isPlace : MtV mX10_isPlace 1 := ⟨⟨gT_of 1199 (by decide +kernel) rfl, gT_of 11 (by decide +kernel) rfl, ⟨by decide +kernel, by decide +kernel⟩, by decide +kernel, by decide⟩, gT_of 1198 (by decide +kernel) rfl, gT_sel (n := 57) (List.mem_of_getElem? (i := 81) (by decide +kernel)) rfl⟩
abbrev mX10_findNeeds : MT := (yX10_findNeeds, cX10_findNeeds, 7, (Option.none : Option Jvm.ClassFile.FieldType))
theorem moX10_findNeeds : MtV mX10_findNeeds 2 := ⟨⟨gT_of 1203 (by decide +kernel) rfl, gT_of 11 (by decide +kernel) rfl, ⟨by decide +kernel, by decide +kernel⟩, by decide +kernel, by decide⟩, gT_of 1202 (by decide +kernel) rfl, gT_sel (n := 57) (List.mem_of_getElem? (i := 82) (by decide +kernel)) rfl⟩
abbrev mX10_route : MT := (yX10_route, cX10_route, 6, (Option.some Jvm.ClassFile.FieldType.int))
theorem moX10_route : MtV mX10_route 4 := ⟨⟨gT_of 1208 (by decide +kernel) rfl, gT_of 11 (by decide +kernel) rfl, ⟨by decide +kernel, by decide +kernel⟩, by decide +kernel, by decide⟩, gT_of 1206 (by decide +kernel) rfl, gT_of 1207 (by decide +kernel) rfl⟩
abbrev mX10_isAsked : MT := (yX10_isAsked, cX10_isAsked, 4, (Option.some Jvm.ClassFile.FieldType.boolean))
theorem moX10_isAsked : MtV mX10_isAsked 3 := ⟨⟨gT_of 1212 (by decide +kernel) rfl, gT_of 11 (by decide +kernel) rfl, ⟨by decide +kernel, by decide +kernel⟩, by decide +kernel, by decide⟩, gT_of 1211 (by decide +kernel) rfl, gT_sel (n := 57) (List.mem_of_getElem? (i := 83) (by decide +kernel)) rfl⟩
abbrev mX10_findRoute : MT := (yX10_findRoute, cX10_findRoute, 11, (Option.some Jvm.ClassFile.FieldType.int))
theorem moX10_findRoute : MtV mX10_findRoute 3 := ⟨⟨gT_of 1216 (by decide +kernel) rfl, gT_of 11 (by decide +kernel) rfl, ⟨by decide +kernel, by decide +kernel⟩, by decide +kernel, by decide⟩, gT_of 1215 (by decide +kernel) rfl, gT_sel (n := 57) (List.mem_of_getElem? (i := 84) (by decide +kernel)) rfl⟩
abbrev mX10_says : MT := (yX10_says, cX10_says, 6, (Option.some Jvm.ClassFile.FieldType.int))
theorem moX10_says : MtV mX10_says 4 := ⟨⟨gT_of 1220 (by decide +kernel) rfl, gT_of 11 (by decide +kernel) rfl, ⟨by decide +kernel, by decide +kernel⟩, by decide +kernel, by decide⟩, gT_of 1218 (by decide +kernel) rfl, gT_of 1219 (by decide +kernel) rfl⟩
abbrev mX10_saidBy : MT := (yX10_saidBy, cX10_saidBy, 7, (Option.some Jvm.ClassFile.FieldType.int))
theorem moX10_saidBy : MtV mX10_saidBy 3 := ⟨⟨gT_of 1224 (by decide +kernel) rfl, gT_of 11 (by decide +kernel) rfl, ⟨by decide +kernel, by decide +kernel⟩, by decide +kernel, by decide⟩, gT_of 1223 (by decide +kernel) rfl, gT_sel (n := 57) (List.mem_of_getElem? (i := 85) (by decide +kernel)) rfl⟩
abbrev mX10_endOf : MT := (yX10_endOf, cX10_endOf, 3, (Option.some Jvm.ClassFile.FieldType.int))
theorem moX10_endOf : MtV mX10_endOf 2 := ⟨⟨gT_of 1228 (by decide +kernel) rfl, gT_of 11 (by decide +kernel) rfl, ⟨by decide +kernel, by decide +kernel⟩, by decide +kernel, by decide⟩, gT_of 1227 (by decide +kernel) rfl, gT_sel (n := 57) (List.mem_of_getElem? (i := 86) (by decide +kernel)) rfl⟩
abbrev mX10_longOf : MT := (yX10_longOf, cX10_longOf, 2, (Option.some Jvm.ClassFile.FieldType.int))
theorem moX10_longOf : MtV mX10_longOf 1 := ⟨⟨gT_of 1232 (by decide +kernel) rfl, gT_of 11 (by decide +kernel) rfl, ⟨by decide +kernel, by decide +kernel⟩, by decide +kernel, by decide⟩, gT_of 1231 (by decide +kernel) rfl, gT_sel (n := 57) (List.mem_of_getElem? (i := 87) (by decide +kernel)) rfl⟩
abbrev mX10_stands : MT := (yX10_stands, cX10_stands, 3, (Option.some Jvm.ClassFile.FieldType.int))
theorem moX10_stands : MtV mX10_stands 2 := ⟨⟨gT_of 1236 (by decide +kernel) rfl, gT_of 11 (by decide +kernel) rfl, ⟨by decide +kernel, by decide +kernel⟩, by decide +kernel, by decide⟩, gT_of 1235 (by decide +kernel) rfl, gT_sel (n := 57) (List.mem_of_getElem? (i := 88) (by decide +kernel)) rfl⟩
abbrev mX10_outOf : MT := (yX10_outOf, cX10_outOf, 2, (Option.some Jvm.ClassFile.FieldType.int))
theorem moX10_outOf : MtV mX10_outOf 1 := ⟨⟨gT_of 1240 (by decide +kernel) rfl, gT_of 11 (by decide +kernel) rfl, ⟨by decide +kernel, by decide +kernel⟩, by decide +kernel, by decide⟩, gT_of 1239 (by decide +kernel) rfl, gT_sel (n := 57) (List.mem_of_getElem? (i := 89) (by decide +kernel)) rfl⟩
abbrev mX10_walked : MT := (yX10_walked, cX10_walked, 2, (Option.some Jvm.ClassFile.FieldType.int))
theorem moX10_walked : MtV mX10_walked 1 := ⟨⟨gT_of 1244 (by decide +kernel) rfl, gT_of 11 (by decide +kernel) rfl, ⟨by decide +kernel, by decide +kernel⟩, by decide +kernel, by decide⟩, gT_of 1243 (by decide +kernel) rfl, gT_sel (n := 57) (List.mem_of_getElem? (i := 90) (by decide +kernel)) rfl⟩
abbrev mX10_own : MT := (yX10_own, cX10_own, 6, (Option.some Jvm.ClassFile.FieldType.int))
theorem moX10_own : MtV mX10_own 4 := ⟨⟨gT_of 1248 (by decide +kernel) rfl, gT_of 11 (by decide +kernel) rfl, ⟨by decide +kernel, by decide +kernel⟩, by decide +kernel, by decide⟩, gT_of 1246 (by decide +kernel) rfl, gT_of 1247 (by decide +kernel) rfl⟩
abbrev mX10_ownBy : MT := (yX10_ownBy, cX10_ownBy, 8, (Option.some Jvm.ClassFile.FieldType.int))
theorem moX10_ownBy : MtV mX10_ownBy 3 := ⟨⟨gT_of 1252 (by decide +kernel) rfl, gT_of 11 (by decide +kernel) rfl, ⟨by decide +kernel, by decide +kernel⟩, by decide +kernel, by decide⟩, gT_of 1251 (by decide +kernel) rfl, gT_sel (n := 57) (List.mem_of_getElem? (i := 91) (by decide +kernel)) rfl⟩
abbrev mX10_gainOf : MT := (yX10_gainOf, cX10_gainOf, 6, (Option.some Jvm.ClassFile.FieldType.int))
theorem moX10_gainOf : MtV mX10_gainOf 3 := ⟨⟨gT_of 1256 (by decide +kernel) rfl, gT_of 11 (by decide +kernel) rfl, ⟨by decide +kernel, by decide +kernel⟩, by decide +kernel, by decide⟩, gT_of 1255 (by decide +kernel) rfl, gT_sel (n := 57) (List.mem_of_getElem? (i := 92) (by decide +kernel)) rfl⟩
abbrev mX10_led : MT := (yX10_led, cX10_led, 12, (Option.some Jvm.ClassFile.FieldType.int))
theorem moX10_led : MtV mX10_led 4 := ⟨⟨gT_of 1260 (by decide +kernel) rfl, gT_of 11 (by decide +kernel) rfl, ⟨by decide +kernel, by decide +kernel⟩, by decide +kernel, by decide⟩, gT_of 1258 (by decide +kernel) rfl, gT_of 1259 (by decide +kernel) rfl⟩
abbrev mX10_findEnds : MT := (yX10_findEnds, cX10_findEnds, 5, (Option.none : Option Jvm.ClassFile.FieldType))
theorem moX10_findEnds : MtV mX10_findEnds 2 := ⟨⟨gT_of 1264 (by decide +kernel) rfl, gT_of 11 (by decide +kernel) rfl, ⟨by decide +kernel, by decide +kernel⟩, by decide +kernel, by decide⟩, gT_of 1263 (by decide +kernel) rfl, gT_sel (n := 57) (List.mem_of_getElem? (i := 93) (by decide +kernel)) rfl⟩
abbrev mX10_leads : MT := (yX10_leads, cX10_leads, 4, (Option.some Jvm.ClassFile.FieldType.boolean))
theorem moX10_leads : MtV mX10_leads 3 := ⟨⟨gT_of 1268 (by decide +kernel) rfl, gT_of 11 (by decide +kernel) rfl, ⟨by decide +kernel, by decide +kernel⟩, by decide +kernel, by decide⟩, gT_of 1267 (by decide +kernel) rfl, gT_sel (n := 57) (List.mem_of_getElem? (i := 94) (by decide +kernel)) rfl⟩
abbrev mX10_soonest : MT := (yX10_soonest, cX10_soonest, 3, (Option.some Jvm.ClassFile.FieldType.int))
theorem moX10_soonest : MtV mX10_soonest 2 := ⟨⟨gT_of 1272 (by decide +kernel) rfl, gT_of 11 (by decide +kernel) rfl, ⟨by decide +kernel, by decide +kernel⟩, by decide +kernel, by decide⟩, gT_of 1270 (by decide +kernel) rfl, gT_of 1271 (by decide +kernel) rfl⟩
abbrev mX10_soonestOf : MT := (yX10_soonestOf, cX10_soonestOf, 3, (Option.some Jvm.ClassFile.FieldType.int))
theorem moX10_soonestOf : MtV mX10_soonestOf 2 := ⟨⟨gT_of 1276 (by decide +kernel) rfl, gT_of 11 (by decide +kernel) rfl, ⟨by decide +kernel, by decide +kernel⟩, by decide +kernel, by decide⟩, gT_of 1275 (by decide +kernel) rfl, gT_sel (n := 57) (List.mem_of_getElem? (i := 95) (by decide +kernel)) rfl⟩
abbrev mX10_findSoon : MT := (yX10_findSoon, cX10_findSoon, 7, (Option.none : Option Jvm.ClassFile.FieldType))
theorem moX10_findSoon : MtV mX10_findSoon 1 := ⟨⟨gT_of 1280 (by decide +kernel) rfl, gT_of 11 (by decide +kernel) rfl, ⟨by decide +kernel, by decide +kernel⟩, by decide +kernel, by decide⟩, gT_of 1279 (by decide +kernel) rfl, gT_sel (n := 57) (List.mem_of_getElem? (i := 96) (by decide +kernel)) rfl⟩
abbrev mX10_guide : MT := (yX10_guide, cX10_guide, 9, (Option.some Jvm.ClassFile.FieldType.int))
theorem moX10_guide : MtV mX10_guide 3 := ⟨⟨gT_of 1284 (by decide +kernel) rfl, gT_of 11 (by decide +kernel) rfl, ⟨by decide +kernel, by decide +kernel⟩, by decide +kernel, by decide⟩, gT_of 1282 (by decide +kernel) rfl, gT_of 1283 (by decide +kernel) rfl⟩
abbrev mX10_lot : MT := (yX10_lot, cX10_lot, 17, (Option.some Jvm.ClassFile.FieldType.int))
theorem moX10_lot : MtV mX10_lot 3 := ⟨⟨gT_of 1288 (by decide +kernel) rfl, gT_of 11 (by decide +kernel) rfl, ⟨by decide +kernel, by decide +kernel⟩, by decide +kernel, by decide⟩, gT_of 1286 (by decide +kernel) rfl, gT_of 1287 (by decide +kernel) rfl⟩
abbrev mX10_addLot : MT := (yX10_addLot, cX10_addLot, 6, (Option.none : Option Jvm.ClassFile.FieldType))
theorem moX10_addLot : MtV mX10_addLot 4 := ⟨⟨gT_of 1294 (by decide +kernel) rfl, gT_of 11 (by decide +kernel) rfl, ⟨by decide +kernel, by decide +kernel⟩, by decide +kernel, by decide⟩, gT_of 1293 (by decide +kernel) rfl, gT_sel (n := 57) (List.mem_of_getElem? (i := 97) (by decide +kernel)) rfl⟩
abbrev mX10_countLeads : MT := (yX10_countLeads, cX10_countLeads, 5, (Option.some Jvm.ClassFile.FieldType.int))
theorem moX10_countLeads : MtV mX10_countLeads 2 := ⟨⟨gT_of 1298 (by decide +kernel) rfl, gT_of 11 (by decide +kernel) rfl, ⟨by decide +kernel, by decide +kernel⟩, by decide +kernel, by decide⟩, gT_of 1297 (by decide +kernel) rfl, gT_sel (n := 57) (List.mem_of_getElem? (i := 98) (by decide +kernel)) rfl⟩
abbrev mX10_say : MT := (yX10_say, cX10_say, 9, (Option.some Jvm.ClassFile.FieldType.int))
theorem moX10_say : MtV mX10_say 3 := ⟨⟨gT_of 1303 (by decide +kernel) rfl, gT_of 11 (by decide +kernel) rfl, ⟨by decide +kernel, by decide +kernel⟩, by decide +kernel, by decide⟩, gT_of 1301 (by decide +kernel) rfl, gT_of 1302 (by decide +kernel) rfl⟩
abbrev mX10_learnt : MT := (yX10_learnt, cX10_learnt, 7, (Option.some Jvm.ClassFile.FieldType.int))
theorem moX10_learnt : MtV mX10_learnt 4 := ⟨⟨gT_of 1307 (by decide +kernel) rfl, gT_of 11 (by decide +kernel) rfl, ⟨by decide +kernel, by decide +kernel⟩, by decide +kernel, by decide⟩, gT_of 1305 (by decide +kernel) rfl, gT_of 1306 (by decide +kernel) rfl⟩
abbrev mX10_findLearnt : MT := (yX10_findLearnt, cX10_findLearnt, 9, (Option.some Jvm.ClassFile.FieldType.int))
theorem moX10_findLearnt : MtV mX10_findLearnt 3 := ⟨⟨gT_of 1313 (by decide +kernel) rfl, gT_of 11 (by decide +kernel) rfl, ⟨by decide +kernel, by decide +kernel⟩, by decide +kernel, by decide⟩, gT_of 1312 (by decide +kernel) rfl, gT_sel (n := 57) (List.mem_of_getElem? (i := 99) (by decide +kernel)) rfl⟩
abbrev mX10_isSoon : MT := (yX10_isSoon, cX10_isSoon, 4, (Option.some Jvm.ClassFile.FieldType.boolean))
theorem moX10_isSoon : MtV mX10_isSoon 3 := ⟨⟨gT_of 1317 (by decide +kernel) rfl, gT_of 11 (by decide +kernel) rfl, ⟨by decide +kernel, by decide +kernel⟩, by decide +kernel, by decide⟩, gT_of 1316 (by decide +kernel) rfl, gT_sel (n := 57) (List.mem_of_getElem? (i := 100) (by decide +kernel)) rfl⟩
abbrev mX10_isOpen : MT := (yX10_isOpen, cX10_isOpen, 2, (Option.some Jvm.ClassFile.FieldType.boolean))
theorem moX10_isOpen : MtV mX10_isOpen 1 := ⟨⟨gT_of 1321 (by decide +kernel) rfl, gT_of 11 (by decide +kernel) rfl, ⟨by decide +kernel, by decide +kernel⟩, by decide +kernel, by decide⟩, gT_of 1320 (by decide +kernel) rfl, gT_sel (n := 57) (List.mem_of_getElem? (i := 101) (by decide +kernel)) rfl⟩
abbrev mX10_teach : MT := (yX10_teach, cX10_teach, 4, (Option.none : Option Jvm.ClassFile.FieldType))
theorem moX10_teach : MtV mX10_teach 2 := ⟨⟨gT_of 1325 (by decide +kernel) rfl, gT_of 11 (by decide +kernel) rfl, ⟨by decide +kernel, by decide +kernel⟩, by decide +kernel, by decide⟩, gT_of 1324 (by decide +kernel) rfl, gT_sel (n := 57) (List.mem_of_getElem? (i := 102) (by decide +kernel)) rfl⟩
abbrev mX10_missing : MT := (yX10_missing, cX10_missing, 3, (Option.some Jvm.ClassFile.FieldType.int))
theorem moX10_missing : MtV mX10_missing 2 := ⟨⟨gT_of 1329 (by decide +kernel) rfl, gT_of 11 (by decide +kernel) rfl, ⟨by decide +kernel, by decide +kernel⟩, by decide +kernel, by decide⟩, gT_of 1327 (by decide +kernel) rfl, gT_of 1328 (by decide +kernel) rfl⟩
abbrev mX10_missingOf : MT := (yX10_missingOf, cX10_missingOf, 6, (Option.some Jvm.ClassFile.FieldType.int))
theorem moX10_missingOf : MtV mX10_missingOf 2 := ⟨⟨gT_of 1333 (by decide +kernel) rfl, gT_of 11 (by decide +kernel) rfl, ⟨by decide +kernel, by decide +kernel⟩, by decide +kernel, by decide⟩, gT_of 1332 (by decide +kernel) rfl, gT_sel (n := 57) (List.mem_of_getElem? (i := 103) (by decide +kernel)) rfl⟩
abbrev mX10_lack : MT := (yX10_lack, cX10_lack, 3, (Option.some Jvm.ClassFile.FieldType.int))
theorem moX10_lack : MtV mX10_lack 2 := ⟨⟨gT_of 1337 (by decide +kernel) rfl, gT_of 11 (by decide +kernel) rfl, ⟨by decide +kernel, by decide +kernel⟩, by decide +kernel, by decide⟩, gT_of 1335 (by decide +kernel) rfl, gT_of 1336 (by decide +kernel) rfl⟩
abbrev mX10_fits : MT := (yX10_fits, cX10_fits, 3, (Option.some Jvm.ClassFile.FieldType.int))
theorem moX10_fits : MtV mX10_fits 0 := ⟨⟨gT_of 1341 (by decide +kernel) rfl, gT_of 11 (by decide +kernel) rfl, ⟨by decide +kernel, by decide +kernel⟩, by decide +kernel, by decide⟩, gT_of 1339 (by decide +kernel) rfl, gT_of 1340 (by decide +kernel) rfl⟩
abbrev mX10_log : MT := (yX10_log, cX10_log, 5, (Option.some Jvm.ClassFile.FieldType.int))
theorem moX10_log : MtV mX10_log 4 := ⟨⟨gT_of 1345 (by decide +kernel) rfl, gT_of 11 (by decide +kernel) rfl, ⟨by decide +kernel, by decide +kernel⟩, by decide +kernel, by decide⟩, gT_of 1343 (by decide +kernel) rfl, gT_of 1344 (by decide +kernel) rfl⟩
abbrev mX10_clear : MT := (yX10_clear, cX10_clear, 2, (Option.some Jvm.ClassFile.FieldType.int))
theorem moX10_clear : MtV mX10_clear 0 := ⟨⟨gT_of 1350 (by decide +kernel) rfl, gT_of 11 (by decide +kernel) rfl, ⟨by decide +kernel, by decide +kernel⟩, by decide +kernel, by decide⟩, gT_of 1348 (by decide +kernel) rfl, gT_of 1349 (by decide +kernel) rfl⟩
abbrev mX10_judge : MT := (yX10_judge, cX10_judge, 2, (Option.some Jvm.ClassFile.FieldType.int))
theorem moX10_judge : MtV mX10_judge 0 := ⟨⟨gT_of 1354 (by decide +kernel) rfl, gT_of 11 (by decide +kernel) rfl, ⟨by decide +kernel, by decide +kernel⟩, by decide +kernel, by decide⟩, gT_of 1352 (by decide +kernel) rfl, gT_of 1353 (by decide +kernel) rfl⟩
abbrev mX10_mayBe : MT := (yX10_mayBe, cX10_mayBe, 4, (Option.some Jvm.ClassFile.FieldType.boolean))
theorem moX10_mayBe : MtV mX10_mayBe 1 := ⟨⟨gT_of 1358 (by decide +kernel) rfl, gT_of 11 (by decide +kernel) rfl, ⟨by decide +kernel, by decide +kernel⟩, by decide +kernel, by decide⟩, gT_of 1357 (by decide +kernel) rfl, gT_sel (n := 57) (List.mem_of_getElem? (i := 104) (by decide +kernel)) rfl⟩
abbrev mX10_drift : MT := (yX10_drift, cX10_drift, 7, (Option.some Jvm.ClassFile.FieldType.int))
theorem moX10_drift : MtV mX10_drift 2 := ⟨⟨gT_of 1362 (by decide +kernel) rfl, gT_of 11 (by decide +kernel) rfl, ⟨by decide +kernel, by decide +kernel⟩, by decide +kernel, by decide⟩, gT_of 1360 (by decide +kernel) rfl, gT_of 1361 (by decide +kernel) rfl⟩
abbrev mX10_strangerBy : MT := (yX10_strangerBy, cX10_strangerBy, 8, (Option.some Jvm.ClassFile.FieldType.int))
theorem moX10_strangerBy : MtV mX10_strangerBy 0 := ⟨⟨gT_of 1368 (by decide +kernel) rfl, gT_of 11 (by decide +kernel) rfl, ⟨by decide +kernel, by decide +kernel⟩, by decide +kernel, by decide⟩, gT_of 1367 (by decide +kernel) rfl, gT_sel (n := 57) (List.mem_of_getElem? (i := 105) (by decide +kernel)) rfl⟩
abbrev mX10_draw : MT := (yX10_draw, cX10_draw, 2, (Option.some Jvm.ClassFile.FieldType.int))
theorem moX10_draw : MtV mX10_draw 1 := ⟨⟨gT_of 1372 (by decide +kernel) rfl, gT_of 11 (by decide +kernel) rfl, ⟨by decide +kernel, by decide +kernel⟩, by decide +kernel, by decide⟩, gT_of 1371 (by decide +kernel) rfl, gT_sel (n := 57) (List.mem_of_getElem? (i := 106) (by decide +kernel)) rfl⟩
abbrev mX10_seed : MT := (yX10_seed, cX10_seed, 3, (Option.some Jvm.ClassFile.FieldType.int))
theorem moX10_seed : MtV mX10_seed 1 := ⟨⟨gT_of 1380 (by decide +kernel) rfl, gT_of 11 (by decide +kernel) rfl, ⟨by decide +kernel, by decide +kernel⟩, by decide +kernel, by decide⟩, gT_of 1378 (by decide +kernel) rfl, gT_of 1379 (by decide +kernel) rfl⟩
abbrev mX10_keep : MT := (yX10_keep, cX10_keep, 4, (Option.some Jvm.ClassFile.FieldType.int))
theorem moX10_keep : MtV mX10_keep 1 := ⟨⟨gT_of 1384 (by decide +kernel) rfl, gT_of 11 (by decide +kernel) rfl, ⟨by decide +kernel, by decide +kernel⟩, by decide +kernel, by decide⟩, gT_of 1382 (by decide +kernel) rfl, gT_of 1383 (by decide +kernel) rfl⟩
abbrev mX10_goBack : MT := (yX10_goBack, cX10_goBack, 4, (Option.some Jvm.ClassFile.FieldType.int))
theorem moX10_goBack : MtV mX10_goBack 1 := ⟨⟨gT_of 1388 (by decide +kernel) rfl, gT_of 11 (by decide +kernel) rfl, ⟨by decide +kernel, by decide +kernel⟩, by decide +kernel, by decide⟩, gT_of 1386 (by decide +kernel) rfl, gT_of 1387 (by decide +kernel) rfl⟩
theorem mlL_9 : Ml RL 9 yX9_init := Or.inl (gT_of 21 (by decide +kernel) rfl)
theorem mwX9_3 : Cond.methodLink RX9 3 ⟨"java/lang/Object", "<init>", "()V"⟩ ∈ gT := gT_of 24 (by decide +kernel) rfl
theorem mlX9_11 : Ml RX9 11 yX8_init := Or.inr ⟨"ToldWays", nT_of 29 (by decide +kernel) rfl⟩
theorem mwX8_3 : Cond.methodLink RX8 3 ⟨"java/lang/Object", "<init>", "()V"⟩ ∈ gT := gT_of 32 (by decide +kernel) rfl
theorem flX8_9 : Fl RX8 9 8 0 := ⟨RX8, TX8, 2, tyX8, rfl, by decide, hinX8, tyX8_ok, nmX8, Or.inl (gT_of 33 (by decide +kernel) rfl), rfl⟩
theorem flX7_172 : Fl RX7 172 8 0 := ⟨RX8, TX8, 2, tyX8, rfl, by decide, hinX8, tyX8_ok, nmX8, Or.inr ⟨"ToldWays", nT_of 34 (by decide +kernel) rfl⟩, rfl⟩
theorem flX8_15 : Fl RX8 15 8 1 := ⟨RX8, TX8, 2, tyX8, rfl, by decide, hinX8, tyX8_ok, nmX8, Or.inl (gT_of 35 (by decide +kernel) rfl), rfl⟩
theorem flX9_77 : Fl RX9 77 8 1 := ⟨RX8, TX8, 2, tyX8, rfl, by decide, hinX8, tyX8_ok, nmX8, Or.inr ⟨"ToldWays", nT_of 36 (by decide +kernel) rfl⟩, rfl⟩
theorem flX7_169 : Fl RX7 169 8 1 := ⟨RX8, TX8, 2, tyX8, rfl, by decide, hinX8, tyX8_ok, nmX8, Or.inr ⟨"ToldWays", nT_of 37 (by decide +kernel) rfl⟩, rfl⟩
theorem mlX9_18 : Ml RX9 18 yX7_init := Or.inr ⟨"ToldWays", nT_of 46 (by decide +kernel) rfl⟩
theorem mwX7_3 : Cond.methodLink RX7 3 ⟨"java/lang/Object", "<init>", "()V"⟩ ∈ gT := gT_of 49 (by decide +kernel) rfl
theorem mlX7_11 : Ml RX7 11 yX4_init := Or.inr ⟨"ToldWays", nT_of 52 (by decide +kernel) rfl⟩
theorem mwX4_3 : Cond.methodLink RX4 3 ⟨"java/lang/Object", "<init>", "()V"⟩ ∈ gT := gT_of 55 (by decide +kernel) rfl
theorem flX4_9 : Fl RX4 9 4 0 := ⟨RX4, TX4, 11, tyX4, rfl, by decide, hinX4, tyX4_ok, nmX4, Or.inl (gT_of 56 (by decide +kernel) rfl), rfl⟩
theorem flX6_60 : Fl RX6 60 4 0 := ⟨RX4, TX4, 11, tyX4, rfl, by decide, hinX4, tyX4_ok, nmX4, Or.inr ⟨"ToldWays", nT_of 57 (by decide +kernel) rfl⟩, rfl⟩
theorem flX7_84 : Fl RX7 84 4 0 := ⟨RX4, TX4, 11, tyX4, rfl, by decide, hinX4, tyX4_ok, nmX4, Or.inr ⟨"ToldWays", nT_of 58 (by decide +kernel) rfl⟩, rfl⟩
theorem flX9_130 : Fl RX9 130 4 0 := ⟨RX4, TX4, 11, tyX4, rfl, by decide, hinX4, tyX4_ok, nmX4, Or.inr ⟨"ToldWays", nT_of 59 (by decide +kernel) rfl⟩, rfl⟩
theorem flX4_15 : Fl RX4 15 4 1 := ⟨RX4, TX4, 11, tyX4, rfl, by decide, hinX4, tyX4_ok, nmX4, Or.inl (gT_of 60 (by decide +kernel) rfl), rfl⟩
theorem flX6_63 : Fl RX6 63 4 1 := ⟨RX4, TX4, 11, tyX4, rfl, by decide, hinX4, tyX4_ok, nmX4, Or.inr ⟨"ToldWays", nT_of 61 (by decide +kernel) rfl⟩, rfl⟩
theorem flX7_92 : Fl RX7 92 4 1 := ⟨RX4, TX4, 11, tyX4, rfl, by decide, hinX4, tyX4_ok, nmX4, Or.inr ⟨"ToldWays", nT_of 62 (by decide +kernel) rfl⟩, rfl⟩
theorem flX9_138 : Fl RX9 138 4 1 := ⟨RX4, TX4, 11, tyX4, rfl, by decide, hinX4, tyX4_ok, nmX4, Or.inr ⟨"ToldWays", nT_of 63 (by decide +kernel) rfl⟩, rfl⟩
theorem flX4_18 : Fl RX4 18 4 2 := ⟨RX4, TX4, 11, tyX4, rfl, by decide, hinX4, tyX4_ok, nmX4, Or.inl (gT_of 64 (by decide +kernel) rfl), rfl⟩
theorem flX6_48 : Fl RX6 48 4 2 := ⟨RX4, TX4, 11, tyX4, rfl, by decide, hinX4, tyX4_ok, nmX4, Or.inr ⟨"ToldWays", nT_of 65 (by decide +kernel) rfl⟩, rfl⟩
theorem flX7_95 : Fl RX7 95 4 2 := ⟨RX4, TX4, 11, tyX4, rfl, by decide, hinX4, tyX4_ok, nmX4, Or.inr ⟨"ToldWays", nT_of 66 (by decide +kernel) rfl⟩, rfl⟩
theorem flX9_141 : Fl RX9 141 4 2 := ⟨RX4, TX4, 11, tyX4, rfl, by decide, hinX4, tyX4_ok, nmX4, Or.inr ⟨"ToldWays", nT_of 67 (by decide +kernel) rfl⟩, rfl⟩
theorem flX4_21 : Fl RX4 21 4 3 := ⟨RX4, TX4, 11, tyX4, rfl, by decide, hinX4, tyX4_ok, nmX4, Or.inl (gT_of 68 (by decide +kernel) rfl), rfl⟩
theorem flX1_42 : Fl RX1 42 4 3 := ⟨RX4, TX4, 11, tyX4, rfl, by decide, hinX4, tyX4_ok, nmX4, Or.inr ⟨"ToldWays", nT_of 69 (by decide +kernel) rfl⟩, rfl⟩
theorem flX7_101 : Fl RX7 101 4 3 := ⟨RX4, TX4, 11, tyX4, rfl, by decide, hinX4, tyX4_ok, nmX4, Or.inr ⟨"ToldWays", nT_of 70 (by decide +kernel) rfl⟩, rfl⟩
theorem flX9_147 : Fl RX9 147 4 3 := ⟨RX4, TX4, 11, tyX4, rfl, by decide, hinX4, tyX4_ok, nmX4, Or.inr ⟨"ToldWays", nT_of 71 (by decide +kernel) rfl⟩, rfl⟩
theorem flX4_24 : Fl RX4 24 4 4 := ⟨RX4, TX4, 11, tyX4, rfl, by decide, hinX4, tyX4_ok, nmX4, Or.inl (gT_of 72 (by decide +kernel) rfl), rfl⟩
theorem flX1_51 : Fl RX1 51 4 4 := ⟨RX4, TX4, 11, tyX4, rfl, by decide, hinX4, tyX4_ok, nmX4, Or.inr ⟨"ToldWays", nT_of 73 (by decide +kernel) rfl⟩, rfl⟩
theorem flX7_104 : Fl RX7 104 4 4 := ⟨RX4, TX4, 11, tyX4, rfl, by decide, hinX4, tyX4_ok, nmX4, Or.inr ⟨"ToldWays", nT_of 74 (by decide +kernel) rfl⟩, rfl⟩
theorem flX9_150 : Fl RX9 150 4 4 := ⟨RX4, TX4, 11, tyX4, rfl, by decide, hinX4, tyX4_ok, nmX4, Or.inr ⟨"ToldWays", nT_of 75 (by decide +kernel) rfl⟩, rfl⟩
theorem flX4_27 : Fl RX4 27 4 5 := ⟨RX4, TX4, 11, tyX4, rfl, by decide, hinX4, tyX4_ok, nmX4, Or.inl (gT_of 76 (by decide +kernel) rfl), rfl⟩
theorem flX1_54 : Fl RX1 54 4 5 := ⟨RX4, TX4, 11, tyX4, rfl, by decide, hinX4, tyX4_ok, nmX4, Or.inr ⟨"ToldWays", nT_of 77 (by decide +kernel) rfl⟩, rfl⟩
theorem flX7_107 : Fl RX7 107 4 5 := ⟨RX4, TX4, 11, tyX4, rfl, by decide, hinX4, tyX4_ok, nmX4, Or.inr ⟨"ToldWays", nT_of 78 (by decide +kernel) rfl⟩, rfl⟩
theorem flX9_153 : Fl RX9 153 4 5 := ⟨RX4, TX4, 11, tyX4, rfl, by decide, hinX4, tyX4_ok, nmX4, Or.inr ⟨"ToldWays", nT_of 79 (by decide +kernel) rfl⟩, rfl⟩
theorem flX4_30 : Fl RX4 30 4 6 := ⟨RX4, TX4, 11, tyX4, rfl, by decide, hinX4, tyX4_ok, nmX4, Or.inl (gT_of 80 (by decide +kernel) rfl), rfl⟩
theorem flX1_69 : Fl RX1 69 4 6 := ⟨RX4, TX4, 11, tyX4, rfl, by decide, hinX4, tyX4_ok, nmX4, Or.inr ⟨"ToldWays", nT_of 81 (by decide +kernel) rfl⟩, rfl⟩
theorem flX7_110 : Fl RX7 110 4 6 := ⟨RX4, TX4, 11, tyX4, rfl, by decide, hinX4, tyX4_ok, nmX4, Or.inr ⟨"ToldWays", nT_of 82 (by decide +kernel) rfl⟩, rfl⟩
theorem flX9_156 : Fl RX9 156 4 6 := ⟨RX4, TX4, 11, tyX4, rfl, by decide, hinX4, tyX4_ok, nmX4, Or.inr ⟨"ToldWays", nT_of 83 (by decide +kernel) rfl⟩, rfl⟩
theorem flX4_33 : Fl RX4 33 4 7 := ⟨RX4, TX4, 11, tyX4, rfl, by decide, hinX4, tyX4_ok, nmX4, Or.inl (gT_of 84 (by decide +kernel) rfl), rfl⟩
theorem flX1_35 : Fl RX1 35 4 7 := ⟨RX4, TX4, 11, tyX4, rfl, by decide, hinX4, tyX4_ok, nmX4, Or.inr ⟨"ToldWays", nT_of 85 (by decide +kernel) rfl⟩, rfl⟩
theorem flX5_65 : Fl RX5 65 4 7 := ⟨RX4, TX4, 11, tyX4, rfl, by decide, hinX4, tyX4_ok, nmX4, Or.inr ⟨"ToldWays", nT_of 86 (by decide +kernel) rfl⟩, rfl⟩
theorem flX7_117 : Fl RX7 117 4 7 := ⟨RX4, TX4, 11, tyX4, rfl, by decide, hinX4, tyX4_ok, nmX4, Or.inr ⟨"ToldWays", nT_of 87 (by decide +kernel) rfl⟩, rfl⟩
theorem flX9_159 : Fl RX9 159 4 7 := ⟨RX4, TX4, 11, tyX4, rfl, by decide, hinX4, tyX4_ok, nmX4, Or.inr ⟨"ToldWays", nT_of 88 (by decide +kernel) rfl⟩, rfl⟩
theorem flX4_36 : Fl RX4 36 4 8 := ⟨RX4, TX4, 11, tyX4, rfl, by decide, hinX4, tyX4_ok, nmX4, Or.inl (gT_of 89 (by decide +kernel) rfl), rfl⟩
theorem flX7_50 : Fl RX7 50 4 8 := ⟨RX4, TX4, 11, tyX4, rfl, by decide, hinX4, tyX4_ok, nmX4, Or.inr ⟨"ToldWays", nT_of 90 (by decide +kernel) rfl⟩, rfl⟩
theorem flX9_104 : Fl RX9 104 4 8 := ⟨RX4, TX4, 11, tyX4, rfl, by decide, hinX4, tyX4_ok, nmX4, Or.inr ⟨"ToldWays", nT_of 91 (by decide +kernel) rfl⟩, rfl⟩
theorem flX4_40 : Fl RX4 40 4 9 := ⟨RX4, TX4, 11, tyX4, rfl, by decide, hinX4, tyX4_ok, nmX4, Or.inl (gT_of 92 (by decide +kernel) rfl), rfl⟩
theorem flX6_57 : Fl RX6 57 4 9 := ⟨RX4, TX4, 11, tyX4, rfl, by decide, hinX4, tyX4_ok, nmX4, Or.inr ⟨"ToldWays", nT_of 93 (by decide +kernel) rfl⟩, rfl⟩
theorem flX7_74 : Fl RX7 74 4 9 := ⟨RX4, TX4, 11, tyX4, rfl, by decide, hinX4, tyX4_ok, nmX4, Or.inr ⟨"ToldWays", nT_of 94 (by decide +kernel) rfl⟩, rfl⟩
theorem flX9_110 : Fl RX9 110 4 9 := ⟨RX4, TX4, 11, tyX4, rfl, by decide, hinX4, tyX4_ok, nmX4, Or.inr ⟨"ToldWays", nT_of 95 (by decide +kernel) rfl⟩, rfl⟩
theorem flX1_29 : Fl RX1 29 4 10 := ⟨RX4, TX4, 11, tyX4, rfl, by decide, hinX4, tyX4_ok, nmX4, Or.inr ⟨"ToldWays", nT_of 96 (by decide +kernel) rfl⟩, rfl⟩
theorem flX4_43 : Fl RX4 43 4 10 := ⟨RX4, TX4, 11, tyX4, rfl, by decide, hinX4, tyX4_ok, nmX4, Or.inl (gT_of 97 (by decide +kernel) rfl), rfl⟩
theorem flX7_98 : Fl RX7 98 4 10 := ⟨RX4, TX4, 11, tyX4, rfl, by decide, hinX4, tyX4_ok, nmX4, Or.inr ⟨"ToldWays", nT_of 98 (by decide +kernel) rfl⟩, rfl⟩
theorem flX9_113 : Fl RX9 113 4 10 := ⟨RX4, TX4, 11, tyX4, rfl, by decide, hinX4, tyX4_ok, nmX4, Or.inr ⟨"ToldWays", nT_of 99 (by decide +kernel) rfl⟩, rfl⟩
theorem flX7_12 : Fl RX7 12 7 0 := ⟨RX7, TX7, 9, tyX7, rfl, by decide, hinX7, tyX7_ok, nmX7, Or.inl (gT_of 123 (by decide +kernel) rfl), rfl⟩
theorem flX9_90 : Fl RX9 90 7 0 := ⟨RX7, TX7, 9, tyX7, rfl, by decide, hinX7, tyX7_ok, nmX7, Or.inr ⟨"ToldWays", nT_of 124 (by decide +kernel) rfl⟩, rfl⟩
theorem flX7_22 : Fl RX7 22 7 1 := ⟨RX7, TX7, 9, tyX7, rfl, by decide, hinX7, tyX7_ok, nmX7, Or.inl (gT_of 125 (by decide +kernel) rfl), rfl⟩
theorem flX7_29 : Fl RX7 29 7 2 := ⟨RX7, TX7, 9, tyX7, rfl, by decide, hinX7, tyX7_ok, nmX7, Or.inl (gT_of 126 (by decide +kernel) rfl), rfl⟩
theorem flX7_18 : Fl RX7 18 7 3 := ⟨RX7, TX7, 9, tyX7, rfl, by decide, hinX7, tyX7_ok, nmX7, Or.inl (gT_of 127 (by decide +kernel) rfl), rfl⟩
theorem flX9_107 : Fl RX9 107 7 3 := ⟨RX7, TX7, 9, tyX7, rfl, by decide, hinX7, tyX7_ok, nmX7, Or.inr ⟨"ToldWays", nT_of 128 (by decide +kernel) rfl⟩, rfl⟩
theorem flX7_32 : Fl RX7 32 7 4 := ⟨RX7, TX7, 9, tyX7, rfl, by decide, hinX7, tyX7_ok, nmX7, Or.inl (gT_of 129 (by decide +kernel) rfl), rfl⟩
theorem flX7_35 : Fl RX7 35 7 5 := ⟨RX7, TX7, 9, tyX7, rfl, by decide, hinX7, tyX7_ok, nmX7, Or.inl (gT_of 130 (by decide +kernel) rfl), rfl⟩
theorem flX7_148 : Fl RX7 148 7 6 := ⟨RX7, TX7, 9, tyX7, rfl, by decide, hinX7, tyX7_ok, nmX7, Or.inl (gT_of 131 (by decide +kernel) rfl), rfl⟩
theorem flX7_137 : Fl RX7 137 7 7 := ⟨RX7, TX7, 9, tyX7, rfl, by decide, hinX7, tyX7_ok, nmX7, Or.inl (gT_of 132 (by decide +kernel) rfl), rfl⟩
theorem flX7_141 : Fl RX7 141 7 8 := ⟨RX7, TX7, 9, tyX7, rfl, by decide, hinX7, tyX7_ok, nmX7, Or.inl (gT_of 133 (by decide +kernel) rfl), rfl⟩
theorem mlX9_25 : Ml RX9 25 yX4_init := Or.inr ⟨"ToldWays", nT_of 154 (by decide +kernel) rfl⟩
theorem mlX9_32 : Ml RX9 32 yX6_init := Or.inr ⟨"ToldWays", nT_of 157 (by decide +kernel) rfl⟩
theorem mwX6_3 : Cond.methodLink RX6 3 ⟨"java/lang/Object", "<init>", "()V"⟩ ∈ gT := gT_of 160 (by decide +kernel) rfl
theorem flX6_9 : Fl RX6 9 6 0 := ⟨RX6, TX6, 4, tyX6, rfl, by decide, hinX6, tyX6_ok, nmX6, Or.inl (gT_of 161 (by decide +kernel) rfl), rfl⟩
theorem flX6_15 : Fl RX6 15 6 1 := ⟨RX6, TX6, 4, tyX6, rfl, by decide, hinX6, tyX6_ok, nmX6, Or.inl (gT_of 162 (by decide +kernel) rfl), rfl⟩
theorem flX6_18 : Fl RX6 18 6 2 := ⟨RX6, TX6, 4, tyX6, rfl, by decide, hinX6, tyX6_ok, nmX6, Or.inl (gT_of 163 (by decide +kernel) rfl), rfl⟩
theorem flX6_21 : Fl RX6 21 6 3 := ⟨RX6, TX6, 4, tyX6, rfl, by decide, hinX6, tyX6_ok, nmX6, Or.inl (gT_of 164 (by decide +kernel) rfl), rfl⟩
theorem flX9_181 : Fl RX9 181 6 3 := ⟨RX6, TX6, 4, tyX6, rfl, by decide, hinX6, tyX6_ok, nmX6, Or.inr ⟨"ToldWays", nT_of 165 (by decide +kernel) rfl⟩, rfl⟩
theorem mlX9_43 : Ml RX9 43 yX1_init := Or.inr ⟨"ToldWays", nT_of 178 (by decide +kernel) rfl⟩
theorem mwX1_3 : Cond.methodLink RX1 3 ⟨"java/lang/Object", "<init>", "()V"⟩ ∈ gT := gT_of 181 (by decide +kernel) rfl
theorem flX1_21 : Fl RX1 21 1 0 := ⟨RX1, TX1, 12, tyX1, rfl, by decide, hinX1, tyX1_ok, nmX1, Or.inl (gT_of 182 (by decide +kernel) rfl), rfl⟩
theorem flX1_25 : Fl RX1 25 1 1 := ⟨RX1, TX1, 12, tyX1, rfl, by decide, hinX1, tyX1_ok, nmX1, Or.inl (gT_of 183 (by decide +kernel) rfl), rfl⟩
theorem flX1_9 : Fl RX1 9 1 2 := ⟨RX1, TX1, 12, tyX1, rfl, by decide, hinX1, tyX1_ok, nmX1, Or.inl (gT_of 184 (by decide +kernel) rfl), rfl⟩
theorem flX5_48 : Fl RX5 48 1 2 := ⟨RX1, TX1, 12, tyX1, rfl, by decide, hinX1, tyX1_ok, nmX1, Or.inr ⟨"ToldWays", nT_of 185 (by decide +kernel) rfl⟩, rfl⟩
theorem flX1_15 : Fl RX1 15 1 3 := ⟨RX1, TX1, 12, tyX1, rfl, by decide, hinX1, tyX1_ok, nmX1, Or.inl (gT_of 186 (by decide +kernel) rfl), rfl⟩
theorem flX5_53 : Fl RX5 53 1 3 := ⟨RX1, TX1, 12, tyX1, rfl, by decide, hinX1, tyX1_ok, nmX1, Or.inr ⟨"ToldWays", nT_of 187 (by decide +kernel) rfl⟩, rfl⟩
theorem flX1_18 : Fl RX1 18 1 4 := ⟨RX1, TX1, 12, tyX1, rfl, by decide, hinX1, tyX1_ok, nmX1, Or.inl (gT_of 188 (by decide +kernel) rfl), rfl⟩
theorem flX1_124 : Fl RX1 124 1 5 := ⟨RX1, TX1, 12, tyX1, rfl, by decide, hinX1, tyX1_ok, nmX1, Or.inl (gT_of 189 (by decide +kernel) rfl), rfl⟩
theorem flX1_91 : Fl RX1 91 1 6 := ⟨RX1, TX1, 12, tyX1, rfl, by decide, hinX1, tyX1_ok, nmX1, Or.inl (gT_of 190 (by decide +kernel) rfl), rfl⟩
theorem flX9_219 : Fl RX9 219 1 6 := ⟨RX1, TX1, 12, tyX1, rfl, by decide, hinX1, tyX1_ok, nmX1, Or.inr ⟨"ToldWays", nT_of 191 (by decide +kernel) rfl⟩, rfl⟩
theorem flX1_94 : Fl RX1 94 1 7 := ⟨RX1, TX1, 12, tyX1, rfl, by decide, hinX1, tyX1_ok, nmX1, Or.inl (gT_of 192 (by decide +kernel) rfl), rfl⟩
theorem flX9_216 : Fl RX9 216 1 7 := ⟨RX1, TX1, 12, tyX1, rfl, by decide, hinX1, tyX1_ok, nmX1, Or.inr ⟨"ToldWays", nT_of 193 (by decide +kernel) rfl⟩, rfl⟩
theorem flX1_97 : Fl RX1 97 1 8 := ⟨RX1, TX1, 12, tyX1, rfl, by decide, hinX1, tyX1_ok, nmX1, Or.inl (gT_of 194 (by decide +kernel) rfl), rfl⟩
theorem flX9_222 : Fl RX9 222 1 8 := ⟨RX1, TX1, 12, tyX1, rfl, by decide, hinX1, tyX1_ok, nmX1, Or.inr ⟨"ToldWays", nT_of 195 (by decide +kernel) rfl⟩, rfl⟩
theorem flX1_127 : Fl RX1 127 1 9 := ⟨RX1, TX1, 12, tyX1, rfl, by decide, hinX1, tyX1_ok, nmX1, Or.inl (gT_of 196 (by decide +kernel) rfl), rfl⟩
theorem flX9_238 : Fl RX9 238 1 9 := ⟨RX1, TX1, 12, tyX1, rfl, by decide, hinX1, tyX1_ok, nmX1, Or.inr ⟨"ToldWays", nT_of 197 (by decide +kernel) rfl⟩, rfl⟩
theorem flX1_130 : Fl RX1 130 1 10 := ⟨RX1, TX1, 12, tyX1, rfl, by decide, hinX1, tyX1_ok, nmX1, Or.inl (gT_of 198 (by decide +kernel) rfl), rfl⟩
theorem flX9_241 : Fl RX9 241 1 10 := ⟨RX1, TX1, 12, tyX1, rfl, by decide, hinX1, tyX1_ok, nmX1, Or.inr ⟨"ToldWays", nT_of 199 (by decide +kernel) rfl⟩, rfl⟩
theorem flX1_133 : Fl RX1 133 1 11 := ⟨RX1, TX1, 12, tyX1, rfl, by decide, hinX1, tyX1_ok, nmX1, Or.inl (gT_of 200 (by decide +kernel) rfl), rfl⟩
theorem flX9_244 : Fl RX9 244 1 11 := ⟨RX1, TX1, 12, tyX1, rfl, by decide, hinX1, tyX1_ok, nmX1, Or.inr ⟨"ToldWays", nT_of 201 (by decide +kernel) rfl⟩, rfl⟩
theorem mlX9_48 : Ml RX9 48 yX5_init := Or.inr ⟨"ToldWays", nT_of 229 (by decide +kernel) rfl⟩
theorem mwX5_3 : Cond.methodLink RX5 3 ⟨"java/lang/Object", "<init>", "()V"⟩ ∈ gT := gT_of 232 (by decide +kernel) rfl
theorem flX5_24 : Fl RX5 24 5 0 := ⟨RX5, TX5, 12, tyX5, rfl, by decide, hinX5, tyX5_ok, nmX5, Or.inl (gT_of 233 (by decide +kernel) rfl), rfl⟩
theorem flX5_28 : Fl RX5 28 5 1 := ⟨RX5, TX5, 12, tyX5, rfl, by decide, hinX5, tyX5_ok, nmX5, Or.inl (gT_of 234 (by decide +kernel) rfl), rfl⟩
theorem flX5_11 : Fl RX5 11 5 2 := ⟨RX5, TX5, 12, tyX5, rfl, by decide, hinX5, tyX5_ok, nmX5, Or.inl (gT_of 235 (by decide +kernel) rfl), rfl⟩
theorem flX5_15 : Fl RX5 15 5 3 := ⟨RX5, TX5, 12, tyX5, rfl, by decide, hinX5, tyX5_ok, nmX5, Or.inl (gT_of 236 (by decide +kernel) rfl), rfl⟩
theorem flX5_18 : Fl RX5 18 5 4 := ⟨RX5, TX5, 12, tyX5, rfl, by decide, hinX5, tyX5_ok, nmX5, Or.inl (gT_of 237 (by decide +kernel) rfl), rfl⟩
theorem flX5_21 : Fl RX5 21 5 5 := ⟨RX5, TX5, 12, tyX5, rfl, by decide, hinX5, tyX5_ok, nmX5, Or.inl (gT_of 238 (by decide +kernel) rfl), rfl⟩
theorem flX5_32 : Fl RX5 32 5 6 := ⟨RX5, TX5, 12, tyX5, rfl, by decide, hinX5, tyX5_ok, nmX5, Or.inl (gT_of 239 (by decide +kernel) rfl), rfl⟩
theorem flX5_36 : Fl RX5 36 5 7 := ⟨RX5, TX5, 12, tyX5, rfl, by decide, hinX5, tyX5_ok, nmX5, Or.inl (gT_of 240 (by decide +kernel) rfl), rfl⟩
theorem flX5_39 : Fl RX5 39 5 8 := ⟨RX5, TX5, 12, tyX5, rfl, by decide, hinX5, tyX5_ok, nmX5, Or.inl (gT_of 241 (by decide +kernel) rfl), rfl⟩
theorem flX5_58 : Fl RX5 58 5 9 := ⟨RX5, TX5, 12, tyX5, rfl, by decide, hinX5, tyX5_ok, nmX5, Or.inl (gT_of 242 (by decide +kernel) rfl), rfl⟩
theorem flX9_256 : Fl RX9 256 5 9 := ⟨RX5, TX5, 12, tyX5, rfl, by decide, hinX5, tyX5_ok, nmX5, Or.inr ⟨"ToldWays", nT_of 243 (by decide +kernel) rfl⟩, rfl⟩
theorem flX5_82 : Fl RX5 82 5 10 := ⟨RX5, TX5, 12, tyX5, rfl, by decide, hinX5, tyX5_ok, nmX5, Or.inl (gT_of 244 (by decide +kernel) rfl), rfl⟩
theorem flX5_93 : Fl RX5 93 5 11 := ⟨RX5, TX5, 12, tyX5, rfl, by decide, hinX5, tyX5_ok, nmX5, Or.inl (gT_of 245 (by decide +kernel) rfl), rfl⟩
theorem mlX9_57 : Ml RX9 57 yX0_init := Or.inr ⟨"ToldWays", nT_of 273 (by decide +kernel) rfl⟩
theorem mwX0_1 : Cond.methodLink RX0 1 ⟨"java/lang/Object", "<init>", "()V"⟩ ∈ gT := gT_of 276 (by decide +kernel) rfl
theorem flX0_7 : Fl RX0 7 0 0 := ⟨RX0, TX0, 1, tyX0, rfl, by decide, hinX0, tyX0_ok, nmX0, Or.inl (gT_of 277 (by decide +kernel) rfl), rfl⟩
theorem flX9_306 : Fl RX9 306 0 0 := ⟨RX0, TX0, 1, tyX0, rfl, by decide, hinX0, tyX0_ok, nmX0, Or.inr ⟨"ToldWays", nT_of 278 (by decide +kernel) rfl⟩, rfl⟩
theorem mlX9_64 : Ml RX9 64 yX3_init := Or.inr ⟨"ToldWays", nT_of 284 (by decide +kernel) rfl⟩
theorem mwX3_3 : Cond.methodLink RX3 3 ⟨"java/lang/Object", "<init>", "()V"⟩ ∈ gT := gT_of 287 (by decide +kernel) rfl
theorem flX3_9 : Fl RX3 9 3 0 := ⟨RX3, TX3, 8, tyX3, rfl, by decide, hinX3, tyX3_ok, nmX3, Or.inl (gT_of 288 (by decide +kernel) rfl), rfl⟩
theorem flX9_283 : Fl RX9 283 3 0 := ⟨RX3, TX3, 8, tyX3, rfl, by decide, hinX3, tyX3_ok, nmX3, Or.inr ⟨"ToldWays", nT_of 289 (by decide +kernel) rfl⟩, rfl⟩
theorem flX3_15 : Fl RX3 15 3 1 := ⟨RX3, TX3, 8, tyX3, rfl, by decide, hinX3, tyX3_ok, nmX3, Or.inl (gT_of 290 (by decide +kernel) rfl), rfl⟩
theorem flX9_287 : Fl RX9 287 3 1 := ⟨RX3, TX3, 8, tyX3, rfl, by decide, hinX3, tyX3_ok, nmX3, Or.inr ⟨"ToldWays", nT_of 291 (by decide +kernel) rfl⟩, rfl⟩
theorem flX3_18 : Fl RX3 18 3 2 := ⟨RX3, TX3, 8, tyX3, rfl, by decide, hinX3, tyX3_ok, nmX3, Or.inl (gT_of 292 (by decide +kernel) rfl), rfl⟩
theorem flX9_285 : Fl RX9 285 3 2 := ⟨RX3, TX3, 8, tyX3, rfl, by decide, hinX3, tyX3_ok, nmX3, Or.inr ⟨"ToldWays", nT_of 293 (by decide +kernel) rfl⟩, rfl⟩
theorem flX3_21 : Fl RX3 21 3 3 := ⟨RX3, TX3, 8, tyX3, rfl, by decide, hinX3, tyX3_ok, nmX3, Or.inl (gT_of 294 (by decide +kernel) rfl), rfl⟩
theorem flX9_295 : Fl RX9 295 3 3 := ⟨RX3, TX3, 8, tyX3, rfl, by decide, hinX3, tyX3_ok, nmX3, Or.inr ⟨"ToldWays", nT_of 295 (by decide +kernel) rfl⟩, rfl⟩
theorem flX3_24 : Fl RX3 24 3 4 := ⟨RX3, TX3, 8, tyX3, rfl, by decide, hinX3, tyX3_ok, nmX3, Or.inl (gT_of 296 (by decide +kernel) rfl), rfl⟩
theorem flX9_274 : Fl RX9 274 3 4 := ⟨RX3, TX3, 8, tyX3, rfl, by decide, hinX3, tyX3_ok, nmX3, Or.inr ⟨"ToldWays", nT_of 297 (by decide +kernel) rfl⟩, rfl⟩
theorem flX3_27 : Fl RX3 27 3 5 := ⟨RX3, TX3, 8, tyX3, rfl, by decide, hinX3, tyX3_ok, nmX3, Or.inl (gT_of 298 (by decide +kernel) rfl), rfl⟩
theorem flX9_277 : Fl RX9 277 3 5 := ⟨RX3, TX3, 8, tyX3, rfl, by decide, hinX3, tyX3_ok, nmX3, Or.inr ⟨"ToldWays", nT_of 299 (by decide +kernel) rfl⟩, rfl⟩
theorem flX3_30 : Fl RX3 30 3 6 := ⟨RX3, TX3, 8, tyX3, rfl, by decide, hinX3, tyX3_ok, nmX3, Or.inl (gT_of 300 (by decide +kernel) rfl), rfl⟩
theorem flX9_119 : Fl RX9 119 3 6 := ⟨RX3, TX3, 8, tyX3, rfl, by decide, hinX3, tyX3_ok, nmX3, Or.inr ⟨"ToldWays", nT_of 301 (by decide +kernel) rfl⟩, rfl⟩
theorem flX3_39 : Fl RX3 39 3 7 := ⟨RX3, TX3, 8, tyX3, rfl, by decide, hinX3, tyX3_ok, nmX3, Or.inl (gT_of 302 (by decide +kernel) rfl), rfl⟩
theorem flX9_122 : Fl RX9 122 3 7 := ⟨RX3, TX3, 8, tyX3, rfl, by decide, hinX3, tyX3_ok, nmX3, Or.inr ⟨"ToldWays", nT_of 303 (by decide +kernel) rfl⟩, rfl⟩
theorem mlX9_75 : Ml RX9 75 yX2_init := Or.inr ⟨"ToldWays", nT_of 324 (by decide +kernel) rfl⟩
theorem mwX2_3 : Cond.methodLink RX2 3 ⟨"java/lang/Object", "<init>", "()V"⟩ ∈ gT := gT_of 327 (by decide +kernel) rfl
theorem flX2_9 : Fl RX2 9 2 0 := ⟨RX2, TX2, 5, tyX2, rfl, by decide, hinX2, tyX2_ok, nmX2, Or.inl (gT_of 328 (by decide +kernel) rfl), rfl⟩
theorem flX9_309 : Fl RX9 309 2 0 := ⟨RX2, TX2, 5, tyX2, rfl, by decide, hinX2, tyX2_ok, nmX2, Or.inr ⟨"ToldWays", nT_of 329 (by decide +kernel) rfl⟩, rfl⟩
theorem flX2_15 : Fl RX2 15 2 1 := ⟨RX2, TX2, 5, tyX2, rfl, by decide, hinX2, tyX2_ok, nmX2, Or.inl (gT_of 330 (by decide +kernel) rfl), rfl⟩
theorem flX9_314 : Fl RX9 314 2 1 := ⟨RX2, TX2, 5, tyX2, rfl, by decide, hinX2, tyX2_ok, nmX2, Or.inr ⟨"ToldWays", nT_of 331 (by decide +kernel) rfl⟩, rfl⟩
theorem flX9_315 : Fl RX9 315 2 2 := ⟨RX2, TX2, 5, tyX2, rfl, by decide, hinX2, tyX2_ok, nmX2, Or.inr ⟨"ToldWays", nT_of 332 (by decide +kernel) rfl⟩, rfl⟩
theorem flX9_316 : Fl RX9 316 2 3 := ⟨RX2, TX2, 5, tyX2, rfl, by decide, hinX2, tyX2_ok, nmX2, Or.inr ⟨"ToldWays", nT_of 333 (by decide +kernel) rfl⟩, rfl⟩
theorem flX9_100 : Fl RX9 100 2 4 := ⟨RX2, TX2, 5, tyX2, rfl, by decide, hinX2, tyX2_ok, nmX2, Or.inr ⟨"ToldWays", nT_of 334 (by decide +kernel) rfl⟩, rfl⟩
theorem flX9_12 : Fl RX9 12 9 0 := ⟨RX9, TX9, 10, tyX9, rfl, by decide, hinX9, tyX9_ok, nmX9, Or.inl (gT_of 346 (by decide +kernel) rfl), rfl⟩
theorem flX9_19 : Fl RX9 19 9 1 := ⟨RX9, TX9, 10, tyX9, rfl, by decide, hinX9, tyX9_ok, nmX9, Or.inl (gT_of 347 (by decide +kernel) rfl), rfl⟩
theorem flX9_26 : Fl RX9 26 9 2 := ⟨RX9, TX9, 10, tyX9, rfl, by decide, hinX9, tyX9_ok, nmX9, Or.inl (gT_of 348 (by decide +kernel) rfl), rfl⟩
theorem flX9_33 : Fl RX9 33 9 3 := ⟨RX9, TX9, 10, tyX9, rfl, by decide, hinX9, tyX9_ok, nmX9, Or.inl (gT_of 349 (by decide +kernel) rfl), rfl⟩
theorem flX9_39 : Fl RX9 39 9 4 := ⟨RX9, TX9, 10, tyX9, rfl, by decide, hinX9, tyX9_ok, nmX9, Or.inl (gT_of 350 (by decide +kernel) rfl), rfl⟩
theorem flX9_51 : Fl RX9 51 9 5 := ⟨RX9, TX9, 10, tyX9, rfl, by decide, hinX9, tyX9_ok, nmX9, Or.inl (gT_of 351 (by decide +kernel) rfl), rfl⟩
theorem flX9_58 : Fl RX9 58 9 6 := ⟨RX9, TX9, 10, tyX9, rfl, by decide, hinX9, tyX9_ok, nmX9, Or.inl (gT_of 352 (by decide +kernel) rfl), rfl⟩
theorem flX9_65 : Fl RX9 65 9 7 := ⟨RX9, TX9, 10, tyX9, rfl, by decide, hinX9, tyX9_ok, nmX9, Or.inl (gT_of 353 (by decide +kernel) rfl), rfl⟩
theorem flX9_71 : Fl RX9 71 9 8 := ⟨RX9, TX9, 10, tyX9, rfl, by decide, hinX9, tyX9_ok, nmX9, Or.inl (gT_of 354 (by decide +kernel) rfl), rfl⟩
theorem flX9_116 : Fl RX9 116 9 9 := ⟨RX9, TX9, 10, tyX9, rfl, by decide, hinX9, tyX9_ok, nmX9, Or.inl (gT_of 355 (by decide +kernel) rfl), rfl⟩
theorem mlL_15 : Ml RL 15 yX9_feed := Or.inl (gT_of 377 (by decide +kernel) rfl)
theorem ckX9_76 : Cond.constant RX9 76 (-1000000002) ∈ gT := gT_of 381 (by decide +kernel) rfl
theorem ckX9_81 : Cond.constant RX9 81 (-1000000004) ∈ gT := gT_of 382 (by decide +kernel) rfl
theorem mlX9_82 : Ml RX9 82 yX8_append := Or.inr ⟨"ToldWays", nT_of 383 (by decide +kernel) rfl⟩
theorem ckX8_19 : Cond.constantLong RX8 19 (255) ∈ gT := gT_of 387 (by decide +kernel) rfl
theorem mlX8_21 : Ml RX8 21 yX9_put := Or.inr ⟨"ToldWays", nT_of 388 (by decide +kernel) rfl⟩
theorem mlL_20 : Ml RL 20 yX9_land := Or.inl (gT_of 391 (by decide +kernel) rfl)
theorem mlX9_86 : Ml RX9 86 yX7_read := Or.inr ⟨"ToldWays", nT_of 395 (by decide +kernel) rfl⟩
theorem mlX7_26 : Ml RX7 26 yX4_empty := Or.inr ⟨"ToldWays", nT_of 399 (by decide +kernel) rfl⟩
theorem mlX7_38 : Ml RX7 38 yX7_step := Or.inl (gT_of 403 (by decide +kernel) rfl)
theorem mlX7_144 : Ml RX7 144 yX7_byteAt := Or.inl (gT_of 407 (by decide +kernel) rfl)
theorem mlX7_175 : Ml RX7 175 yX9_at := Or.inr ⟨"ToldWays", nT_of 411 (by decide +kernel) rfl⟩
theorem mlX7_159 : Ml RX7 159 yX7_isLetter := Or.inl (gT_of 414 (by decide +kernel) rfl)
theorem mlX7_163 : Ml RX7 163 yX7_isFigure := Or.inl (gT_of 417 (by decide +kernel) rfl)
theorem mlX7_166 : Ml RX7 166 yX7_goesOn := Or.inl (gT_of 420 (by decide +kernel) rfl)
theorem mlX7_43 : Ml RX7 43 yX7_isWord := Or.inl (gT_of 425 (by decide +kernel) rfl)
theorem mlX7_151 : Ml RX7 151 yJ0_length_8abf5 := Or.inl (gT_of 429 (by decide +kernel) rfl)
theorem mlJ0_335 : Ml RJ0 335 yJ0_coder_7d493 := Or.inl (gT_of 433 (by decide +kernel) rfl)
theorem mlX7_155 : Ml RX7 155 yJ0_charAt_5068e := Or.inl (gT_of 439 (by decide +kernel) rfl)
theorem mlJ0_492 : Ml RJ0 492 yJ0_isLatin1_aae02 := Or.inl (gT_of 443 (by decide +kernel) rfl)
theorem mlJ0_495 : Ml RJ0 495 yJ1_charAt_3b067 := Or.inl (gT_of 447 (by decide +kernel) rfl)
theorem mlJ1_9 : Ml RJ1 9 yJ0_checkIndex_df160 := Or.inl (gT_of 450 (by decide +kernel) rfl)
theorem mlJ0_1059 : Ml RJ0 1059 yJ3_checkIndex_8e157 := Or.inl (gT_of 455 (by decide +kernel) rfl)
theorem mlJ0_498 : Ml RJ0 498 yJ2_charAt_3b067 := Or.inl (gT_of 458 (by decide +kernel) rfl)
theorem mlJ2_67 : Ml RJ2 67 yJ2_checkIndex_2214a := Or.inl (gT_of 461 (by decide +kernel) rfl)
theorem mlJ2_48 : Ml RJ2 48 yJ2_length_9d52b := Or.inl (gT_of 464 (by decide +kernel) rfl)
theorem mlJ2_414 : Ml RJ2 414 yJ0_checkIndex_df160 := Or.inl (gT_of 467 (by decide +kernel) rfl)
theorem mlJ2_71 : Ml RJ2 71 yJ2_getChar_3b067 := Or.inl (gT_of 468 (by decide +kernel) rfl)
theorem mlX7_47 : Ml RX7 47 yX7_readPlaces := Or.inl (gT_of 477 (by decide +kernel) rfl)
theorem mlX7_62 : Ml RX7 62 yX7_blame := Or.inl (gT_of 481 (by decide +kernel) rfl)
theorem mlX7_66 : Ml RX7 66 yX7_takeNumber := Or.inl (gT_of 485 (by decide +kernel) rfl)
theorem mlX7_77 : Ml RX7 77 yX7_seeNumber := Or.inl (gT_of 489 (by decide +kernel) rfl)
theorem mlX7_70 : Ml RX7 70 yX7_takeSign := Or.inl (gT_of 493 (by decide +kernel) rfl)
theorem mlX7_133 : Ml RX7 133 yX7_isSign := Or.inl (gT_of 497 (by decide +kernel) rfl)
theorem mlX7_54 : Ml RX7 54 yX7_readWay := Or.inl (gT_of 502 (by decide +kernel) rfl)
theorem mlX7_80 : Ml RX7 80 yX4_areJoined := Or.inr ⟨"ToldWays", nT_of 506 (by decide +kernel) rfl⟩
theorem mlX4_54 : Ml RX4 54 yX4_otherEnd := Or.inl (gT_of 510 (by decide +kernel) rfl)
theorem mlX4_50 : Ml RX4 50 yX9_at := Or.inr ⟨"ToldWays", nT_of 514 (by decide +kernel) rfl⟩
theorem mlX7_88 : Ml RX7 88 yX9_put := Or.inr ⟨"ToldWays", nT_of 515 (by decide +kernel) rfl⟩
theorem mlX7_59 : Ml RX7 59 yX7_readPerson := Or.inl (gT_of 517 (by decide +kernel) rfl)
theorem mlX7_113 : Ml RX7 113 yX7_takeHabit := Or.inl (gT_of 521 (by decide +kernel) rfl)
theorem mlX7_122 : Ml RX7 122 yX7_takeKnown := Or.inl (gT_of 530 (by decide +kernel) rfl)
theorem mlX9_93 : Ml RX9 93 yX4_become := Or.inr ⟨"ToldWays", nT_of 534 (by decide +kernel) rfl⟩
theorem mlX4_46 : Ml RX4 46 yX9_copy := Or.inr ⟨"ToldWays", nT_of 538 (by decide +kernel) rfl⟩
theorem mwX9_326 : Cond.methodLink RX9 326 ⟨"java/lang/Math", "min", "(II)I"⟩ ∈ gT := gT_of 541 (by decide +kernel) rfl
theorem mwX9_329 : Cond.methodLink RX9 329 ⟨"java/lang/System", "arraycopy", "(Ljava/lang/Object;ILjava/lang/Object;II)V"⟩ ∈ gT := gT_of 544 (by decide +kernel) rfl
theorem mlX9_97 : Ml RX9 97 yX3_forget := Or.inr ⟨"ToldWays", nT_of 547 (by decide +kernel) rfl⟩
theorem mlL_25 : Ml RL 25 yX9_fault := Or.inl (gT_of 552 (by decide +kernel) rfl)
theorem mlL_29 : Ml RL 29 yX9_told := Or.inl (gT_of 556 (by decide +kernel) rfl)
theorem mlL_34 : Ml RL 34 yX9_way := Or.inl (gT_of 560 (by decide +kernel) rfl)
theorem mlX9_125 : Ml RX9 125 yX4_hasWay := Or.inr ⟨"ToldWays", nT_of 564 (by decide +kernel) rfl⟩
theorem ckX9_129 : Cond.constant RX9 129 (-1000000001) ∈ gT := gT_of 568 (by decide +kernel) rfl
theorem mlX9_134 : Ml RX9 134 yX9_at := Or.inl (gT_of 569 (by decide +kernel) rfl)
theorem mlL_39 : Ml RL 39 yX9_person := Or.inl (gT_of 570 (by decide +kernel) rfl)
theorem mlX9_144 : Ml RX9 144 yX4_hasPerson := Or.inr ⟨"ToldWays", nT_of 574 (by decide +kernel) rfl⟩
theorem mlL_43 : Ml RL 43 yX9_far := Or.inl (gT_of 578 (by decide +kernel) rfl)
theorem mlX9_162 : Ml RX9 162 yX4_hasPlace := Or.inr ⟨"ToldWays", nT_of 582 (by decide +kernel) rfl⟩
theorem mlX9_165 : Ml RX9 165 yX9_farBetween := Or.inl (gT_of 586 (by decide +kernel) rfl)
theorem mlX9_318 : Ml RX9 318 yX6_seek := Or.inr ⟨"ToldWays", nT_of 590 (by decide +kernel) rfl⟩
theorem mlX6_25 : Ml RX6 25 yX9_put := Or.inr ⟨"ToldWays", nT_of 594 (by decide +kernel) rfl⟩
theorem mlX6_29 : Ml RX6 29 yX6_measure := Or.inl (gT_of 595 (by decide +kernel) rfl)
theorem ckX6_37 : Cond.constant RX6 37 (1000000000) ∈ gT := gT_of 599 (by decide +kernel) rfl
theorem mlX6_51 : Ml RX6 51 yJ7_fill_53178 := Or.inl (gT_of 600 (by decide +kernel) rfl)
theorem mlX6_33 : Ml RX6 33 yX9_at := Or.inr ⟨"ToldWays", nT_of 603 (by decide +kernel) rfl⟩
theorem mwX6_66 : Cond.methodLink RX6 66 ⟨"java/lang/Math", "min", "(II)I"⟩ ∈ gT := gT_of 604 (by decide +kernel) rfl
theorem mlX6_38 : Ml RX6 38 yX6_nextWay := Or.inl (gT_of 605 (by decide +kernel) rfl)
theorem mlX6_42 : Ml RX6 42 yX4_otherEnd := Or.inr ⟨"ToldWays", nT_of 609 (by decide +kernel) rfl⟩
theorem mlX9_184 : Ml RX9 184 yX6_minutesTo := Or.inr ⟨"ToldWays", nT_of 610 (by decide +kernel) rfl⟩
theorem mlL_47 : Ml RL 47 yX9_law := Or.inl (gT_of 614 (by decide +kernel) rfl)
theorem mlL_51 : Ml RL 51 yX9_learn := Or.inl (gT_of 618 (by decide +kernel) rfl)
theorem mlX9_169 : Ml RX9 169 yX9_put := Or.inl (gT_of 622 (by decide +kernel) rfl)
theorem mlL_56 : Ml RL 56 yX9_habit := Or.inl (gT_of 623 (by decide +kernel) rfl)
theorem mlL_60 : Ml RL 60 yX9_route := Or.inl (gT_of 627 (by decide +kernel) rfl)
theorem mlX9_173 : Ml RX9 173 yX9_canAsk := Or.inl (gT_of 631 (by decide +kernel) rfl)
theorem mlX9_177 : Ml RX9 177 yX9_seekFor := Or.inl (gT_of 635 (by decide +kernel) rfl)
theorem mlX9_188 : Ml RX9 188 yX6_placeAfter := Or.inr ⟨"ToldWays", nT_of 639 (by decide +kernel) rfl⟩
theorem mlL_65 : Ml RL 65 yX9_says := Or.inl (gT_of 643 (by decide +kernel) rfl)
theorem mlX9_191 : Ml RX9 191 yX6_saidBy := Or.inr ⟨"ToldWays", nT_of 647 (by decide +kernel) rfl⟩
theorem mlX6_71 : Ml RX6 71 yX6_piecesTo := Or.inl (gT_of 651 (by decide +kernel) rfl)
theorem mwX6_75 : Cond.methodLink RX6 75 ⟨"java/lang/Math", "max", "(II)I"⟩ ∈ gT := gT_of 655 (by decide +kernel) rfl
theorem mlX9_194 : Ml RX9 194 yX6_placeByLaw := Or.inr ⟨"ToldWays", nT_of 658 (by decide +kernel) rfl⟩
theorem mlX6_78 : Ml RX6 78 yX6_outByLaw := Or.inl (gT_of 662 (by decide +kernel) rfl)
theorem mlX6_81 : Ml RX6 81 yX6_placeAfter := Or.inl (gT_of 666 (by decide +kernel) rfl)
theorem mlX9_197 : Ml RX9 197 yX6_minutesByLaw := Or.inr ⟨"ToldWays", nT_of 667 (by decide +kernel) rfl⟩
theorem mlX6_84 : Ml RX6 84 yX6_minutesTo := Or.inl (gT_of 671 (by decide +kernel) rfl)
theorem mlL_69 : Ml RL 69 yX9_own := Or.inl (gT_of 672 (by decide +kernel) rfl)
theorem mlX9_200 : Ml RX9 200 yX6_dearest := Or.inr ⟨"ToldWays", nT_of 676 (by decide +kernel) rfl⟩
theorem mlX6_90 : Ml RX6 90 yX6_gain := Or.inl (gT_of 680 (by decide +kernel) rfl)
theorem mlX6_87 : Ml RX6 87 yX6_minutesByLaw := Or.inl (gT_of 684 (by decide +kernel) rfl)
theorem mlX9_204 : Ml RX9 204 yX6_gain := Or.inr ⟨"ToldWays", nT_of 685 (by decide +kernel) rfl⟩
theorem mlL_73 : Ml RL 73 yX9_led := Or.inl (gT_of 686 (by decide +kernel) rfl)
theorem mlX9_208 : Ml RX9 208 yX9_gathered := Or.inl (gT_of 690 (by decide +kernel) rfl)
theorem mlX9_302 : Ml RX9 302 yX9_guidesTo := Or.inl (gT_of 694 (by decide +kernel) rfl)
theorem mlX9_322 : Ml RX9 322 yX1_gather := Or.inr ⟨"ToldWays", nT_of 698 (by decide +kernel) rfl⟩
theorem mlX1_38 : Ml RX1 38 yX9_at := Or.inr ⟨"ToldWays", nT_of 702 (by decide +kernel) rfl⟩
theorem mlX1_45 : Ml RX1 45 yX6_seek := Or.inr ⟨"ToldWays", nT_of 703 (by decide +kernel) rfl⟩
theorem mlX1_57 : Ml RX1 57 yX6_dearest := Or.inr ⟨"ToldWays", nT_of 704 (by decide +kernel) rfl⟩
theorem mlX1_61 : Ml RX1 61 yX1_hear := Or.inl (gT_of 705 (by decide +kernel) rfl)
theorem mlX1_76 : Ml RX1 76 yX6_placeAfter := Or.inr ⟨"ToldWays", nT_of 709 (by decide +kernel) rfl⟩
theorem mlX1_80 : Ml RX1 80 yX9_put := Or.inr ⟨"ToldWays", nT_of 710 (by decide +kernel) rfl⟩
theorem mlX1_84 : Ml RX1 84 yX6_minutesTo := Or.inr ⟨"ToldWays", nT_of 711 (by decide +kernel) rfl⟩
theorem mlX1_65 : Ml RX1 65 yX1_ask := Or.inl (gT_of 712 (by decide +kernel) rfl)
theorem mlX1_72 : Ml RX1 72 yX6_saidBy := Or.inr ⟨"ToldWays", nT_of 716 (by decide +kernel) rfl⟩
theorem mlX9_212 : Ml RX9 212 yX1_lead := Or.inr ⟨"ToldWays", nT_of 717 (by decide +kernel) rfl⟩
theorem mlX1_100 : Ml RX1 100 yX1_howMany := Or.inl (gT_of 721 (by decide +kernel) rfl)
theorem mlX1_87 : Ml RX1 87 yX1_leads := Or.inl (gT_of 725 (by decide +kernel) rfl)
theorem mlX1_103 : Ml RX1 103 yX0_next := Or.inr ⟨"ToldWays", nT_of 729 (by decide +kernel) rfl⟩
theorem ckX0_13 : Cond.constantLong RX0 13 (1103515245) ∈ gT := gT_of 733 (by decide +kernel) rfl
theorem ckX0_15 : Cond.constantLong RX0 15 (12345) ∈ gT := gT_of 734 (by decide +kernel) rfl
theorem ckX0_17 : Cond.constantLong RX0 17 (2147483647) ∈ gT := gT_of 735 (by decide +kernel) rfl
theorem ckX0_19 : Cond.constant RX0 19 (65536) ∈ gT := gT_of 736 (by decide +kernel) rfl
theorem mlX1_108 : Ml RX1 108 yX1_leader := Or.inl (gT_of 737 (by decide +kernel) rfl)
theorem mlL_78 : Ml RL 78 yX9_soonest := Or.inl (gT_of 741 (by decide +kernel) rfl)
theorem mlX9_225 : Ml RX9 225 yX1_fewestMinutes := Or.inr ⟨"ToldWays", nT_of 745 (by decide +kernel) rfl⟩
theorem ckX1_111 : Cond.constant RX1 111 (1000000000) ∈ gT := gT_of 749 (by decide +kernel) rfl
theorem mlX1_112 : Ml RX1 112 yJ7_fill_53178 := Or.inl (gT_of 750 (by decide +kernel) rfl)
theorem mlX1_118 : Ml RX1 118 yX1_keyBy := Or.inl (gT_of 751 (by decide +kernel) rfl)
theorem mlL_82 : Ml RL 82 yX9_guide := Or.inl (gT_of 755 (by decide +kernel) rfl)
theorem mlX9_228 : Ml RX9 228 yX1_fewestGuides := Or.inr ⟨"ToldWays", nT_of 759 (by decide +kernel) rfl⟩
theorem mlX9_231 : Ml RX9 231 yX1_bestGuide := Or.inr ⟨"ToldWays", nT_of 763 (by decide +kernel) rfl⟩
theorem mlX1_121 : Ml RX1 121 yX1_leastGuide := Or.inl (gT_of 767 (by decide +kernel) rfl)
theorem mlL_87 : Ml RL 87 yX9_lot := Or.inl (gT_of 771 (by decide +kernel) rfl)
theorem mlX9_234 : Ml RX9 234 yX1_lots := Or.inr ⟨"ToldWays", nT_of 775 (by decide +kernel) rfl⟩
theorem mlX1_137 : Ml RX1 137 yX1_castLots := Or.inl (gT_of 779 (by decide +kernel) rfl)
theorem mwX1_141 : Cond.methodLink RX1 141 ⟨"java/lang/Math", "max", "(II)I"⟩ ∈ gT := gT_of 782 (by decide +kernel) rfl
theorem ckX9_248 : Cond.constantLong RX9 248 (1000000) ∈ gT := gT_of 783 (by decide +kernel) rfl
theorem mlL_91 : Ml RL 91 yX9_say := Or.inl (gT_of 784 (by decide +kernel) rfl)
theorem mlX9_250 : Ml RX9 250 yX9_minutesIfLedTo := Or.inl (gT_of 788 (by decide +kernel) rfl)
theorem mlL_95 : Ml RL 95 yX9_learnt := Or.inl (gT_of 792 (by decide +kernel) rfl)
theorem mlX9_253 : Ml RX9 253 yX5_begin := Or.inr ⟨"ToldWays", nT_of 796 (by decide +kernel) rfl⟩
theorem mlX5_42 : Ml RX5 42 yX1_gather := Or.inr ⟨"ToldWays", nT_of 800 (by decide +kernel) rfl⟩
theorem mlX5_49 : Ml RX5 49 yX9_copy := Or.inr ⟨"ToldWays", nT_of 801 (by decide +kernel) rfl⟩
theorem mlX5_54 : Ml RX5 54 yX5_isInTime := Or.inl (gT_of 802 (by decide +kernel) rfl)
theorem mlX5_108 : Ml RX5 108 yX1_fewestMinutes := Or.inr ⟨"ToldWays", nT_of 806 (by decide +kernel) rfl⟩
theorem mlX9_259 : Ml RX9 259 yX5_seekOne := Or.inr ⟨"ToldWays", nT_of 807 (by decide +kernel) rfl⟩
theorem mlX5_61 : Ml RX5 61 yX5_canBeLearnt := Or.inl (gT_of 811 (by decide +kernel) rfl)
theorem mlX5_102 : Ml RX5 102 yX4_hasPerson := Or.inr ⟨"ToldWays", nT_of 815 (by decide +kernel) rfl⟩
theorem mlX5_105 : Ml RX5 105 yX4_hasWay := Or.inr ⟨"ToldWays", nT_of 816 (by decide +kernel) rfl⟩
theorem mlX5_70 : Ml RX5 70 yX9_at := Or.inr ⟨"ToldWays", nT_of 817 (by decide +kernel) rfl⟩
theorem mlX5_74 : Ml RX5 74 yX1_ask := Or.inr ⟨"ToldWays", nT_of 818 (by decide +kernel) rfl⟩
theorem mlX5_78 : Ml RX5 78 yX9_put := Or.inr ⟨"ToldWays", nT_of 819 (by decide +kernel) rfl⟩
theorem mlX5_85 : Ml RX5 85 yX5_unlearn := Or.inl (gT_of 820 (by decide +kernel) rfl)
theorem mlX9_262 : Ml RX9 262 yX5_seekTwo := Or.inr ⟨"ToldWays", nT_of 824 (by decide +kernel) rfl⟩
theorem mlX5_89 : Ml RX5 89 yX5_areBothInTime := Or.inl (gT_of 828 (by decide +kernel) rfl)
theorem mlX5_96 : Ml RX5 96 yX5_changesNothing := Or.inl (gT_of 832 (by decide +kernel) rfl)
theorem mlX5_99 : Ml RX5 99 yX5_apply := Or.inl (gT_of 836 (by decide +kernel) rfl)
theorem mlX9_265 : Ml RX9 265 yX5_answer := Or.inr ⟨"ToldWays", nT_of 840 (by decide +kernel) rfl⟩
theorem mlL_99 : Ml RL 99 yX9_missing := Or.inl (gT_of 844 (by decide +kernel) rfl)
theorem mlX9_268 : Ml RX9 268 yX9_askedFor := Or.inl (gT_of 848 (by decide +kernel) rfl)
theorem mlL_103 : Ml RL 103 yX9_lack := Or.inl (gT_of 852 (by decide +kernel) rfl)
theorem mlX9_271 : Ml RX9 271 yX3_addMissed := Or.inr ⟨"ToldWays", nT_of 856 (by decide +kernel) rfl⟩
theorem ckX3_34 : Cond.constant RX3 34 (-1000000004) ∈ gT := gT_of 860 (by decide +kernel) rfl
theorem mlX3_35 : Ml RX3 35 yX9_put := Or.inr ⟨"ToldWays", nT_of 861 (by decide +kernel) rfl⟩
theorem mlL_107 : Ml RL 107 yX9_fits := Or.inl (gT_of 862 (by decide +kernel) rfl)
theorem mlL_111 : Ml RL 111 yX9_log := Or.inl (gT_of 866 (by decide +kernel) rfl)
theorem mlX9_280 : Ml RX9 280 yX3_addLogged := Or.inr ⟨"ToldWays", nT_of 870 (by decide +kernel) rfl⟩
theorem mlL_115 : Ml RL 115 yX9_clear := Or.inl (gT_of 874 (by decide +kernel) rfl)
theorem mlL_119 : Ml RL 119 yX9_judge := Or.inl (gT_of 878 (by decide +kernel) rfl)
theorem mwX9_290 : Cond.methodLink RX9 290 ⟨"java/lang/Math", "max", "(II)I"⟩ ∈ gT := gT_of 882 (by decide +kernel) rfl
theorem mlL_123 : Ml RL 123 yX9_drift := Or.inl (gT_of 883 (by decide +kernel) rfl)
theorem ckX9_298 : Cond.constant RX9 298 (-1000000003) ∈ gT := gT_of 887 (by decide +kernel) rfl
theorem mlX9_299 : Ml RX9 299 yX0_next := Or.inr ⟨"ToldWays", nT_of 888 (by decide +kernel) rfl⟩
theorem mlL_127 : Ml RL 127 yX9_seed := Or.inl (gT_of 889 (by decide +kernel) rfl)
theorem mlL_131 : Ml RL 131 yX9_keep := Or.inl (gT_of 893 (by decide +kernel) rfl)
theorem mlX9_310 : Ml RX9 310 yX9_copy := Or.inl (gT_of 897 (by decide +kernel) rfl)
theorem mlL_135 : Ml RL 135 yX9_goBack := Or.inl (gT_of 898 (by decide +kernel) rfl)
theorem mlL_12 : Ml RL 12 yX10_init := Or.inl (gT_of 904 (by decide +kernel) rfl)
theorem mwX10_1 : Cond.methodLink RX10 1 ⟨"java/lang/Object", "<init>", "()V"⟩ ∈ gT := gT_of 907 (by decide +kernel) rfl
theorem flX10_121 : Fl RX10 121 10 0 := ⟨RX10, TX10, 57, tyX10, rfl, by decide, hinX10, tyX10_ok, nmX10, Or.inl (gT_of 908 (by decide +kernel) rfl), rfl⟩
theorem flX10_128 : Fl RX10 128 10 1 := ⟨RX10, TX10, 57, tyX10, rfl, by decide, hinX10, tyX10_ok, nmX10, Or.inl (gT_of 909 (by decide +kernel) rfl), rfl⟩
theorem flX10_7 : Fl RX10 7 10 2 := ⟨RX10, TX10, 57, tyX10, rfl, by decide, hinX10, tyX10_ok, nmX10, Or.inl (gT_of 910 (by decide +kernel) rfl), rfl⟩
theorem flX10_13 : Fl RX10 13 10 3 := ⟨RX10, TX10, 57, tyX10, rfl, by decide, hinX10, tyX10_ok, nmX10, Or.inl (gT_of 911 (by decide +kernel) rfl), rfl⟩
theorem flX10_16 : Fl RX10 16 10 4 := ⟨RX10, TX10, 57, tyX10, rfl, by decide, hinX10, tyX10_ok, nmX10, Or.inl (gT_of 912 (by decide +kernel) rfl), rfl⟩
theorem flX10_131 : Fl RX10 131 10 5 := ⟨RX10, TX10, 57, tyX10, rfl, by decide, hinX10, tyX10_ok, nmX10, Or.inl (gT_of 913 (by decide +kernel) rfl), rfl⟩
theorem flX10_19 : Fl RX10 19 10 6 := ⟨RX10, TX10, 57, tyX10, rfl, by decide, hinX10, tyX10_ok, nmX10, Or.inl (gT_of 914 (by decide +kernel) rfl), rfl⟩
theorem flX10_22 : Fl RX10 22 10 7 := ⟨RX10, TX10, 57, tyX10, rfl, by decide, hinX10, tyX10_ok, nmX10, Or.inl (gT_of 915 (by decide +kernel) rfl), rfl⟩
theorem flX10_25 : Fl RX10 25 10 8 := ⟨RX10, TX10, 57, tyX10, rfl, by decide, hinX10, tyX10_ok, nmX10, Or.inl (gT_of 916 (by decide +kernel) rfl), rfl⟩
theorem flX10_28 : Fl RX10 28 10 9 := ⟨RX10, TX10, 57, tyX10, rfl, by decide, hinX10, tyX10_ok, nmX10, Or.inl (gT_of 917 (by decide +kernel) rfl), rfl⟩
theorem flX10_31 : Fl RX10 31 10 10 := ⟨RX10, TX10, 57, tyX10, rfl, by decide, hinX10, tyX10_ok, nmX10, Or.inl (gT_of 918 (by decide +kernel) rfl), rfl⟩
theorem flX10_235 : Fl RX10 235 10 11 := ⟨RX10, TX10, 57, tyX10, rfl, by decide, hinX10, tyX10_ok, nmX10, Or.inl (gT_of 919 (by decide +kernel) rfl), rfl⟩
theorem flX10_355 : Fl RX10 355 10 12 := ⟨RX10, TX10, 57, tyX10, rfl, by decide, hinX10, tyX10_ok, nmX10, Or.inl (gT_of 920 (by decide +kernel) rfl), rfl⟩
theorem flX10_34 : Fl RX10 34 10 13 := ⟨RX10, TX10, 57, tyX10, rfl, by decide, hinX10, tyX10_ok, nmX10, Or.inl (gT_of 921 (by decide +kernel) rfl), rfl⟩
theorem flX10_137 : Fl RX10 137 10 14 := ⟨RX10, TX10, 57, tyX10, rfl, by decide, hinX10, tyX10_ok, nmX10, Or.inl (gT_of 922 (by decide +kernel) rfl), rfl⟩
theorem flX10_37 : Fl RX10 37 10 15 := ⟨RX10, TX10, 57, tyX10, rfl, by decide, hinX10, tyX10_ok, nmX10, Or.inl (gT_of 923 (by decide +kernel) rfl), rfl⟩
theorem flX10_143 : Fl RX10 143 10 16 := ⟨RX10, TX10, 57, tyX10, rfl, by decide, hinX10, tyX10_ok, nmX10, Or.inl (gT_of 924 (by decide +kernel) rfl), rfl⟩
theorem flX10_150 : Fl RX10 150 10 17 := ⟨RX10, TX10, 57, tyX10, rfl, by decide, hinX10, tyX10_ok, nmX10, Or.inl (gT_of 925 (by decide +kernel) rfl), rfl⟩
theorem flX10_154 : Fl RX10 154 10 18 := ⟨RX10, TX10, 57, tyX10, rfl, by decide, hinX10, tyX10_ok, nmX10, Or.inl (gT_of 926 (by decide +kernel) rfl), rfl⟩
theorem flX10_180 : Fl RX10 180 10 19 := ⟨RX10, TX10, 57, tyX10, rfl, by decide, hinX10, tyX10_ok, nmX10, Or.inl (gT_of 927 (by decide +kernel) rfl), rfl⟩
theorem flX10_177 : Fl RX10 177 10 20 := ⟨RX10, TX10, 57, tyX10, rfl, by decide, hinX10, tyX10_ok, nmX10, Or.inl (gT_of 928 (by decide +kernel) rfl), rfl⟩
theorem flX10_189 : Fl RX10 189 10 21 := ⟨RX10, TX10, 57, tyX10, rfl, by decide, hinX10, tyX10_ok, nmX10, Or.inl (gT_of 929 (by decide +kernel) rfl), rfl⟩
theorem flX10_186 : Fl RX10 186 10 22 := ⟨RX10, TX10, 57, tyX10, rfl, by decide, hinX10, tyX10_ok, nmX10, Or.inl (gT_of 930 (by decide +kernel) rfl), rfl⟩
theorem flX10_41 : Fl RX10 41 10 23 := ⟨RX10, TX10, 57, tyX10, rfl, by decide, hinX10, tyX10_ok, nmX10, Or.inl (gT_of 931 (by decide +kernel) rfl), rfl⟩
theorem flX10_44 : Fl RX10 44 10 24 := ⟨RX10, TX10, 57, tyX10, rfl, by decide, hinX10, tyX10_ok, nmX10, Or.inl (gT_of 932 (by decide +kernel) rfl), rfl⟩
theorem flX10_47 : Fl RX10 47 10 25 := ⟨RX10, TX10, 57, tyX10, rfl, by decide, hinX10, tyX10_ok, nmX10, Or.inl (gT_of 933 (by decide +kernel) rfl), rfl⟩
theorem flX10_207 : Fl RX10 207 10 26 := ⟨RX10, TX10, 57, tyX10, rfl, by decide, hinX10, tyX10_ok, nmX10, Or.inl (gT_of 934 (by decide +kernel) rfl), rfl⟩
theorem flX10_50 : Fl RX10 50 10 27 := ⟨RX10, TX10, 57, tyX10, rfl, by decide, hinX10, tyX10_ok, nmX10, Or.inl (gT_of 935 (by decide +kernel) rfl), rfl⟩
theorem flX10_53 : Fl RX10 53 10 28 := ⟨RX10, TX10, 57, tyX10, rfl, by decide, hinX10, tyX10_ok, nmX10, Or.inl (gT_of 936 (by decide +kernel) rfl), rfl⟩
theorem flX10_56 : Fl RX10 56 10 29 := ⟨RX10, TX10, 57, tyX10, rfl, by decide, hinX10, tyX10_ok, nmX10, Or.inl (gT_of 937 (by decide +kernel) rfl), rfl⟩
theorem flX10_59 : Fl RX10 59 10 30 := ⟨RX10, TX10, 57, tyX10, rfl, by decide, hinX10, tyX10_ok, nmX10, Or.inl (gT_of 938 (by decide +kernel) rfl), rfl⟩
theorem flX10_62 : Fl RX10 62 10 31 := ⟨RX10, TX10, 57, tyX10, rfl, by decide, hinX10, tyX10_ok, nmX10, Or.inl (gT_of 939 (by decide +kernel) rfl), rfl⟩
theorem flX10_65 : Fl RX10 65 10 32 := ⟨RX10, TX10, 57, tyX10, rfl, by decide, hinX10, tyX10_ok, nmX10, Or.inl (gT_of 940 (by decide +kernel) rfl), rfl⟩
theorem flX10_253 : Fl RX10 253 10 33 := ⟨RX10, TX10, 57, tyX10, rfl, by decide, hinX10, tyX10_ok, nmX10, Or.inl (gT_of 941 (by decide +kernel) rfl), rfl⟩
theorem flX10_68 : Fl RX10 68 10 34 := ⟨RX10, TX10, 57, tyX10, rfl, by decide, hinX10, tyX10_ok, nmX10, Or.inl (gT_of 942 (by decide +kernel) rfl), rfl⟩
theorem flX10_71 : Fl RX10 71 10 35 := ⟨RX10, TX10, 57, tyX10, rfl, by decide, hinX10, tyX10_ok, nmX10, Or.inl (gT_of 943 (by decide +kernel) rfl), rfl⟩
theorem flX10_286 : Fl RX10 286 10 36 := ⟨RX10, TX10, 57, tyX10, rfl, by decide, hinX10, tyX10_ok, nmX10, Or.inl (gT_of 944 (by decide +kernel) rfl), rfl⟩
theorem flX10_74 : Fl RX10 74 10 37 := ⟨RX10, TX10, 57, tyX10, rfl, by decide, hinX10, tyX10_ok, nmX10, Or.inl (gT_of 945 (by decide +kernel) rfl), rfl⟩
theorem flX10_77 : Fl RX10 77 10 38 := ⟨RX10, TX10, 57, tyX10, rfl, by decide, hinX10, tyX10_ok, nmX10, Or.inl (gT_of 946 (by decide +kernel) rfl), rfl⟩
theorem flX10_80 : Fl RX10 80 10 39 := ⟨RX10, TX10, 57, tyX10, rfl, by decide, hinX10, tyX10_ok, nmX10, Or.inl (gT_of 947 (by decide +kernel) rfl), rfl⟩
theorem flX10_83 : Fl RX10 83 10 40 := ⟨RX10, TX10, 57, tyX10, rfl, by decide, hinX10, tyX10_ok, nmX10, Or.inl (gT_of 948 (by decide +kernel) rfl), rfl⟩
theorem flX10_86 : Fl RX10 86 10 41 := ⟨RX10, TX10, 57, tyX10, rfl, by decide, hinX10, tyX10_ok, nmX10, Or.inl (gT_of 949 (by decide +kernel) rfl), rfl⟩
theorem flX10_89 : Fl RX10 89 10 42 := ⟨RX10, TX10, 57, tyX10, rfl, by decide, hinX10, tyX10_ok, nmX10, Or.inl (gT_of 950 (by decide +kernel) rfl), rfl⟩
theorem flX10_92 : Fl RX10 92 10 43 := ⟨RX10, TX10, 57, tyX10, rfl, by decide, hinX10, tyX10_ok, nmX10, Or.inl (gT_of 951 (by decide +kernel) rfl), rfl⟩
theorem flX10_309 : Fl RX10 309 10 44 := ⟨RX10, TX10, 57, tyX10, rfl, by decide, hinX10, tyX10_ok, nmX10, Or.inl (gT_of 952 (by decide +kernel) rfl), rfl⟩
theorem flX10_325 : Fl RX10 325 10 45 := ⟨RX10, TX10, 57, tyX10, rfl, by decide, hinX10, tyX10_ok, nmX10, Or.inl (gT_of 953 (by decide +kernel) rfl), rfl⟩
theorem flX10_328 : Fl RX10 328 10 46 := ⟨RX10, TX10, 57, tyX10, rfl, by decide, hinX10, tyX10_ok, nmX10, Or.inl (gT_of 954 (by decide +kernel) rfl), rfl⟩
theorem flX10_232 : Fl RX10 232 10 47 := ⟨RX10, TX10, 57, tyX10, rfl, by decide, hinX10, tyX10_ok, nmX10, Or.inl (gT_of 955 (by decide +kernel) rfl), rfl⟩
theorem flX10_96 : Fl RX10 96 10 48 := ⟨RX10, TX10, 57, tyX10, rfl, by decide, hinX10, tyX10_ok, nmX10, Or.inl (gT_of 956 (by decide +kernel) rfl), rfl⟩
theorem flX10_99 : Fl RX10 99 10 49 := ⟨RX10, TX10, 57, tyX10, rfl, by decide, hinX10, tyX10_ok, nmX10, Or.inl (gT_of 957 (by decide +kernel) rfl), rfl⟩
theorem flX10_229 : Fl RX10 229 10 50 := ⟨RX10, TX10, 57, tyX10, rfl, by decide, hinX10, tyX10_ok, nmX10, Or.inl (gT_of 958 (by decide +kernel) rfl), rfl⟩
theorem flX10_102 : Fl RX10 102 10 51 := ⟨RX10, TX10, 57, tyX10, rfl, by decide, hinX10, tyX10_ok, nmX10, Or.inl (gT_of 959 (by decide +kernel) rfl), rfl⟩
theorem flX10_105 : Fl RX10 105 10 52 := ⟨RX10, TX10, 57, tyX10, rfl, by decide, hinX10, tyX10_ok, nmX10, Or.inl (gT_of 960 (by decide +kernel) rfl), rfl⟩
theorem flX10_108 : Fl RX10 108 10 53 := ⟨RX10, TX10, 57, tyX10, rfl, by decide, hinX10, tyX10_ok, nmX10, Or.inl (gT_of 961 (by decide +kernel) rfl), rfl⟩
theorem flX10_111 : Fl RX10 111 10 54 := ⟨RX10, TX10, 57, tyX10, rfl, by decide, hinX10, tyX10_ok, nmX10, Or.inl (gT_of 962 (by decide +kernel) rfl), rfl⟩
theorem flX10_114 : Fl RX10 114 10 55 := ⟨RX10, TX10, 57, tyX10, rfl, by decide, hinX10, tyX10_ok, nmX10, Or.inl (gT_of 963 (by decide +kernel) rfl), rfl⟩
theorem flX10_117 : Fl RX10 117 10 56 := ⟨RX10, TX10, 57, tyX10, rfl, by decide, hinX10, tyX10_ok, nmX10, Or.inl (gT_of 964 (by decide +kernel) rfl), rfl⟩
theorem mlL_19 : Ml RL 19 yX10_feed := Or.inl (gT_of 1082 (by decide +kernel) rfl)
theorem ckX10_134 : Cond.constantLong RX10 134 (8) ∈ gT := gT_of 1086 (by decide +kernel) rfl
theorem mlX10_124 : Ml RX10 124 yX10_in := Or.inl (gT_of 1087 (by decide +kernel) rfl)
theorem ckX10_136 : Cond.constant RX10 136 (-1000000002) ∈ gT := gT_of 1090 (by decide +kernel) rfl
theorem ckX10_140 : Cond.constant RX10 140 (-1000000004) ∈ gT := gT_of 1091 (by decide +kernel) rfl
theorem ckX10_141 : Cond.constantLong RX10 141 (255) ∈ gT := gT_of 1092 (by decide +kernel) rfl
theorem mlL_24 : Ml RL 24 yX10_land := Or.inl (gT_of 1093 (by decide +kernel) rfl)
theorem mlX10_146 : Ml RX10 146 yX10_here := Or.inl (gT_of 1097 (by decide +kernel) rfl)
theorem mlX10_226 : Ml RX10 226 yX10_takeClause := Or.inl (gT_of 1101 (by decide +kernel) rfl)
theorem mlX10_196 : Ml RX10 196 yX10_readWord := Or.inl (gT_of 1105 (by decide +kernel) rfl)
theorem ckX10_157 : Cond.constantLong RX10 157 (97) ∈ gT := gT_of 1109 (by decide +kernel) rfl
theorem ckX10_159 : Cond.constantLong RX10 159 (122) ∈ gT := gT_of 1110 (by decide +kernel) rfl
theorem ckX10_161 : Cond.constantLong RX10 161 (1000000000000) ∈ gT := gT_of 1111 (by decide +kernel) rfl
theorem ckX10_163 : Cond.constantLong RX10 163 (2000000000000) ∈ gT := gT_of 1112 (by decide +kernel) rfl
theorem ckX10_165 : Cond.constantLong RX10 165 (27) ∈ gT := gT_of 1113 (by decide +kernel) rfl
theorem ckX10_167 : Cond.constantLong RX10 167 (96) ∈ gT := gT_of 1114 (by decide +kernel) rfl
theorem mlX10_199 : Ml RX10 199 yX10_code := Or.inl (gT_of 1115 (by decide +kernel) rfl)
theorem mlX10_203 : Ml RX10 203 yX10_longer := Or.inl (gT_of 1118 (by decide +kernel) rfl)
theorem mlX10_173 : Ml RX10 173 yX10_fails := Or.inl (gT_of 1121 (by decide +kernel) rfl)
theorem mlX10_183 : Ml RX10 183 yX10_takeNumber := Or.inl (gT_of 1125 (by decide +kernel) rfl)
theorem ckX10_169 : Cond.constantLong RX10 169 (48) ∈ gT := gT_of 1129 (by decide +kernel) rfl
theorem ckX10_171 : Cond.constantLong RX10 171 (57) ∈ gT := gT_of 1130 (by decide +kernel) rfl
theorem mlX10_220 : Ml RX10 220 yX10_takeWay := Or.inl (gT_of 1131 (by decide +kernel) rfl)
theorem mlX10_192 : Ml RX10 192 yX10_into := Or.inl (gT_of 1135 (by decide +kernel) rfl)
theorem mlX10_223 : Ml RX10 223 yX10_takePerson := Or.inl (gT_of 1139 (by decide +kernel) rfl)
theorem mlX10_214 : Ml RX10 214 yX10_takeHabit := Or.inl (gT_of 1143 (by decide +kernel) rfl)
theorem mlX10_217 : Ml RX10 217 yX10_takeKnows := Or.inl (gT_of 1147 (by decide +kernel) rfl)
theorem mlX10_210 : Ml RX10 210 yX10_has := Or.inl (gT_of 1151 (by decide +kernel) rfl)
theorem mlL_28 : Ml RL 28 yX10_fault := Or.inl (gT_of 1154 (by decide +kernel) rfl)
theorem mlL_33 : Ml RL 33 yX10_told := Or.inl (gT_of 1158 (by decide +kernel) rfl)
theorem mlL_38 : Ml RL 38 yX10_way := Or.inl (gT_of 1162 (by decide +kernel) rfl)
theorem mlX10_238 : Ml RX10 238 yX10_isWay := Or.inl (gT_of 1166 (by decide +kernel) rfl)
theorem ckX10_242 : Cond.constant RX10 242 (-1000000001) ∈ gT := gT_of 1170 (by decide +kernel) rfl
theorem mlL_42 : Ml RL 42 yX10_person := Or.inl (gT_of 1171 (by decide +kernel) rfl)
theorem mlX10_243 : Ml RX10 243 yX10_isPerson := Or.inl (gT_of 1175 (by decide +kernel) rfl)
theorem mlL_50 : Ml RL 50 yX10_law := Or.inl (gT_of 1179 (by decide +kernel) rfl)
theorem ckX10_246 : Cond.constantLong RX10 246 (3) ∈ gT := gT_of 1183 (by decide +kernel) rfl
theorem mlL_55 : Ml RL 55 yX10_learn := Or.inl (gT_of 1184 (by decide +kernel) rfl)
theorem mlL_59 : Ml RL 59 yX10_habit := Or.inl (gT_of 1188 (by decide +kernel) rfl)
theorem mlL_46 : Ml RL 46 yX10_far := Or.inl (gT_of 1192 (by decide +kernel) rfl)
theorem mlX10_256 : Ml RX10 256 yX10_isPlace := Or.inl (gT_of 1196 (by decide +kernel) rfl)
theorem mlX10_249 : Ml RX10 249 yX10_findNeeds := Or.inl (gT_of 1200 (by decide +kernel) rfl)
theorem ckX10_248 : Cond.constant RX10 248 (1000000) ∈ gT := gT_of 1204 (by decide +kernel) rfl
theorem mlL_64 : Ml RL 64 yX10_route := Or.inl (gT_of 1205 (by decide +kernel) rfl)
theorem mlX10_259 : Ml RX10 259 yX10_isAsked := Or.inl (gT_of 1209 (by decide +kernel) rfl)
theorem mlX10_263 : Ml RX10 263 yX10_findRoute := Or.inl (gT_of 1213 (by decide +kernel) rfl)
theorem mlL_68 : Ml RL 68 yX10_says := Or.inl (gT_of 1217 (by decide +kernel) rfl)
theorem mlX10_277 : Ml RX10 277 yX10_saidBy := Or.inl (gT_of 1221 (by decide +kernel) rfl)
theorem mlX10_274 : Ml RX10 274 yX10_endOf := Or.inl (gT_of 1225 (by decide +kernel) rfl)
theorem mlX10_267 : Ml RX10 267 yX10_longOf := Or.inl (gT_of 1229 (by decide +kernel) rfl)
theorem mlX10_280 : Ml RX10 280 yX10_stands := Or.inl (gT_of 1233 (by decide +kernel) rfl)
theorem mlX10_271 : Ml RX10 271 yX10_outOf := Or.inl (gT_of 1237 (by decide +kernel) rfl)
theorem mlX10_283 : Ml RX10 283 yX10_walked := Or.inl (gT_of 1241 (by decide +kernel) rfl)
theorem mlL_72 : Ml RL 72 yX10_own := Or.inl (gT_of 1245 (by decide +kernel) rfl)
theorem mlX10_292 : Ml RX10 292 yX10_ownBy := Or.inl (gT_of 1249 (by decide +kernel) rfl)
theorem mlX10_289 : Ml RX10 289 yX10_gainOf := Or.inl (gT_of 1253 (by decide +kernel) rfl)
theorem mlL_77 : Ml RL 77 yX10_led := Or.inl (gT_of 1257 (by decide +kernel) rfl)
theorem mlX10_295 : Ml RX10 295 yX10_findEnds := Or.inl (gT_of 1261 (by decide +kernel) rfl)
theorem mlX10_299 : Ml RX10 299 yX10_leads := Or.inl (gT_of 1265 (by decide +kernel) rfl)
theorem mlL_81 : Ml RL 81 yX10_soonest := Or.inl (gT_of 1269 (by decide +kernel) rfl)
theorem mlX10_306 : Ml RX10 306 yX10_soonestOf := Or.inl (gT_of 1273 (by decide +kernel) rfl)
theorem mlX10_302 : Ml RX10 302 yX10_findSoon := Or.inl (gT_of 1277 (by decide +kernel) rfl)
theorem mlL_86 : Ml RL 86 yX10_guide := Or.inl (gT_of 1281 (by decide +kernel) rfl)
theorem mlL_90 : Ml RL 90 yX10_lot := Or.inl (gT_of 1285 (by decide +kernel) rfl)
theorem ckX10_312 : Cond.constantLong RX10 312 (2) ∈ gT := gT_of 1289 (by decide +kernel) rfl
theorem ckX10_314 : Cond.constantLong RX10 314 (1000000000) ∈ gT := gT_of 1290 (by decide +kernel) rfl
theorem mlX10_316 : Ml RX10 316 yX10_addLot := Or.inl (gT_of 1291 (by decide +kernel) rfl)
theorem mlX10_320 : Ml RX10 320 yX10_countLeads := Or.inl (gT_of 1295 (by decide +kernel) rfl)
theorem ckX10_323 : Cond.constantLong RX10 323 (1000000) ∈ gT := gT_of 1299 (by decide +kernel) rfl
theorem mlL_94 : Ml RL 94 yX10_say := Or.inl (gT_of 1300 (by decide +kernel) rfl)
theorem mlL_98 : Ml RL 98 yX10_learnt := Or.inl (gT_of 1304 (by decide +kernel) rfl)
theorem ckX10_340 : Cond.constantLong RX10 340 (999) ∈ gT := gT_of 1308 (by decide +kernel) rfl
theorem ckX10_342 : Cond.constantLong RX10 342 (4) ∈ gT := gT_of 1309 (by decide +kernel) rfl
theorem mlX10_344 : Ml RX10 344 yX10_findLearnt := Or.inl (gT_of 1310 (by decide +kernel) rfl)
theorem mlX10_331 : Ml RX10 331 yX10_isSoon := Or.inl (gT_of 1314 (by decide +kernel) rfl)
theorem mlX10_334 : Ml RX10 334 yX10_isOpen := Or.inl (gT_of 1318 (by decide +kernel) rfl)
theorem mlX10_337 : Ml RX10 337 yX10_teach := Or.inl (gT_of 1322 (by decide +kernel) rfl)
theorem mlL_102 : Ml RL 102 yX10_missing := Or.inl (gT_of 1326 (by decide +kernel) rfl)
theorem mlX10_347 : Ml RX10 347 yX10_missingOf := Or.inl (gT_of 1330 (by decide +kernel) rfl)
theorem mlL_106 : Ml RL 106 yX10_lack := Or.inl (gT_of 1334 (by decide +kernel) rfl)
theorem mlL_110 : Ml RL 110 yX10_fits := Or.inl (gT_of 1338 (by decide +kernel) rfl)
theorem mlL_114 : Ml RL 114 yX10_log := Or.inl (gT_of 1342 (by decide +kernel) rfl)
theorem ckX10_350 : Cond.constantLong RX10 350 (9) ∈ gT := gT_of 1346 (by decide +kernel) rfl
theorem mlL_118 : Ml RL 118 yX10_clear := Or.inl (gT_of 1347 (by decide +kernel) rfl)
theorem mlL_122 : Ml RL 122 yX10_judge := Or.inl (gT_of 1351 (by decide +kernel) rfl)
theorem mlX10_352 : Ml RX10 352 yX10_mayBe := Or.inl (gT_of 1355 (by decide +kernel) rfl)
theorem mlL_126 : Ml RL 126 yX10_drift := Or.inl (gT_of 1359 (by decide +kernel) rfl)
theorem ckX10_368 : Cond.constantLong RX10 368 (99) ∈ gT := gT_of 1363 (by decide +kernel) rfl
theorem ckX10_370 : Cond.constant RX10 370 (-1000000003) ∈ gT := gT_of 1364 (by decide +kernel) rfl
theorem mlX10_371 : Ml RX10 371 yX10_strangerBy := Or.inl (gT_of 1365 (by decide +kernel) rfl)
theorem mlX10_365 : Ml RX10 365 yX10_draw := Or.inl (gT_of 1369 (by decide +kernel) rfl)
theorem ckX10_358 : Cond.constantLong RX10 358 (1103515245) ∈ gT := gT_of 1373 (by decide +kernel) rfl
theorem ckX10_360 : Cond.constantLong RX10 360 (12345) ∈ gT := gT_of 1374 (by decide +kernel) rfl
theorem ckX10_362 : Cond.constantLong RX10 362 (2147483648) ∈ gT := gT_of 1375 (by decide +kernel) rfl
theorem ckX10_364 : Cond.constant RX10 364 (65536) ∈ gT := gT_of 1376 (by decide +kernel) rfl
theorem mlL_130 : Ml RL 130 yX10_seed := Or.inl (gT_of 1377 (by decide +kernel) rfl)
theorem mlL_134 : Ml RL 134 yX10_keep := Or.inl (gT_of 1381 (by decide +kernel) rfl)
theorem mlL_138 : Ml RL 138 yX10_goBack := Or.inl (gT_of 1385 (by decide +kernel) rfl)
theorem ckL_13 : Cond.constantLong RL 13 (4294967295) ∈ gT := gT_of 1389 (by decide +kernel) rfl
theorem ft0_0 : Ft 0 0 .int false := fun C Tt N h => by cases h; exact ⟨by decide +kernel, rfl⟩
theorem ft1_0 : Ft 1 0 (.object "ToldWays$Land") true := fun C Tt N h => by cases h; exact ⟨by decide +kernel, rfl⟩
theorem ft1_1 : Ft 1 1 (.object "ToldWays$Path") true := fun C Tt N h => by cases h; exact ⟨by decide +kernel, rfl⟩
theorem ft1_2 : Ft 1 2 (.array .int) true := fun C Tt N h => by cases h; exact ⟨by decide +kernel, rfl⟩
theorem ft1_3 : Ft 1 3 (.array .int) true := fun C Tt N h => by cases h; exact ⟨by decide +kernel, rfl⟩
theorem ft1_4 : Ft 1 4 (.array .int) true := fun C Tt N h => by cases h; exact ⟨by decide +kernel, rfl⟩
theorem ft1_5 : Ft 1 5 .int false := fun C Tt N h => by cases h; exact ⟨by decide +kernel, rfl⟩
theorem ft1_6 : Ft 1 6 .int false := fun C Tt N h => by cases h; exact ⟨by decide +kernel, rfl⟩
theorem ft1_7 : Ft 1 7 .int false := fun C Tt N h => by cases h; exact ⟨by decide +kernel, rfl⟩
theorem ft1_8 : Ft 1 8 .int false := fun C Tt N h => by cases h; exact ⟨by decide +kernel, rfl⟩
theorem ft1_9 : Ft 1 9 .int false := fun C Tt N h => by cases h; exact ⟨by decide +kernel, rfl⟩
theorem ft1_10 : Ft 1 10 .int false := fun C Tt N h => by cases h; exact ⟨by decide +kernel, rfl⟩
theorem ft1_11 : Ft 1 11 .long false := fun C Tt N h => by cases h; exact ⟨by decide +kernel, rfl⟩
theorem ft2_0 : Ft 2 0 (.array .int) true := fun C Tt N h => by cases h; exact ⟨by decide +kernel, rfl⟩
theorem ft2_1 : Ft 2 1 (.array .int) true := fun C Tt N h => by cases h; exact ⟨by decide +kernel, rfl⟩
theorem ft2_2 : Ft 2 2 .int false := fun C Tt N h => by cases h; exact ⟨by decide +kernel, rfl⟩
theorem ft2_3 : Ft 2 3 .int false := fun C Tt N h => by cases h; exact ⟨by decide +kernel, rfl⟩
theorem ft2_4 : Ft 2 4 .boolean false := fun C Tt N h => by cases h; exact ⟨by decide +kernel, rfl⟩
theorem ft3_0 : Ft 3 0 (.array .int) true := fun C Tt N h => by cases h; exact ⟨by decide +kernel, rfl⟩
theorem ft3_1 : Ft 3 1 (.array .int) true := fun C Tt N h => by cases h; exact ⟨by decide +kernel, rfl⟩
theorem ft3_2 : Ft 3 2 (.array .int) true := fun C Tt N h => by cases h; exact ⟨by decide +kernel, rfl⟩
theorem ft3_3 : Ft 3 3 (.array .int) true := fun C Tt N h => by cases h; exact ⟨by decide +kernel, rfl⟩
theorem ft3_4 : Ft 3 4 (.array .int) true := fun C Tt N h => by cases h; exact ⟨by decide +kernel, rfl⟩
theorem ft3_5 : Ft 3 5 (.array .int) true := fun C Tt N h => by cases h; exact ⟨by decide +kernel, rfl⟩
theorem ft3_6 : Ft 3 6 .int false := fun C Tt N h => by cases h; exact ⟨by decide +kernel, rfl⟩
theorem ft3_7 : Ft 3 7 .int false := fun C Tt N h => by cases h; exact ⟨by decide +kernel, rfl⟩
theorem ft4_0 : Ft 4 0 (.array .int) true := fun C Tt N h => by cases h; exact ⟨by decide +kernel, rfl⟩
theorem ft4_1 : Ft 4 1 (.array .int) true := fun C Tt N h => by cases h; exact ⟨by decide +kernel, rfl⟩
theorem ft4_2 : Ft 4 2 (.array .int) true := fun C Tt N h => by cases h; exact ⟨by decide +kernel, rfl⟩
theorem ft4_3 : Ft 4 3 (.array .int) true := fun C Tt N h => by cases h; exact ⟨by decide +kernel, rfl⟩
theorem ft4_4 : Ft 4 4 (.array .int) true := fun C Tt N h => by cases h; exact ⟨by decide +kernel, rfl⟩
theorem ft4_5 : Ft 4 5 (.array .int) true := fun C Tt N h => by cases h; exact ⟨by decide +kernel, rfl⟩
theorem ft4_6 : Ft 4 6 (.array .int) true := fun C Tt N h => by cases h; exact ⟨by decide +kernel, rfl⟩
theorem ft4_7 : Ft 4 7 (.array .int) true := fun C Tt N h => by cases h; exact ⟨by decide +kernel, rfl⟩
theorem ft4_8 : Ft 4 8 .int false := fun C Tt N h => by cases h; exact ⟨by decide +kernel, rfl⟩
theorem ft4_9 : Ft 4 9 .int false := fun C Tt N h => by cases h; exact ⟨by decide +kernel, rfl⟩
theorem ft4_10 : Ft 4 10 .int false := fun C Tt N h => by cases h; exact ⟨by decide +kernel, rfl⟩
theorem ft5_0 : Ft 5 0 (.object "ToldWays$Land") true := fun C Tt N h => by cases h; exact ⟨by decide +kernel, rfl⟩
theorem ft5_1 : Ft 5 1 (.object "ToldWays$Guides") true := fun C Tt N h => by cases h; exact ⟨by decide +kernel, rfl⟩
theorem ft5_2 : Ft 5 2 (.array .int) true := fun C Tt N h => by cases h; exact ⟨by decide +kernel, rfl⟩
theorem ft5_3 : Ft 5 3 (.array .int) true := fun C Tt N h => by cases h; exact ⟨by decide +kernel, rfl⟩
theorem ft5_4 : Ft 5 4 (.array .int) true := fun C Tt N h => by cases h; exact ⟨by decide +kernel, rfl⟩
theorem ft5_5 : Ft 5 5 (.array .int) true := fun C Tt N h => by cases h; exact ⟨by decide +kernel, rfl⟩
theorem ft5_6 : Ft 5 6 .int false := fun C Tt N h => by cases h; exact ⟨by decide +kernel, rfl⟩
theorem ft5_7 : Ft 5 7 .int false := fun C Tt N h => by cases h; exact ⟨by decide +kernel, rfl⟩
theorem ft5_8 : Ft 5 8 .int false := fun C Tt N h => by cases h; exact ⟨by decide +kernel, rfl⟩
theorem ft5_9 : Ft 5 9 .int false := fun C Tt N h => by cases h; exact ⟨by decide +kernel, rfl⟩
theorem ft5_10 : Ft 5 10 .int false := fun C Tt N h => by cases h; exact ⟨by decide +kernel, rfl⟩
theorem ft5_11 : Ft 5 11 .int false := fun C Tt N h => by cases h; exact ⟨by decide +kernel, rfl⟩
theorem ft6_0 : Ft 6 0 (.array .int) true := fun C Tt N h => by cases h; exact ⟨by decide +kernel, rfl⟩
theorem ft6_1 : Ft 6 1 (.array .int) true := fun C Tt N h => by cases h; exact ⟨by decide +kernel, rfl⟩
theorem ft6_2 : Ft 6 2 (.array .int) true := fun C Tt N h => by cases h; exact ⟨by decide +kernel, rfl⟩
theorem ft6_3 : Ft 6 3 .int false := fun C Tt N h => by cases h; exact ⟨by decide +kernel, rfl⟩
theorem ft7_0 : Ft 7 0 (.object "ToldWays$Land") true := fun C Tt N h => by cases h; exact ⟨by decide +kernel, rfl⟩
theorem ft7_1 : Ft 7 1 (.object "ToldWays$Text") false := fun C Tt N h => by cases h; exact ⟨by decide +kernel, rfl⟩
theorem ft7_2 : Ft 7 2 .int false := fun C Tt N h => by cases h; exact ⟨by decide +kernel, rfl⟩
theorem ft7_3 : Ft 7 3 .int false := fun C Tt N h => by cases h; exact ⟨by decide +kernel, rfl⟩
theorem ft7_4 : Ft 7 4 .int false := fun C Tt N h => by cases h; exact ⟨by decide +kernel, rfl⟩
theorem ft7_5 : Ft 7 5 .int false := fun C Tt N h => by cases h; exact ⟨by decide +kernel, rfl⟩
theorem ft7_6 : Ft 7 6 .boolean false := fun C Tt N h => by cases h; exact ⟨by decide +kernel, rfl⟩
theorem ft7_7 : Ft 7 7 .boolean false := fun C Tt N h => by cases h; exact ⟨by decide +kernel, rfl⟩
theorem ft7_8 : Ft 7 8 .int false := fun C Tt N h => by cases h; exact ⟨by decide +kernel, rfl⟩
theorem ft8_0 : Ft 8 0 (.array .int) true := fun C Tt N h => by cases h; exact ⟨by decide +kernel, rfl⟩
theorem ft8_1 : Ft 8 1 .int false := fun C Tt N h => by cases h; exact ⟨by decide +kernel, rfl⟩
theorem ft9_0 : Ft 9 0 (.object "ToldWays$Text") true := fun C Tt N h => by cases h; exact ⟨by decide +kernel, rfl⟩
theorem ft9_1 : Ft 9 1 (.object "ToldWays$Reader") true := fun C Tt N h => by cases h; exact ⟨by decide +kernel, rfl⟩
theorem ft9_2 : Ft 9 2 (.object "ToldWays$Land") true := fun C Tt N h => by cases h; exact ⟨by decide +kernel, rfl⟩
theorem ft9_3 : Ft 9 3 (.object "ToldWays$Path") true := fun C Tt N h => by cases h; exact ⟨by decide +kernel, rfl⟩
theorem ft9_4 : Ft 9 4 (.array ((.object "ToldWays$Guides"))) true := fun C Tt N h => by cases h; exact ⟨by decide +kernel, rfl⟩
theorem ft9_5 : Ft 9 5 (.object "ToldWays$Lessons") true := fun C Tt N h => by cases h; exact ⟨by decide +kernel, rfl⟩
theorem ft9_6 : Ft 9 6 (.object "ToldWays$Draws") true := fun C Tt N h => by cases h; exact ⟨by decide +kernel, rfl⟩
theorem ft9_7 : Ft 9 7 (.object "ToldWays$Journal") true := fun C Tt N h => by cases h; exact ⟨by decide +kernel, rfl⟩
theorem ft9_8 : Ft 9 8 (.array ((.object "ToldWays$Image"))) true := fun C Tt N h => by cases h; exact ⟨by decide +kernel, rfl⟩
theorem ft9_9 : Ft 9 9 .int false := fun C Tt N h => by cases h; exact ⟨by decide +kernel, rfl⟩
theorem ft10_0 : Ft 10 0 .int false := fun C Tt N h => by cases h; exact ⟨by decide +kernel, rfl⟩
theorem ft10_1 : Ft 10 1 .int false := fun C Tt N h => by cases h; exact ⟨by decide +kernel, rfl⟩
theorem ft10_2 : Ft 10 2 (.array .int) true := fun C Tt N h => by cases h; exact ⟨by decide +kernel, rfl⟩
theorem ft10_3 : Ft 10 3 (.array .int) true := fun C Tt N h => by cases h; exact ⟨by decide +kernel, rfl⟩
theorem ft10_4 : Ft 10 4 (.array .int) true := fun C Tt N h => by cases h; exact ⟨by decide +kernel, rfl⟩
theorem ft10_5 : Ft 10 5 .int false := fun C Tt N h => by cases h; exact ⟨by decide +kernel, rfl⟩
theorem ft10_6 : Ft 10 6 (.array .int) true := fun C Tt N h => by cases h; exact ⟨by decide +kernel, rfl⟩
theorem ft10_7 : Ft 10 7 (.array .int) true := fun C Tt N h => by cases h; exact ⟨by decide +kernel, rfl⟩
theorem ft10_8 : Ft 10 8 (.array .int) true := fun C Tt N h => by cases h; exact ⟨by decide +kernel, rfl⟩
theorem ft10_9 : Ft 10 9 (.array .int) true := fun C Tt N h => by cases h; exact ⟨by decide +kernel, rfl⟩
theorem ft10_10 : Ft 10 10 (.array .int) true := fun C Tt N h => by cases h; exact ⟨by decide +kernel, rfl⟩
theorem ft10_11 : Ft 10 11 .int false := fun C Tt N h => by cases h; exact ⟨by decide +kernel, rfl⟩
theorem ft10_12 : Ft 10 12 .int false := fun C Tt N h => by cases h; exact ⟨by decide +kernel, rfl⟩
theorem ft10_13 : Ft 10 13 (.array .int) true := fun C Tt N h => by cases h; exact ⟨by decide +kernel, rfl⟩
theorem ft10_14 : Ft 10 14 .int false := fun C Tt N h => by cases h; exact ⟨by decide +kernel, rfl⟩
theorem ft10_15 : Ft 10 15 .int false := fun C Tt N h => by cases h; exact ⟨by decide +kernel, rfl⟩
theorem ft10_16 : Ft 10 16 .int false := fun C Tt N h => by cases h; exact ⟨by decide +kernel, rfl⟩
theorem ft10_17 : Ft 10 17 .long false := fun C Tt N h => by cases h; exact ⟨by decide +kernel, rfl⟩
theorem ft10_18 : Ft 10 18 .int false := fun C Tt N h => by cases h; exact ⟨by decide +kernel, rfl⟩
theorem ft10_19 : Ft 10 19 .int false := fun C Tt N h => by cases h; exact ⟨by decide +kernel, rfl⟩
theorem ft10_20 : Ft 10 20 .int false := fun C Tt N h => by cases h; exact ⟨by decide +kernel, rfl⟩
theorem ft10_21 : Ft 10 21 .int false := fun C Tt N h => by cases h; exact ⟨by decide +kernel, rfl⟩
theorem ft10_22 : Ft 10 22 .int false := fun C Tt N h => by cases h; exact ⟨by decide +kernel, rfl⟩
theorem ft10_23 : Ft 10 23 (.array .int) true := fun C Tt N h => by cases h; exact ⟨by decide +kernel, rfl⟩
theorem ft10_24 : Ft 10 24 (.array .int) true := fun C Tt N h => by cases h; exact ⟨by decide +kernel, rfl⟩
theorem ft10_25 : Ft 10 25 (.array .int) true := fun C Tt N h => by cases h; exact ⟨by decide +kernel, rfl⟩
theorem ft10_26 : Ft 10 26 .int false := fun C Tt N h => by cases h; exact ⟨by decide +kernel, rfl⟩
theorem ft10_27 : Ft 10 27 (.array .int) true := fun C Tt N h => by cases h; exact ⟨by decide +kernel, rfl⟩
theorem ft10_28 : Ft 10 28 (.array .int) true := fun C Tt N h => by cases h; exact ⟨by decide +kernel, rfl⟩
theorem ft10_29 : Ft 10 29 (.array .int) true := fun C Tt N h => by cases h; exact ⟨by decide +kernel, rfl⟩
theorem ft10_30 : Ft 10 30 (.array .int) true := fun C Tt N h => by cases h; exact ⟨by decide +kernel, rfl⟩
theorem ft10_31 : Ft 10 31 (.array .int) true := fun C Tt N h => by cases h; exact ⟨by decide +kernel, rfl⟩
theorem ft10_32 : Ft 10 32 (.array .int) true := fun C Tt N h => by cases h; exact ⟨by decide +kernel, rfl⟩
theorem ft10_33 : Ft 10 33 .int false := fun C Tt N h => by cases h; exact ⟨by decide +kernel, rfl⟩
theorem ft10_34 : Ft 10 34 (.array .int) true := fun C Tt N h => by cases h; exact ⟨by decide +kernel, rfl⟩
theorem ft10_35 : Ft 10 35 (.array .int) true := fun C Tt N h => by cases h; exact ⟨by decide +kernel, rfl⟩
theorem ft10_36 : Ft 10 36 .int false := fun C Tt N h => by cases h; exact ⟨by decide +kernel, rfl⟩
theorem ft10_37 : Ft 10 37 (.array .int) true := fun C Tt N h => by cases h; exact ⟨by decide +kernel, rfl⟩
theorem ft10_38 : Ft 10 38 (.array .int) true := fun C Tt N h => by cases h; exact ⟨by decide +kernel, rfl⟩
theorem ft10_39 : Ft 10 39 (.array .int) true := fun C Tt N h => by cases h; exact ⟨by decide +kernel, rfl⟩
theorem ft10_40 : Ft 10 40 (.array .int) true := fun C Tt N h => by cases h; exact ⟨by decide +kernel, rfl⟩
theorem ft10_41 : Ft 10 41 (.array .int) true := fun C Tt N h => by cases h; exact ⟨by decide +kernel, rfl⟩
theorem ft10_42 : Ft 10 42 (.array .int) true := fun C Tt N h => by cases h; exact ⟨by decide +kernel, rfl⟩
theorem ft10_43 : Ft 10 43 (.array .long) true := fun C Tt N h => by cases h; exact ⟨by decide +kernel, rfl⟩
theorem ft10_44 : Ft 10 44 .int false := fun C Tt N h => by cases h; exact ⟨by decide +kernel, rfl⟩
theorem ft10_45 : Ft 10 45 .int false := fun C Tt N h => by cases h; exact ⟨by decide +kernel, rfl⟩
theorem ft10_46 : Ft 10 46 .int false := fun C Tt N h => by cases h; exact ⟨by decide +kernel, rfl⟩
theorem ft10_47 : Ft 10 47 .int false := fun C Tt N h => by cases h; exact ⟨by decide +kernel, rfl⟩
theorem ft10_48 : Ft 10 48 (.array .int) true := fun C Tt N h => by cases h; exact ⟨by decide +kernel, rfl⟩
theorem ft10_49 : Ft 10 49 (.array .int) true := fun C Tt N h => by cases h; exact ⟨by decide +kernel, rfl⟩
theorem ft10_50 : Ft 10 50 .int false := fun C Tt N h => by cases h; exact ⟨by decide +kernel, rfl⟩
theorem ft10_51 : Ft 10 51 (.array .int) true := fun C Tt N h => by cases h; exact ⟨by decide +kernel, rfl⟩
theorem ft10_52 : Ft 10 52 (.array .int) true := fun C Tt N h => by cases h; exact ⟨by decide +kernel, rfl⟩
theorem ft10_53 : Ft 10 53 (.array .int) true := fun C Tt N h => by cases h; exact ⟨by decide +kernel, rfl⟩
theorem ft10_54 : Ft 10 54 (.array .int) true := fun C Tt N h => by cases h; exact ⟨by decide +kernel, rfl⟩
theorem ft10_55 : Ft 10 55 (.array .int) true := fun C Tt N h => by cases h; exact ⟨by decide +kernel, rfl⟩
theorem ft10_56 : Ft 10 56 (.array .boolean) true := fun C Tt N h => by cases h; exact ⟨by decide +kernel, rfl⟩
