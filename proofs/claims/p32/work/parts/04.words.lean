def GA : List Cond := lw_tbl.filter goodWord
theorem ga_mem {w : Cond} (i : Nat) (h : lw_tbl[i]? = some w) (hg : goodWord w = true) : w ∈ GA := List.mem_filter.mpr ⟨List.mem_of_getElem? h, hg⟩
theorem ga_in {ws : List Cond} (ps : List Nat) (hp : ws = ps.filterMap (fun i => lw_tbl[i]?)) (hg : ws.all goodWord = true) : ∀ w ∈ ws, w ∈ GA := fun w hw => List.mem_filter.mpr ⟨by
  rw [hp] at hw
  obtain ⟨i, -, hi⟩ := List.mem_filterMap.mp hw
  exact List.mem_of_getElem? hi, List.all_eq_true.mp hg w hw⟩
def gN : Nat → Nat := fun c => match c with
  | 0 => 3
  | 1 => 12
  | 2 => 7
  | 3 => 5
  | 4 => 15
  | 5 => 7
  | _ => 3
/-- 0 an int, 1 a long, 2 a reference -/
def gK : Nat → Nat → Nat := fun c j => match c with
  | 0 => [0, 0, 2].getD j 2
  | 1 => [0, 0, 0, 0, 0, 0, 0, 0, 0, 0, 0, 0].getD j 2
  | 2 => [2, 0, 0, 0, 2, 2, 2].getD j 2
  | 3 => [0, 0, 2, 0, 2].getD j 2
  | 4 => [0, 0, 0, 0, 0, 0, 0, 0, 0, 0, 2, 2, 2, 2, 2].getD j 2
  | 5 => [0, 0, 0, 0, 0, 0, 2].getD j 2
  | _ => [2, 2, 2].getD j 2
def gNM : List (String × Nat × MethodName × String) := [(RX2, 33, yX6_init, "ShaftPlumb"), (RX2, 34, yX1_init, "ShaftPlumb"), (RX2, 35, yX5_init, "ShaftPlumb"), (RX7, 25, yX4_init, "ShaftPlumb"), (RX0, 22, yX7_isIn, "ShaftPlumb"), (RX2, 92, yX7_isIn, "ShaftPlumb")]
def gNF : List (String × Nat × String × String × String × String) := [(RX2, 96, "ShaftPlumb", "LEAST_SETTINGS", "[I", "ShaftPlumb"), (RX2, 99, "ShaftPlumb", "GREATEST_SETTINGS", "[I", "ShaftPlumb")]
def gStr : List (String × Nat × String) := [(RX7, 64, "a coordinate is out of range"), (RX7, 72, "there are 6 wires"), (RX7, 278, "no such wire or traverse"), (RX7, 280, "an argument is out of range"), (RX7, 282, "not as things stand"), (RX7, 88, "no such wire"), (RX7, 108, "the same wire twice, or an argument out of range"), (RX7, 113, "there are 4 joins"), (RX7, 36, "no such setting, or a value out of its range"), (RX7, 123, "no such join"), (RX7, 125, "the small angle is out of range"), (RX7, 136, "there are 4 traverses"), (RX7, 145, "no such traverse or join"), (RX7, 152, "the first join, or an angle out of range"), (RX7, 157, "the traverse has no legs"), (RX7, 56, "what is 0 to 7"), (RX7, 97, "what is 0 to 5"), (RX7, 166, "no such traverse"), (RX7, 168, "what is 0 to 9"), (RX7, 174, "no such traverse or leg"), (RX7, 176, "what is 0 to 4")]
def gCast : List (String × String) := [("java/lang/IllegalArgumentException", "java/lang/IllegalArgumentException"), ("java/lang/IllegalStateException", "java/lang/IllegalStateException"), ("java/lang/IndexOutOfBoundsException", "java/lang/IndexOutOfBoundsException")]
def gNCast : List (String × String) := [("java/lang/IllegalArgumentException", "java/lang/IllegalStateException"), ("java/lang/IllegalArgumentException", "java/lang/IndexOutOfBoundsException"), ("java/lang/IllegalStateException", "java/lang/IllegalArgumentException"), ("java/lang/IllegalStateException", "java/lang/IndexOutOfBoundsException"), ("java/lang/IndexOutOfBoundsException", "java/lang/IllegalArgumentException"), ("java/lang/IndexOutOfBoundsException", "java/lang/IllegalStateException")]
def gAO : List String := ["ShaftPlumb$Wire", "ShaftPlumb$Join", "ShaftPlumb$Traverse", "ShaftPlumb$Mine"]
def gDecl : List MethodName := [⟨"java/lang/RuntimeException", "<init>", "()V"⟩, ⟨"java/lang/RuntimeException", "<init>", "(Ljava/lang/String;)V"⟩, ⟨"java/lang/Exception", "<init>", "()V"⟩, ⟨"java/lang/Exception", "<init>", "(Ljava/lang/String;)V"⟩, ⟨"java/lang/Throwable", "<init>", "()V"⟩, ⟨"java/lang/Throwable", "<init>", "(Ljava/lang/String;)V"⟩]
theorem kL_10 : Cond.classLink RL 10 RX7 ∈ GA := ga_mem 29 (by decide +kernel) rfl
theorem kL_238 : Cond.methodLink RL 238 yX7_init ∈ GA := ga_mem 31 (by decide +kernel) rfl
theorem kX7_1 : Cond.methodLink RX7 1 objectInit ∈ GA := ga_mem 34 (by decide +kernel) rfl
theorem kX7_7 : Cond.classLink RX7 7 RX2 ∈ GA := ga_mem 37 (by decide +kernel) rfl
theorem kX7_9 : Cond.methodLink RX7 9 yX2_init ∈ GA := ga_mem 39 (by decide +kernel) rfl
theorem kX2_3 : Cond.methodLink RX2 3 objectInit ∈ GA := ga_mem 42 (by decide +kernel) rfl
theorem kX2_15 : Cond.classLink RX2 15 RX6 ∈ GA := ga_mem 43 (by decide +kernel) rfl
theorem kX2_21 : Cond.classLink RX2 21 RX1 ∈ GA := ga_mem 45 (by decide +kernel) rfl
theorem kX2_27 : Cond.classLink RX2 27 RX5 ∈ GA := ga_mem 47 (by decide +kernel) rfl
theorem kX6_3 : Cond.methodLink RX6 3 objectInit ∈ GA := ga_mem 53 (by decide +kernel) rfl
theorem kX6_15 : Cond.fieldLink RX6 15 "ShaftPlumb$Wire" "east" "I" ∈ GA := ga_mem 54 (by decide +kernel) rfl
theorem kX1_30 : Cond.fieldLink RX1 30 "ShaftPlumb$Wire" "east" "I" ∈ GA := ga_mem 55 (by decide +kernel) rfl
theorem kX6_19 : Cond.fieldLink RX6 19 "ShaftPlumb$Wire" "north" "I" ∈ GA := ga_mem 56 (by decide +kernel) rfl
theorem kX1_36 : Cond.fieldLink RX1 36 "ShaftPlumb$Wire" "north" "I" ∈ GA := ga_mem 57 (by decide +kernel) rfl
theorem kX6_22 : Cond.fieldLink RX6 22 "ShaftPlumb$Wire" "turnCount" "I" ∈ GA := ga_mem 58 (by decide +kernel) rfl
theorem kX2_113 : Cond.fieldLink RX2 113 "ShaftPlumb$Wire" "turnCount" "I" ∈ GA := ga_mem 59 (by decide +kernel) rfl
theorem kX7_298 : Cond.fieldLink RX7 298 "ShaftPlumb$Wire" "turnCount" "I" ∈ GA := ga_mem 60 (by decide +kernel) rfl
theorem kX1_47 : Cond.fieldLink RX1 47 "ShaftPlumb$Wire" "rest" "I" ∈ GA := ga_mem 61 (by decide +kernel) rfl
theorem kX6_35 : Cond.fieldLink RX6 35 "ShaftPlumb$Wire" "rest" "I" ∈ GA := ga_mem 62 (by decide +kernel) rfl
theorem kX6_41 : Cond.fieldLink RX6 41 "ShaftPlumb$Wire" "spread" "I" ∈ GA := ga_mem 63 (by decide +kernel) rfl
theorem kX1_40 : Cond.fieldLink RX1 40 "ShaftPlumb$Wire" "trouble" "I" ∈ GA := ga_mem 64 (by decide +kernel) rfl
theorem kX6_44 : Cond.fieldLink RX6 44 "ShaftPlumb$Wire" "trouble" "I" ∈ GA := ga_mem 65 (by decide +kernel) rfl
theorem kX6_9 : Cond.fieldLink RX6 9 "ShaftPlumb$Wire" "turns" "[I" ∈ GA := ga_mem 66 (by decide +kernel) rfl
theorem kX1_3 : Cond.methodLink RX1 3 objectInit ∈ GA := ga_mem 87 (by decide +kernel) rfl
theorem kX1_9 : Cond.fieldLink RX1 9 "ShaftPlumb$Join" "near" "I" ∈ GA := ga_mem 88 (by decide +kernel) rfl
theorem kX2_66 : Cond.fieldLink RX2 66 "ShaftPlumb$Join" "near" "I" ∈ GA := ga_mem 89 (by decide +kernel) rfl
theorem kX1_15 : Cond.fieldLink RX1 15 "ShaftPlumb$Join" "far" "I" ∈ GA := ga_mem 90 (by decide +kernel) rfl
theorem kX2_73 : Cond.fieldLink RX2 73 "ShaftPlumb$Join" "far" "I" ∈ GA := ga_mem 91 (by decide +kernel) rfl
theorem kX1_27 : Cond.fieldLink RX1 27 "ShaftPlumb$Join" "g" "I" ∈ GA := ga_mem 92 (by decide +kernel) rfl
theorem kX7_127 : Cond.fieldLink RX7 127 "ShaftPlumb$Join" "g" "I" ∈ GA := ga_mem 93 (by decide +kernel) rfl
theorem kX1_35 : Cond.fieldLink RX1 35 "ShaftPlumb$Join" "east" "I" ∈ GA := ga_mem 94 (by decide +kernel) rfl
theorem kX5_103 : Cond.fieldLink RX5 103 "ShaftPlumb$Join" "east" "I" ∈ GA := ga_mem 95 (by decide +kernel) rfl
theorem kX1_39 : Cond.fieldLink RX1 39 "ShaftPlumb$Join" "north" "I" ∈ GA := ga_mem 96 (by decide +kernel) rfl
theorem kX5_112 : Cond.fieldLink RX5 112 "ShaftPlumb$Join" "north" "I" ∈ GA := ga_mem 97 (by decide +kernel) rfl
theorem kX1_43 : Cond.fieldLink RX1 43 "ShaftPlumb$Join" "cause" "I" ∈ GA := ga_mem 98 (by decide +kernel) rfl
theorem kX2_131 : Cond.fieldLink RX2 131 "ShaftPlumb$Join" "cause" "I" ∈ GA := ga_mem 99 (by decide +kernel) rfl
theorem kX1_46 : Cond.fieldLink RX1 46 "ShaftPlumb$Join" "trouble" "I" ∈ GA := ga_mem 100 (by decide +kernel) rfl
theorem kX5_86 : Cond.fieldLink RX5 86 "ShaftPlumb$Join" "trouble" "I" ∈ GA := ga_mem 101 (by decide +kernel) rfl
theorem kX2_130 : Cond.fieldLink RX2 130 "ShaftPlumb$Join" "trouble" "I" ∈ GA := ga_mem 102 (by decide +kernel) rfl
theorem kX1_66 : Cond.fieldLink RX1 66 "ShaftPlumb$Join" "start" "I" ∈ GA := ga_mem 103 (by decide +kernel) rfl
theorem kX5_94 : Cond.fieldLink RX5 94 "ShaftPlumb$Join" "start" "I" ∈ GA := ga_mem 104 (by decide +kernel) rfl
theorem kX1_18 : Cond.fieldLink RX1 18 "ShaftPlumb$Join" "bearing" "I" ∈ GA := ga_mem 105 (by decide +kernel) rfl
theorem kX1_21 : Cond.fieldLink RX1 21 "ShaftPlumb$Join" "c" "I" ∈ GA := ga_mem 106 (by decide +kernel) rfl
theorem kX1_24 : Cond.fieldLink RX1 24 "ShaftPlumb$Join" "a" "I" ∈ GA := ga_mem 107 (by decide +kernel) rfl
theorem kX1_58 : Cond.fieldLink RX1 58 "ShaftPlumb$Join" "swung" "I" ∈ GA := ga_mem 108 (by decide +kernel) rfl
theorem kX5_3 : Cond.methodLink RX5 3 objectInit ∈ GA := ga_mem 138 (by decide +kernel) rfl
theorem kX5_27 : Cond.fieldLink RX5 27 "ShaftPlumb$Traverse" "firstJoin" "I" ∈ GA := ga_mem 139 (by decide +kernel) rfl
theorem kX2_79 : Cond.fieldLink RX2 79 "ShaftPlumb$Traverse" "firstJoin" "I" ∈ GA := ga_mem 140 (by decide +kernel) rfl
theorem kX7_147 : Cond.fieldLink RX7 147 "ShaftPlumb$Traverse" "firstJoin" "I" ∈ GA := ga_mem 141 (by decide +kernel) rfl
theorem kX5_31 : Cond.fieldLink RX5 31 "ShaftPlumb$Traverse" "lastJoin" "I" ∈ GA := ga_mem 142 (by decide +kernel) rfl
theorem kX2_86 : Cond.fieldLink RX2 86 "ShaftPlumb$Traverse" "lastJoin" "I" ∈ GA := ga_mem 143 (by decide +kernel) rfl
theorem kX5_37 : Cond.fieldLink RX5 37 "ShaftPlumb$Traverse" "legCount" "I" ∈ GA := ga_mem 144 (by decide +kernel) rfl
theorem kX2_110 : Cond.fieldLink RX2 110 "ShaftPlumb$Traverse" "legCount" "I" ∈ GA := ga_mem 145 (by decide +kernel) rfl
theorem kX7_154 : Cond.fieldLink RX7 154 "ShaftPlumb$Traverse" "legCount" "I" ∈ GA := ga_mem 146 (by decide +kernel) rfl
theorem kX5_51 : Cond.fieldLink RX5 51 "ShaftPlumb$Traverse" "trouble" "I" ∈ GA := ga_mem 147 (by decide +kernel) rfl
theorem kX7_163 : Cond.fieldLink RX7 163 "ShaftPlumb$Traverse" "trouble" "I" ∈ GA := ga_mem 148 (by decide +kernel) rfl
theorem kX2_127 : Cond.fieldLink RX2 127 "ShaftPlumb$Traverse" "trouble" "I" ∈ GA := ga_mem 149 (by decide +kernel) rfl
theorem kX5_34 : Cond.fieldLink RX5 34 "ShaftPlumb$Traverse" "closingAngle" "I" ∈ GA := ga_mem 150 (by decide +kernel) rfl
theorem kX5_61 : Cond.fieldLink RX5 61 "ShaftPlumb$Traverse" "gap" "I" ∈ GA := ga_mem 151 (by decide +kernel) rfl
theorem kX5_100 : Cond.fieldLink RX5 100 "ShaftPlumb$Traverse" "eastAtEnd" "I" ∈ GA := ga_mem 152 (by decide +kernel) rfl
theorem kX5_109 : Cond.fieldLink RX5 109 "ShaftPlumb$Traverse" "northAtEnd" "I" ∈ GA := ga_mem 153 (by decide +kernel) rfl
theorem kX5_106 : Cond.fieldLink RX5 106 "ShaftPlumb$Traverse" "missEast" "I" ∈ GA := ga_mem 154 (by decide +kernel) rfl
theorem kX5_115 : Cond.fieldLink RX5 115 "ShaftPlumb$Traverse" "missNorth" "I" ∈ GA := ga_mem 155 (by decide +kernel) rfl
theorem kX5_9 : Cond.fieldLink RX5 9 "ShaftPlumb$Traverse" "angles" "[I" ∈ GA := ga_mem 156 (by decide +kernel) rfl
theorem kX5_15 : Cond.fieldLink RX5 15 "ShaftPlumb$Traverse" "lengths" "[I" ∈ GA := ga_mem 157 (by decide +kernel) rfl
theorem kX5_18 : Cond.fieldLink RX5 18 "ShaftPlumb$Traverse" "bearings" "[I" ∈ GA := ga_mem 158 (by decide +kernel) rfl
theorem kX5_21 : Cond.fieldLink RX5 21 "ShaftPlumb$Traverse" "easts" "[I" ∈ GA := ga_mem 159 (by decide +kernel) rfl
theorem kX5_24 : Cond.fieldLink RX5 24 "ShaftPlumb$Traverse" "norths" "[I" ∈ GA := ga_mem 160 (by decide +kernel) rfl
theorem kX2_9 : Cond.fieldLink RX2 9 "ShaftPlumb$Mine" "settings" "[I" ∈ GA := ga_mem 192 (by decide +kernel) rfl
theorem kX2_42 : Cond.fieldLink RX2 42 "ShaftPlumb$Mine" "wireCount" "I" ∈ GA := ga_mem 193 (by decide +kernel) rfl
theorem kX7_66 : Cond.fieldLink RX7 66 "ShaftPlumb$Mine" "wireCount" "I" ∈ GA := ga_mem 194 (by decide +kernel) rfl
theorem kX2_46 : Cond.fieldLink RX2 46 "ShaftPlumb$Mine" "joinCount" "I" ∈ GA := ga_mem 195 (by decide +kernel) rfl
theorem kX7_110 : Cond.fieldLink RX7 110 "ShaftPlumb$Mine" "joinCount" "I" ∈ GA := ga_mem 196 (by decide +kernel) rfl
theorem kX2_49 : Cond.fieldLink RX2 49 "ShaftPlumb$Mine" "traverseCount" "I" ∈ GA := ga_mem 197 (by decide +kernel) rfl
theorem kX7_133 : Cond.fieldLink RX7 133 "ShaftPlumb$Mine" "traverseCount" "I" ∈ GA := ga_mem 198 (by decide +kernel) rfl
theorem kX2_17 : Cond.fieldLink RX2 17 "ShaftPlumb$Mine" "wires" "[LShaftPlumb$Wire;" ∈ GA := ga_mem 199 (by decide +kernel) rfl
theorem kX2_23 : Cond.fieldLink RX2 23 "ShaftPlumb$Mine" "joins" "[LShaftPlumb$Join;" ∈ GA := ga_mem 200 (by decide +kernel) rfl
theorem kX2_29 : Cond.fieldLink RX2 29 "ShaftPlumb$Mine" "traverses" "[LShaftPlumb$Traverse;" ∈ GA := ga_mem 201 (by decide +kernel) rfl
theorem kX7_16 : Cond.classLink RX7 16 RX0 ∈ GA := ga_mem 217 (by decide +kernel) rfl
theorem kX7_18 : Cond.methodLink RX7 18 yX0_init ∈ GA := ga_mem 219 (by decide +kernel) rfl
theorem kX0_3 : Cond.methodLink RX0 3 objectInit ∈ GA := ga_mem 222 (by decide +kernel) rfl
theorem kX0_9 : Cond.classLink RX0 9 RX2 ∈ GA := ga_mem 223 (by decide +kernel) rfl
theorem kX0_17 : Cond.methodLink RX0 17 yX2_init ∈ GA := ga_mem 225 (by decide +kernel) rfl
theorem kX0_30 : Cond.fieldLink RX0 30 "ShaftPlumb$Copies" "count" "I" ∈ GA := ga_mem 226 (by decide +kernel) rfl
theorem kX0_18 : Cond.fieldLink RX0 18 "ShaftPlumb$Copies" "latest" "I" ∈ GA := ga_mem 227 (by decide +kernel) rfl
theorem kX0_11 : Cond.fieldLink RX0 11 "ShaftPlumb$Copies" "kept" "[LShaftPlumb$Mine;" ∈ GA := ga_mem 228 (by decide +kernel) rfl
theorem kX7_23 : Cond.classLink RX7 23 RX4 ∈ GA := ga_mem 236 (by decide +kernel) rfl
theorem kX4_3 : Cond.methodLink RX4 3 objectInit ∈ GA := ga_mem 241 (by decide +kernel) rfl
theorem kX4_9 : Cond.fieldLink RX4 9 "ShaftPlumb$Script" "numbers" "[I" ∈ GA := ga_mem 242 (by decide +kernel) rfl
theorem kX4_15 : Cond.fieldLink RX4 15 "ShaftPlumb$Script" "text" "[C" ∈ GA := ga_mem 243 (by decide +kernel) rfl
theorem kX7_10 : Cond.fieldLink RX7 10 "ShaftPlumb" "mine" "LShaftPlumb$Mine;" ∈ GA := ga_mem 256 (by decide +kernel) rfl
theorem kX7_19 : Cond.fieldLink RX7 19 "ShaftPlumb" "copies" "LShaftPlumb$Copies;" ∈ GA := ga_mem 257 (by decide +kernel) rfl
theorem kX7_26 : Cond.fieldLink RX7 26 "ShaftPlumb" "script" "LShaftPlumb$Script;" ∈ GA := ga_mem 258 (by decide +kernel) rfl
theorem kL_243 : Cond.methodLink RL 243 yL_cell ∈ GA := ga_mem 266 (by decide +kernel) rfl
theorem kL_7 : Cond.constant RL 7 (40503) ∈ GA := ga_mem 269 (by decide +kernel) rfl
theorem kL_167 : Cond.methodLink RL 167 yL_low ∈ GA := ga_mem 270 (by decide +kernel) rfl
theorem kL_8 : Cond.constant RL 8 (2147483647) ∈ GA := ga_mem 273 (by decide +kernel) rfl
theorem kL_170 : Cond.methodLink RL 170 yL_lays ∈ GA := ga_mem 274 (by decide +kernel) rfl
theorem kL_131 : Cond.methodLink RL 131 yL_hangs ∈ GA := ga_mem 277 (by decide +kernel) rfl
theorem kL_15 : Cond.classLink RL 15 "java/lang/IllegalArgumentException" ∈ GA := ga_mem 280 (by decide +kernel) rfl
theorem kL_21 : Cond.classLink RL 21 "java/lang/IllegalStateException" ∈ GA := ga_mem 281 (by decide +kernel) rfl
theorem kL_18 : Cond.methodLink RL 18 yX7_hang ∈ GA := ga_mem 282 (by decide +kernel) rfl
theorem kX7_62 : Cond.constant RX7 62 (-1000000) ∈ GA := ga_mem 286 (by decide +kernel) rfl
theorem kX7_63 : Cond.constant RX7 63 (1000000) ∈ GA := ga_mem 287 (by decide +kernel) rfl
theorem kX7_52 : Cond.methodLink RX7 52 yX7_isIn ∈ GA := ga_mem 288 (by decide +kernel) rfl
theorem kX7_34 : Cond.classLink RX7 34 "java/lang/IllegalArgumentException" ∈ GA := ga_mem 291 (by decide +kernel) rfl
theorem kX7_38 : Cond.methodLink RX7 38 ⟨"java/lang/IllegalArgumentException", "<init>", "(Ljava/lang/String;)V"⟩ ∈ GA := ga_mem 333 (by decide +kernel) rfl
theorem kX7_70 : Cond.classLink RX7 70 "java/lang/IllegalStateException" ∈ GA := ga_mem 359 (by decide +kernel) rfl
theorem kX7_74 : Cond.methodLink RX7 74 ⟨"java/lang/IllegalStateException", "<init>", "(Ljava/lang/String;)V"⟩ ∈ GA := ga_mem 369 (by decide +kernel) rfl
theorem kX7_41 : Cond.methodLink RX7 41 yX0_keep ∈ GA := ga_mem 375 (by decide +kernel) rfl
theorem kX0_26 : Cond.methodLink RX0 26 yX2_copyFrom ∈ GA := ga_mem 380 (by decide +kernel) rfl
theorem kX2_36 : Cond.methodLink RX2 36 arraycopyName ∈ GA := ga_mem 384 (by decide +kernel) rfl
theorem kX2_52 : Cond.methodLink RX2 52 yX6_copyFrom ∈ GA := ga_mem 387 (by decide +kernel) rfl
theorem kX6_25 : Cond.methodLink RX6 25 arraycopyName ∈ GA := ga_mem 391 (by decide +kernel) rfl
theorem kX2_56 : Cond.methodLink RX2 56 yX1_copyFrom ∈ GA := ga_mem 392 (by decide +kernel) rfl
theorem kX2_59 : Cond.methodLink RX2 59 yX5_copyFrom ∈ GA := ga_mem 396 (by decide +kernel) rfl
theorem kX5_40 : Cond.methodLink RX5 40 arraycopyName ∈ GA := ga_mem 400 (by decide +kernel) rfl
theorem kX0_33 : Cond.methodLink RX0 33 Lib.Math.min.name ∈ GA := ga_mem 401 (by decide +kernel) rfl
theorem kX7_75 : Cond.methodLink RX7 75 yX2_addWire ∈ GA := ga_mem 404 (by decide +kernel) rfl
theorem kX2_102 : Cond.constant RX2 102 (-2000000000) ∈ GA := ga_mem 409 (by decide +kernel) rfl
theorem kX2_116 : Cond.methodLink RX2 116 yX6_hangAt ∈ GA := ga_mem 410 (by decide +kernel) rfl
theorem kX7_49 : Cond.methodLink RX7 49 yX2_judge ∈ GA := ga_mem 414 (by decide +kernel) rfl
theorem kX2_62 : Cond.methodLink RX2 62 yX6_judge ∈ GA := ga_mem 418 (by decide +kernel) rfl
theorem kX6_31 : Cond.methodLink RX6 31 yX6_meanOfTurns ∈ GA := ga_mem 422 (by decide +kernel) rfl
theorem kX6_47 : Cond.constant RX6 47 (-2000000000) ∈ GA := ga_mem 426 (by decide +kernel) rfl
theorem kX6_48 : Cond.methodLink RX6 48 yX3_quotient ∈ GA := ga_mem 427 (by decide +kernel) rfl
theorem kX6_38 : Cond.methodLink RX6 38 yX6_greatestDifference ∈ GA := ga_mem 430 (by decide +kernel) rfl
theorem kX6_54 : Cond.methodLink RX6 54 Lib.Math.abs.name ∈ GA := ga_mem 434 (by decide +kernel) rfl
theorem kX6_60 : Cond.methodLink RX6 60 Lib.Math.max.name ∈ GA := ga_mem 437 (by decide +kernel) rfl
theorem kX2_69 : Cond.methodLink RX2 69 yX2_wireAt ∈ GA := ga_mem 440 (by decide +kernel) rfl
theorem kX2_76 : Cond.methodLink RX2 76 yX1_judge ∈ GA := ga_mem 444 (by decide +kernel) rfl
theorem kX1_50 : Cond.constantLong RX1 50 (20626) ∈ GA := ga_mem 448 (by decide +kernel) rfl
theorem kX1_52 : Cond.methodLink RX1 52 yX3_quotient ∈ GA := ga_mem 449 (by decide +kernel) rfl
theorem kX1_61 : Cond.constant RX1 61 (-2000000000) ∈ GA := ga_mem 450 (by decide +kernel) rfl
theorem kX1_62 : Cond.methodLink RX1 62 yX1_startWith ∈ GA := ga_mem 451 (by decide +kernel) rfl
theorem kX1_69 : Cond.methodLink RX1 69 yX3_norm ∈ GA := ga_mem 455 (by decide +kernel) rfl
theorem kX3_9 : Cond.constant RX3 9 (1296000) ∈ GA := ga_mem 458 (by decide +kernel) rfl
theorem kX2_82 : Cond.methodLink RX2 82 yX2_joinAt ∈ GA := ga_mem 459 (by decide +kernel) rfl
theorem kX2_89 : Cond.methodLink RX2 89 yX5_judge ∈ GA := ga_mem 463 (by decide +kernel) rfl
theorem kX5_89 : Cond.methodLink RX5 89 yX5_layOut ∈ GA := ga_mem 467 (by decide +kernel) rfl
theorem kX5_93 : Cond.constant RX5 93 (648000) ∈ GA := ga_mem 471 (by decide +kernel) rfl
theorem kX5_79 : Cond.methodLink RX5 79 yX3_norm ∈ GA := ga_mem 472 (by decide +kernel) rfl
theorem kX5_122 : Cond.methodLink RX5 122 yX3_sineOf ∈ GA := ga_mem 473 (by decide +kernel) rfl
theorem kX3_11 : Cond.methodLink RX3 11 yX3_norm ∈ GA := ga_mem 476 (by decide +kernel) rfl
theorem kX3_10 : Cond.constant RX3 10 (648000) ∈ GA := ga_mem 477 (by decide +kernel) rfl
theorem kX3_17 : Cond.constantLong RX3 17 (648000) ∈ GA := ga_mem 478 (by decide +kernel) rfl
theorem kX3_19 : Cond.constantLong RX3 19 (40000) ∈ GA := ga_mem 479 (by decide +kernel) rfl
theorem kX3_21 : Cond.constantLong RX3 21 (524880000000) ∈ GA := ga_mem 480 (by decide +kernel) rfl
theorem kX3_23 : Cond.methodLink RX3 23 yX3_quotient ∈ GA := ga_mem 481 (by decide +kernel) rfl
theorem kX5_125 : Cond.methodLink RX5 125 yX5_step ∈ GA := ga_mem 482 (by decide +kernel) rfl
theorem kX5_130 : Cond.constantLong RX5 130 (10000) ∈ GA := ga_mem 485 (by decide +kernel) rfl
theorem kX5_64 : Cond.methodLink RX5 64 yX3_quotient ∈ GA := ga_mem 486 (by decide +kernel) rfl
theorem kX5_129 : Cond.constant RX5 129 (324000) ∈ GA := ga_mem 487 (by decide +kernel) rfl
theorem kX5_97 : Cond.methodLink RX5 97 yX3_centre ∈ GA := ga_mem 488 (by decide +kernel) rfl
theorem kX5_74 : Cond.methodLink RX5 74 Lib.Math.abs.name ∈ GA := ga_mem 491 (by decide +kernel) rfl
theorem kX5_118 : Cond.methodLink RX5 118 yX3_rootOf ∈ GA := ga_mem 492 (by decide +kernel) rfl
theorem kL_17 : Cond.constant RL 17 (-2000002) ∈ GA := ga_mem 495 (by decide +kernel) rfl
theorem kL_23 : Cond.constant RL 23 (-2000003) ∈ GA := ga_mem 496 (by decide +kernel) rfl
theorem kL_135 : Cond.constant RL 135 (1000001) ∈ GA := ga_mem 497 (by decide +kernel) rfl
theorem kL_136 : Cond.methodLink RL 136 yL_swings ∈ GA := ga_mem 498 (by decide +kernel) rfl
theorem kL_27 : Cond.classLink RL 27 "java/lang/IndexOutOfBoundsException" ∈ GA := ga_mem 501 (by decide +kernel) rfl
theorem kL_24 : Cond.methodLink RL 24 yX7_swing ∈ GA := ga_mem 502 (by decide +kernel) rfl
theorem kX7_78 : Cond.methodLink RX7 78 yX7_order ∈ GA := ga_mem 506 (by decide +kernel) rfl
theorem kX7_275 : Cond.methodLink RX7 275 yX7_refusalOf ∈ GA := ga_mem 510 (by decide +kernel) rfl
theorem kX7_82 : Cond.methodLink RX7 82 yX2_wireAt ∈ GA := ga_mem 514 (by decide +kernel) rfl
theorem kX7_287 : Cond.methodLink RX7 287 yX7_refusalOfTurn ∈ GA := ga_mem 515 (by decide +kernel) rfl
theorem kX7_141 : Cond.methodLink RX7 141 yX2_traverseAt ∈ GA := ga_mem 518 (by decide +kernel) rfl
theorem kX7_291 : Cond.methodLink RX7 291 yX7_refusalOfLeg ∈ GA := ga_mem 522 (by decide +kernel) rfl
theorem kX7_100 : Cond.methodLink RX7 100 yX7_isBearing ∈ GA := ga_mem 525 (by decide +kernel) rfl
theorem kX7_313 : Cond.constant RX7 313 (1295999) ∈ GA := ga_mem 528 (by decide +kernel) rfl
theorem kX7_301 : Cond.constant RX7 301 (200000) ∈ GA := ga_mem 529 (by decide +kernel) rfl
theorem kX7_294 : Cond.methodLink RX7 294 yX5_isClosed ∈ GA := ga_mem 530 (by decide +kernel) rfl
theorem kX5_46 : Cond.constant RX5 46 (-2000000000) ∈ GA := ga_mem 534 (by decide +kernel) rfl
theorem kX7_86 : Cond.classLink RX7 86 "java/lang/IndexOutOfBoundsException" ∈ GA := ga_mem 535 (by decide +kernel) rfl
theorem kX7_90 : Cond.methodLink RX7 90 ⟨"java/lang/IndexOutOfBoundsException", "<init>", "(Ljava/lang/String;)V"⟩ ∈ GA := ga_mem 545 (by decide +kernel) rfl
theorem kX7_284 : Cond.methodLink RX7 284 yX7_carryOut ∈ GA := ga_mem 553 (by decide +kernel) rfl
theorem kX7_189 : Cond.constant RX7 189 (-2000000000) ∈ GA := ga_mem 557 (by decide +kernel) rfl
theorem kX7_302 : Cond.methodLink RX7 302 yX6_addTurn ∈ GA := ga_mem 558 (by decide +kernel) rfl
theorem kX7_305 : Cond.methodLink RX7 305 yX5_append ∈ GA := ga_mem 562 (by decide +kernel) rfl
theorem kX7_307 : Cond.methodLink RX7 307 yX5_shorten ∈ GA := ga_mem 566 (by decide +kernel) rfl
theorem kX5_47 : Cond.methodLink RX5 47 yX5_closeOn ∈ GA := ga_mem 570 (by decide +kernel) rfl
theorem kX7_310 : Cond.methodLink RX7 310 yX5_takeGapAway ∈ GA := ga_mem 574 (by decide +kernel) rfl
theorem kX5_70 : Cond.methodLink RX5 70 yX5_legsBefore ∈ GA := ga_mem 578 (by decide +kernel) rfl
theorem kX5_82 : Cond.methodLink RX5 82 yX5_hasLeg ∈ GA := ga_mem 582 (by decide +kernel) rfl
theorem kL_29 : Cond.constant RL 29 (-2000001) ∈ GA := ga_mem 586 (by decide +kernel) rfl
theorem kL_139 : Cond.methodLink RL 139 yL_stills ∈ GA := ga_mem 587 (by decide +kernel) rfl
theorem kL_30 : Cond.methodLink RL 30 yX7_still ∈ GA := ga_mem 590 (by decide +kernel) rfl
theorem kX7_91 : Cond.methodLink RX7 91 yX6_dropTurns ∈ GA := ga_mem 595 (by decide +kernel) rfl
theorem kL_143 : Cond.methodLink RL 143 yL_joins ∈ GA := ga_mem 599 (by decide +kernel) rfl
theorem kL_34 : Cond.methodLink RL 34 yX7_join ∈ GA := ga_mem 602 (by decide +kernel) rfl
theorem kX7_104 : Cond.constant RX7 104 (50000) ∈ GA := ga_mem 606 (by decide +kernel) rfl
theorem kX7_105 : Cond.methodLink RX7 105 yX7_isSmall ∈ GA := ga_mem 607 (by decide +kernel) rfl
theorem kX7_115 : Cond.methodLink RX7 115 yX2_addJoin ∈ GA := ga_mem 612 (by decide +kernel) rfl
theorem kX2_120 : Cond.methodLink RX2 120 yX1_lay ∈ GA := ga_mem 616 (by decide +kernel) rfl
theorem kL_147 : Cond.constant RL 147 (1296000) ∈ GA := ga_mem 620 (by decide +kernel) rfl
theorem kL_247 : Cond.methodLink RL 247 yL_acts ∈ GA := ga_mem 621 (by decide +kernel) rfl
theorem kL_166 : Cond.constant RL 166 (60000000) ∈ GA := ga_mem 624 (by decide +kernel) rfl
theorem kL_174 : Cond.constant RL 174 (1000000) ∈ GA := ga_mem 625 (by decide +kernel) rfl
theorem kL_175 : Cond.methodLink RL 175 yL_sets ∈ GA := ga_mem 626 (by decide +kernel) rfl
theorem kL_9 : Cond.methodLink RL 9 yX7_set ∈ GA := ga_mem 629 (by decide +kernel) rfl
theorem kX7_30 : Cond.methodLink RX7 30 yX2_takesSetting ∈ GA := ga_mem 633 (by decide +kernel) rfl
theorem kX7_45 : Cond.methodLink RX7 45 yX2_changeSetting ∈ GA := ga_mem 642 (by decide +kernel) rfl
theorem kL_178 : Cond.methodLink RL 178 yL_measures ∈ GA := ga_mem 646 (by decide +kernel) rfl
theorem kL_38 : Cond.methodLink RL 38 yX7_measure ∈ GA := ga_mem 649 (by decide +kernel) rfl
theorem kX7_119 : Cond.methodLink RX7 119 yX2_joinAt ∈ GA := ga_mem 653 (by decide +kernel) rfl
theorem kL_181 : Cond.methodLink RL 181 yL_begins ∈ GA := ga_mem 656 (by decide +kernel) rfl
theorem kL_41 : Cond.methodLink RL 41 yX7_begin ∈ GA := ga_mem 659 (by decide +kernel) rfl
theorem kX7_138 : Cond.methodLink RX7 138 yX2_addTraverse ∈ GA := ga_mem 664 (by decide +kernel) rfl
theorem kX2_124 : Cond.methodLink RX2 124 yX5_startAt ∈ GA := ga_mem 668 (by decide +kernel) rfl
theorem kL_149 : Cond.methodLink RL 149 yL_adds ∈ GA := ga_mem 672 (by decide +kernel) rfl
theorem kL_44 : Cond.methodLink RL 44 yX7_addLeg ∈ GA := ga_mem 675 (by decide +kernel) rfl
theorem kL_153 : Cond.methodLink RL 153 yL_drops ∈ GA := ga_mem 679 (by decide +kernel) rfl
theorem kL_48 : Cond.methodLink RL 48 yX7_dropLeg ∈ GA := ga_mem 682 (by decide +kernel) rfl
theorem kL_156 : Cond.methodLink RL 156 yL_closes ∈ GA := ga_mem 686 (by decide +kernel) rfl
theorem kL_51 : Cond.methodLink RL 51 yX7_close ∈ GA := ga_mem 689 (by decide +kernel) rfl
theorem kX7_159 : Cond.methodLink RX7 159 yX5_closeOn ∈ GA := ga_mem 696 (by decide +kernel) rfl
theorem kL_161 : Cond.methodLink RL 161 yL_adjusts ∈ GA := ga_mem 697 (by decide +kernel) rfl
theorem kL_54 : Cond.methodLink RL 54 yX7_adjust ∈ GA := ga_mem 700 (by decide +kernel) rfl
theorem kL_184 : Cond.methodLink RL 184 yL_walks ∈ GA := ga_mem 704 (by decide +kernel) rfl
theorem kL_148 : Cond.constant RL 148 (200000) ∈ GA := ga_mem 707 (by decide +kernel) rfl
theorem kL_105 : Cond.methodLink RL 105 yL_joint ∈ GA := ga_mem 708 (by decide +kernel) rfl
theorem kL_86 : Cond.methodLink RL 86 yL_wires ∈ GA := ga_mem 711 (by decide +kernel) rfl
theorem kL_82 : Cond.methodLink RL 82 yL_wrong ∈ GA := ga_mem 714 (by decide +kernel) rfl
theorem kL_77 : Cond.methodLink RL 77 yL_drift ∈ GA := ga_mem 717 (by decide +kernel) rfl
theorem kL_74 : Cond.methodLink RL 74 yL_size ∈ GA := ga_mem 720 (by decide +kernel) rfl
theorem kL_108 : Cond.methodLink RL 108 yL_gap ∈ GA := ga_mem 723 (by decide +kernel) rfl
theorem kL_98 : Cond.methodLink RL 98 yL_bearing ∈ GA := ga_mem 726 (by decide +kernel) rfl
theorem kL_95 : Cond.methodLink RL 95 yL_start ∈ GA := ga_mem 729 (by decide +kernel) rfl
theorem kL_90 : Cond.methodLink RL 90 yL_rest ∈ GA := ga_mem 732 (by decide +kernel) rfl
theorem kL_81 : Cond.constant RL 81 (-2000000000) ∈ GA := ga_mem 735 (by decide +kernel) rfl
theorem kL_93 : Cond.constantLong RL 93 (20626) ∈ GA := ga_mem 736 (by decide +kernel) rfl
theorem kL_61 : Cond.methodLink RL 61 yL_norm ∈ GA := ga_mem 737 (by decide +kernel) rfl
theorem kL_57 : Cond.constantLong RL 57 (1296000) ∈ GA := ga_mem 740 (by decide +kernel) rfl
theorem kL_59 : Cond.constantLong RL 59 (648000) ∈ GA := ga_mem 741 (by decide +kernel) rfl
theorem kL_102 : Cond.methodLink RL 102 yL_centre ∈ GA := ga_mem 742 (by decide +kernel) rfl
theorem kL_67 : Cond.constant RL 67 (648000) ∈ GA := ga_mem 745 (by decide +kernel) rfl
theorem kL_159 : Cond.constantLong RL 159 (60) ∈ GA := ga_mem 746 (by decide +kernel) rfl
theorem kL_123 : Cond.methodLink RL 123 yL_trouble ∈ GA := ga_mem 747 (by decide +kernel) rfl
theorem kL_112 : Cond.methodLink RL 112 yL_root ∈ GA := ga_mem 750 (by decide +kernel) rfl
theorem kL_72 : Cond.constantLong RL 72 (67108864) ∈ GA := ga_mem 753 (by decide +kernel) rfl
theorem kL_164 : Cond.methodLink RL 164 yL_adjust ∈ GA := ga_mem 754 (by decide +kernel) rfl
theorem kL_235 : Cond.methodLink RL 235 yL_infoOf ∈ GA := ga_mem 757 (by decide +kernel) rfl
theorem kL_188 : Cond.methodLink RL 188 yX7_info ∈ GA := ga_mem 760 (by decide +kernel) rfl
theorem kX7_58 : Cond.methodLink RX7 58 yX2_number ∈ GA := ga_mem 765 (by decide +kernel) rfl
theorem kX2_103 : Cond.methodLink RX2 103 yX2_legsOfAll ∈ GA := ga_mem 769 (by decide +kernel) rfl
theorem kX2_107 : Cond.methodLink RX2 107 yX2_turnsOfAll ∈ GA := ga_mem 773 (by decide +kernel) rfl
theorem kL_226 : Cond.methodLink RL 226 yL_wireOf ∈ GA := ga_mem 777 (by decide +kernel) rfl
theorem kL_191 : Cond.methodLink RL 191 yX7_wire ∈ GA := ga_mem 780 (by decide +kernel) rfl
theorem kX7_99 : Cond.methodLink RX7 99 yX6_number ∈ GA := ga_mem 785 (by decide +kernel) rfl
theorem kL_229 : Cond.methodLink RL 229 yL_joinOf ∈ GA := ga_mem 789 (by decide +kernel) rfl
theorem kL_194 : Cond.methodLink RL 194 yX7_joinOf ∈ GA := ga_mem 792 (by decide +kernel) rfl
theorem kX7_132 : Cond.methodLink RX7 132 yX1_number ∈ GA := ga_mem 796 (by decide +kernel) rfl
theorem kL_216 : Cond.methodLink RL 216 yL_traverseOf ∈ GA := ga_mem 800 (by decide +kernel) rfl
theorem kL_197 : Cond.methodLink RL 197 yX7_traverse ∈ GA := ga_mem 803 (by decide +kernel) rfl
theorem kX7_170 : Cond.methodLink RX7 170 yX5_number ∈ GA := ga_mem 809 (by decide +kernel) rfl
theorem kX5_132 : Cond.methodLink RX5 132 yX5_sumOfLengths ∈ GA := ga_mem 813 (by decide +kernel) rfl
theorem kX5_136 : Cond.methodLink RX5 136 yX5_hasGap ∈ GA := ga_mem 817 (by decide +kernel) rfl
theorem kX5_54 : Cond.methodLink RX5 54 yX5_isClosed ∈ GA := ga_mem 821 (by decide +kernel) rfl
theorem kX5_58 : Cond.methodLink RX5 58 yX5_hasEnd ∈ GA := ga_mem 822 (by decide +kernel) rfl
theorem kX5_139 : Cond.methodLink RX5 139 yX5_numberOfClosing ∈ GA := ga_mem 826 (by decide +kernel) rfl
theorem kX5_142 : Cond.methodLink RX5 142 yX3_lengthOf ∈ GA := ga_mem 830 (by decide +kernel) rfl
theorem kX3_27 : Cond.methodLink RX3 27 yX3_squareOf ∈ GA := ga_mem 833 (by decide +kernel) rfl
theorem kX3_31 : Cond.methodLink RX3 31 yX3_rootOf ∈ GA := ga_mem 836 (by decide +kernel) rfl
theorem kL_205 : Cond.methodLink RL 205 yL_legOf ∈ GA := ga_mem 837 (by decide +kernel) rfl
theorem kL_200 : Cond.methodLink RL 200 yX7_leg ∈ GA := ga_mem 840 (by decide +kernel) rfl
theorem kX7_171 : Cond.methodLink RX7 171 yX5_hasLeg ∈ GA := ga_mem 844 (by decide +kernel) rfl
theorem kX7_178 : Cond.methodLink RX7 178 yX5_numberOfLeg ∈ GA := ga_mem 847 (by decide +kernel) rfl
theorem kL_223 : Cond.methodLink RL 223 yL_troubleOf ∈ GA := ga_mem 851 (by decide +kernel) rfl
theorem kL_203 : Cond.methodLink RL 203 yX7_trouble ∈ GA := ga_mem 854 (by decide +kernel) rfl
theorem kX7_181 : Cond.methodLink RX7 181 yX2_troubleOf ∈ GA := ga_mem 858 (by decide +kernel) rfl
theorem kL_239 : Cond.methodLink RL 239 yL_isSo ∈ GA := ga_mem 862 (by decide +kernel) rfl
theorem kL_231 : Cond.methodLink RL 231 yL_isTraverse ∈ GA := ga_mem 865 (by decide +kernel) rfl
theorem kL_208 : Cond.methodLink RL 208 yL_isLeg ∈ GA := ga_mem 868 (by decide +kernel) rfl
theorem kL_127 : Cond.methodLink RL 127 yL_end ∈ GA := ga_mem 871 (by decide +kernel) rfl
theorem kL_115 : Cond.constantLong RL 115 (324000) ∈ GA := ga_mem 874 (by decide +kernel) rfl
theorem kL_117 : Cond.methodLink RL 117 yL_sine ∈ GA := ga_mem 875 (by decide +kernel) rfl
theorem kL_68 : Cond.constantLong RL 68 (40000) ∈ GA := ga_mem 878 (by decide +kernel) rfl
theorem kL_70 : Cond.constantLong RL 70 (524880000000) ∈ GA := ga_mem 879 (by decide +kernel) rfl
theorem kL_121 : Cond.constantLong RL 121 (10000) ∈ GA := ga_mem 880 (by decide +kernel) rfl
theorem kL_212 : Cond.methodLink RL 212 yL_whole ∈ GA := ga_mem 881 (by decide +kernel) rfl
theorem kL_219 : Cond.methodLink RL 219 yL_miss ∈ GA := ga_mem 884 (by decide +kernel) rfl
theorem fX0 : ∀ w ∈ wsX00, w ∈ GA := ga_in [229, 231, 233] (by decide +kernel) (by decide +kernel)
theorem fX1 : ∀ w ∈ wsX10, w ∈ GA := ga_in [109, 111, 113, 115, 117, 119, 121, 123, 125, 127, 129, 131] (by decide +kernel) (by decide +kernel)
theorem fX2 : ∀ w ∈ wsX20, w ∈ GA := ga_in [202, 204, 206, 208, 210, 212, 214] (by decide +kernel) (by decide +kernel)
theorem fX4 : ∀ w ∈ wsX40, w ∈ GA := ga_in [244, 246, 248, 250, 252] (by decide +kernel) (by decide +kernel)
theorem fX5 : ∀ w ∈ wsX50, w ∈ GA := ga_in [161, 163, 165, 167, 169, 171, 173, 175, 177, 179, 181, 183, 185, 187, 189] (by decide +kernel) (by decide +kernel)
theorem fX6 : ∀ w ∈ wsX60, w ∈ GA := ga_in [67, 69, 71, 73, 75, 77, 79] (by decide +kernel) (by decide +kernel)
theorem fX7 : ∀ w ∈ wsX70, w ∈ GA := ga_in [259, 261, 263] (by decide +kernel) (by decide +kernel)
theorem nX0 : Cond.initialized RX0 ∈ GA := ga_mem 18 (by decide +kernel) rfl
theorem mX0 : Cond.instantiable RX0 3 ∈ GA := ga_mem 218 (by decide +kernel) rfl
theorem nX1 : Cond.initialized RX1 ∈ GA := ga_mem 16 (by decide +kernel) rfl
theorem mX1 : Cond.instantiable RX1 12 ∈ GA := ga_mem 83 (by decide +kernel) rfl
theorem nX2 : Cond.initialized RX2 ∈ GA := ga_mem 14 (by decide +kernel) rfl
theorem mX2 : Cond.instantiable RX2 7 ∈ GA := ga_mem 38 (by decide +kernel) rfl
theorem nX3 : Cond.initialized RX3 ∈ GA := ga_mem 25 (by decide +kernel) rfl
theorem nX4 : Cond.initialized RX4 ∈ GA := ga_mem 19 (by decide +kernel) rfl
theorem mX4 : Cond.instantiable RX4 5 ∈ GA := ga_mem 237 (by decide +kernel) rfl
theorem nX5 : Cond.initialized RX5 ∈ GA := ga_mem 17 (by decide +kernel) rfl
theorem mX5 : Cond.instantiable RX5 15 ∈ GA := ga_mem 134 (by decide +kernel) rfl
theorem nX6 : Cond.initialized RX6 ∈ GA := ga_mem 15 (by decide +kernel) rfl
theorem mX6 : Cond.instantiable RX6 7 ∈ GA := ga_mem 49 (by decide +kernel) rfl
theorem nX7 : Cond.initialized RX7 ∈ GA := ga_mem 13 (by decide +kernel) rfl
theorem mX7 : Cond.instantiable RX7 3 ∈ GA := ga_mem 30 (by decide +kernel) rfl
theorem nL : Cond.initialized RL ∈ GA := ga_mem 12 (by decide +kernel) rfl
set_option maxRecDepth 100000 in
theorem qX0_init : ∀ w ∈ [Cond.code yX0_init cX0_init 2 none, Cond.initialized RX0, Cond.instanceMethod yX0_init], w ∈ GA := ga_in [221, 18, 220] rfl (by decide +kernel)
set_option maxRecDepth 100000 in
theorem qX0_keep : ∀ w ∈ [Cond.code yX0_keep cX0_keep 2 none, Cond.initialized RX0, Cond.instanceMethod yX0_keep, Cond.selects RX0 yX0_keep yX0_keep], w ∈ GA := ga_in [378, 18, 376, 377] rfl (by decide +kernel)
set_option maxRecDepth 100000 in
theorem qX1_init : ∀ w ∈ [Cond.code yX1_init cX1_init 1 none, Cond.initialized RX1, Cond.instanceMethod yX1_init], w ∈ GA := ga_in [86, 16, 85] rfl (by decide +kernel)
set_option maxRecDepth 100000 in
theorem qX1_copyFrom : ∀ w ∈ [Cond.code yX1_copyFrom cX1_copyFrom 2 none, Cond.initialized RX1, Cond.instanceMethod yX1_copyFrom, Cond.selects RX1 yX1_copyFrom yX1_copyFrom], w ∈ GA := ga_in [395, 16, 393, 394] rfl (by decide +kernel)
set_option maxRecDepth 100000 in
theorem qX1_lay : ∀ w ∈ [Cond.code yX1_lay cX1_lay 7 none, Cond.initialized RX1, Cond.instanceMethod yX1_lay, Cond.selects RX1 yX1_lay yX1_lay], w ∈ GA := ga_in [619, 16, 617, 618] rfl (by decide +kernel)
set_option maxRecDepth 100000 in
theorem qX1_judge : ∀ w ∈ [Cond.code yX1_judge cX1_judge 3 none, Cond.initialized RX1, Cond.instanceMethod yX1_judge, Cond.selects RX1 yX1_judge yX1_judge], w ∈ GA := ga_in [447, 16, 445, 446] rfl (by decide +kernel)
set_option maxRecDepth 100000 in
theorem qX1_startWith : ∀ w ∈ [Cond.code yX1_startWith cX1_startWith 2 (some .int), Cond.initialized RX1, Cond.instanceMethod yX1_startWith, Cond.selects RX1 yX1_startWith yX1_startWith], w ∈ GA := ga_in [454, 16, 452, 453] rfl (by decide +kernel)
set_option maxRecDepth 100000 in
theorem qX1_number : ∀ w ∈ [Cond.code yX1_number cX1_number 2 (some .int), Cond.initialized RX1, Cond.instanceMethod yX1_number, Cond.selects RX1 yX1_number yX1_number], w ∈ GA := ga_in [799, 16, 797, 798] rfl (by decide +kernel)
set_option maxRecDepth 100000 in
theorem qX2_init : ∀ w ∈ [Cond.code yX2_init cX2_init 2 none, Cond.initialized RX2, Cond.instanceMethod yX2_init], w ∈ GA := ga_in [41, 14, 40] rfl (by decide +kernel)
set_option maxRecDepth 100000 in
theorem qX2_copyFrom : ∀ w ∈ [Cond.code yX2_copyFrom cX2_copyFrom 3 none, Cond.initialized RX2, Cond.instanceMethod yX2_copyFrom, Cond.selects RX2 yX2_copyFrom yX2_copyFrom], w ∈ GA := ga_in [383, 14, 381, 382] rfl (by decide +kernel)
set_option maxRecDepth 100000 in
theorem qX2_judge : ∀ w ∈ [Cond.code yX2_judge cX2_judge 4 none, Cond.initialized RX2, Cond.instanceMethod yX2_judge, Cond.selects RX2 yX2_judge yX2_judge], w ∈ GA := ga_in [417, 14, 415, 416] rfl (by decide +kernel)
set_option maxRecDepth 100000 in
theorem qX2_takesSetting : ∀ w ∈ [Cond.code yX2_takesSetting cX2_takesSetting 3 (some .boolean), Cond.initialized RX2, Cond.instanceMethod yX2_takesSetting, Cond.selects RX2 yX2_takesSetting yX2_takesSetting], w ∈ GA := ga_in [636, 14, 634, 635] rfl (by decide +kernel)
set_option maxRecDepth 100000 in
theorem qX2_changeSetting : ∀ w ∈ [Cond.code yX2_changeSetting cX2_changeSetting 4 (some .int), Cond.initialized RX2, Cond.instanceMethod yX2_changeSetting, Cond.selects RX2 yX2_changeSetting yX2_changeSetting], w ∈ GA := ga_in [645, 14, 643, 644] rfl (by decide +kernel)
set_option maxRecDepth 100000 in
theorem qX2_number : ∀ w ∈ [Cond.code yX2_number cX2_number 2 (some .int), Cond.initialized RX2, Cond.instanceMethod yX2_number, Cond.selects RX2 yX2_number yX2_number], w ∈ GA := ga_in [768, 14, 766, 767] rfl (by decide +kernel)
set_option maxRecDepth 100000 in
theorem qX2_legsOfAll : ∀ w ∈ [Cond.code yX2_legsOfAll cX2_legsOfAll 3 (some .int), Cond.initialized RX2, Cond.instanceMethod yX2_legsOfAll, Cond.selects RX2 yX2_legsOfAll yX2_legsOfAll], w ∈ GA := ga_in [772, 14, 771, 8] rfl (by decide +kernel)
set_option maxRecDepth 100000 in
theorem qX2_turnsOfAll : ∀ w ∈ [Cond.code yX2_turnsOfAll cX2_turnsOfAll 3 (some .int), Cond.initialized RX2, Cond.instanceMethod yX2_turnsOfAll, Cond.selects RX2 yX2_turnsOfAll yX2_turnsOfAll], w ∈ GA := ga_in [776, 14, 775, 9] rfl (by decide +kernel)
set_option maxRecDepth 100000 in
theorem qX2_wireAt : ∀ w ∈ [Cond.code yX2_wireAt cX2_wireAt 2 (some (.object "ShaftPlumb$Wire")), Cond.initialized RX2, Cond.instanceMethod yX2_wireAt, Cond.selects RX2 yX2_wireAt yX2_wireAt], w ∈ GA := ga_in [443, 14, 441, 442] rfl (by decide +kernel)
set_option maxRecDepth 100000 in
theorem qX2_joinAt : ∀ w ∈ [Cond.code yX2_joinAt cX2_joinAt 2 (some (.object "ShaftPlumb$Join")), Cond.initialized RX2, Cond.instanceMethod yX2_joinAt, Cond.selects RX2 yX2_joinAt yX2_joinAt], w ∈ GA := ga_in [462, 14, 460, 461] rfl (by decide +kernel)
set_option maxRecDepth 100000 in
theorem qX2_traverseAt : ∀ w ∈ [Cond.code yX2_traverseAt cX2_traverseAt 2 (some (.object "ShaftPlumb$Traverse")), Cond.initialized RX2, Cond.instanceMethod yX2_traverseAt, Cond.selects RX2 yX2_traverseAt yX2_traverseAt], w ∈ GA := ga_in [521, 14, 519, 520] rfl (by decide +kernel)
set_option maxRecDepth 100000 in
theorem qX2_addWire : ∀ w ∈ [Cond.code yX2_addWire cX2_addWire 3 (some .int), Cond.initialized RX2, Cond.instanceMethod yX2_addWire, Cond.selects RX2 yX2_addWire yX2_addWire], w ∈ GA := ga_in [407, 14, 405, 406] rfl (by decide +kernel)
set_option maxRecDepth 100000 in
theorem qX2_addJoin : ∀ w ∈ [Cond.code yX2_addJoin cX2_addJoin 7 (some .int), Cond.initialized RX2, Cond.instanceMethod yX2_addJoin, Cond.selects RX2 yX2_addJoin yX2_addJoin], w ∈ GA := ga_in [615, 14, 613, 614] rfl (by decide +kernel)
set_option maxRecDepth 100000 in
theorem qX2_addTraverse : ∀ w ∈ [Cond.code yX2_addTraverse cX2_addTraverse 2 (some .int), Cond.initialized RX2, Cond.instanceMethod yX2_addTraverse, Cond.selects RX2 yX2_addTraverse yX2_addTraverse], w ∈ GA := ga_in [667, 14, 665, 666] rfl (by decide +kernel)
set_option maxRecDepth 100000 in
theorem qX2_troubleOf : ∀ w ∈ [Cond.code yX2_troubleOf cX2_troubleOf 4 (some .int), Cond.initialized RX2, Cond.instanceMethod yX2_troubleOf, Cond.selects RX2 yX2_troubleOf yX2_troubleOf], w ∈ GA := ga_in [861, 14, 859, 860] rfl (by decide +kernel)
set_option maxRecDepth 100000 in
theorem qX3_norm : ∀ w ∈ [Cond.code yX3_norm cX3_norm 2 (some .int), Cond.initialized RX3, Cond.static yX3_norm], w ∈ GA := ga_in [457, 25, 456] rfl (by decide +kernel)
set_option maxRecDepth 100000 in
theorem qX3_centre : ∀ w ∈ [Cond.code yX3_centre cX3_centre 1 (some .int), Cond.initialized RX3, Cond.static yX3_centre], w ∈ GA := ga_in [490, 25, 489] rfl (by decide +kernel)
set_option maxRecDepth 100000 in
theorem qX3_sineOf : ∀ w ∈ [Cond.code yX3_sineOf cX3_sineOf 7 (some .int), Cond.initialized RX3, Cond.static yX3_sineOf], w ∈ GA := ga_in [475, 25, 474] rfl (by decide +kernel)
set_option maxRecDepth 100000 in
theorem qX3_quotient : ∀ w ∈ [Cond.code yX3_quotient cX3_quotient 4 (some .int), Cond.initialized RX3, Cond.static yX3_quotient], w ∈ GA := ga_in [429, 25, 428] rfl (by decide +kernel)
set_option maxRecDepth 100000 in
theorem qX3_lengthOf : ∀ w ∈ [Cond.code yX3_lengthOf cX3_lengthOf 4 (some .int), Cond.initialized RX3, Cond.static yX3_lengthOf], w ∈ GA := ga_in [832, 25, 831] rfl (by decide +kernel)
set_option maxRecDepth 100000 in
theorem qX3_squareOf : ∀ w ∈ [Cond.code yX3_squareOf cX3_squareOf 4 (some .long), Cond.initialized RX3, Cond.static yX3_squareOf], w ∈ GA := ga_in [835, 25, 834] rfl (by decide +kernel)
set_option maxRecDepth 100000 in
theorem qX3_rootOf : ∀ w ∈ [Cond.code yX3_rootOf cX3_rootOf 7 (some .int), Cond.initialized RX3, Cond.static yX3_rootOf], w ∈ GA := ga_in [494, 25, 493] rfl (by decide +kernel)
set_option maxRecDepth 100000 in
theorem qX4_init : ∀ w ∈ [Cond.code yX4_init cX4_init 1 none, Cond.initialized RX4, Cond.instanceMethod yX4_init], w ∈ GA := ga_in [240, 19, 239] rfl (by decide +kernel)
set_option maxRecDepth 100000 in
theorem qX5_init : ∀ w ∈ [Cond.code yX5_init cX5_init 1 none, Cond.initialized RX5, Cond.instanceMethod yX5_init], w ∈ GA := ga_in [137, 17, 136] rfl (by decide +kernel)
set_option maxRecDepth 100000 in
theorem qX5_copyFrom : ∀ w ∈ [Cond.code yX5_copyFrom cX5_copyFrom 2 none, Cond.initialized RX5, Cond.instanceMethod yX5_copyFrom, Cond.selects RX5 yX5_copyFrom yX5_copyFrom], w ∈ GA := ga_in [399, 17, 397, 398] rfl (by decide +kernel)
set_option maxRecDepth 100000 in
theorem qX5_startAt : ∀ w ∈ [Cond.code yX5_startAt cX5_startAt 2 none, Cond.initialized RX5, Cond.instanceMethod yX5_startAt, Cond.selects RX5 yX5_startAt yX5_startAt], w ∈ GA := ga_in [671, 17, 669, 670] rfl (by decide +kernel)
set_option maxRecDepth 100000 in
theorem qX5_closeOn : ∀ w ∈ [Cond.code yX5_closeOn cX5_closeOn 3 none, Cond.initialized RX5, Cond.instanceMethod yX5_closeOn, Cond.selects RX5 yX5_closeOn yX5_closeOn], w ∈ GA := ga_in [573, 17, 571, 572] rfl (by decide +kernel)
set_option maxRecDepth 100000 in
theorem qX5_isClosed : ∀ w ∈ [Cond.code yX5_isClosed cX5_isClosed 1 (some .boolean), Cond.initialized RX5, Cond.instanceMethod yX5_isClosed, Cond.selects RX5 yX5_isClosed yX5_isClosed], w ∈ GA := ga_in [533, 17, 531, 532] rfl (by decide +kernel)
set_option maxRecDepth 100000 in
theorem qX5_hasLeg : ∀ w ∈ [Cond.code yX5_hasLeg cX5_hasLeg 2 (some .boolean), Cond.initialized RX5, Cond.instanceMethod yX5_hasLeg, Cond.selects RX5 yX5_hasLeg yX5_hasLeg], w ∈ GA := ga_in [585, 17, 583, 584] rfl (by decide +kernel)
set_option maxRecDepth 100000 in
theorem qX5_hasEnd : ∀ w ∈ [Cond.code yX5_hasEnd cX5_hasEnd 1 (some .boolean), Cond.initialized RX5, Cond.instanceMethod yX5_hasEnd, Cond.selects RX5 yX5_hasEnd yX5_hasEnd], w ∈ GA := ga_in [825, 17, 823, 824] rfl (by decide +kernel)
set_option maxRecDepth 100000 in
theorem qX5_hasGap : ∀ w ∈ [Cond.code yX5_hasGap cX5_hasGap 1 (some .boolean), Cond.initialized RX5, Cond.instanceMethod yX5_hasGap, Cond.selects RX5 yX5_hasGap yX5_hasGap], w ∈ GA := ga_in [820, 17, 818, 819] rfl (by decide +kernel)
set_option maxRecDepth 100000 in
theorem qX5_append : ∀ w ∈ [Cond.code yX5_append cX5_append 3 (some .int), Cond.initialized RX5, Cond.instanceMethod yX5_append, Cond.selects RX5 yX5_append yX5_append], w ∈ GA := ga_in [565, 17, 563, 564] rfl (by decide +kernel)
set_option maxRecDepth 100000 in
theorem qX5_shorten : ∀ w ∈ [Cond.code yX5_shorten cX5_shorten 1 (some .int), Cond.initialized RX5, Cond.instanceMethod yX5_shorten, Cond.selects RX5 yX5_shorten yX5_shorten], w ∈ GA := ga_in [569, 17, 567, 568] rfl (by decide +kernel)
set_option maxRecDepth 100000 in
theorem qX5_takeGapAway : ∀ w ∈ [Cond.code yX5_takeGapAway cX5_takeGapAway 7 (some .int), Cond.initialized RX5, Cond.instanceMethod yX5_takeGapAway, Cond.selects RX5 yX5_takeGapAway yX5_takeGapAway], w ∈ GA := ga_in [577, 17, 575, 576] rfl (by decide +kernel)
set_option maxRecDepth 100000 in
theorem qX5_legsBefore : ∀ w ∈ [Cond.code yX5_legsBefore cX5_legsBefore 4 (some .int), Cond.initialized RX5, Cond.instanceMethod yX5_legsBefore, Cond.selects RX5 yX5_legsBefore yX5_legsBefore], w ∈ GA := ga_in [581, 17, 580, 7] rfl (by decide +kernel)
set_option maxRecDepth 100000 in
theorem qX5_judge : ∀ w ∈ [Cond.code yX5_judge cX5_judge 5 none, Cond.initialized RX5, Cond.instanceMethod yX5_judge, Cond.selects RX5 yX5_judge yX5_judge], w ∈ GA := ga_in [466, 17, 464, 465] rfl (by decide +kernel)
set_option maxRecDepth 100000 in
theorem qX5_layOut : ∀ w ∈ [Cond.code yX5_layOut cX5_layOut 4 (some .int), Cond.initialized RX5, Cond.instanceMethod yX5_layOut, Cond.selects RX5 yX5_layOut yX5_layOut], w ∈ GA := ga_in [470, 17, 469, 3] rfl (by decide +kernel)
set_option maxRecDepth 100000 in
theorem qX5_step : ∀ w ∈ [Cond.code yX5_step cX5_step 3 (some .int), Cond.initialized RX5, Cond.static yX5_step], w ∈ GA := ga_in [484, 17, 483] rfl (by decide +kernel)
set_option maxRecDepth 100000 in
theorem qX5_number : ∀ w ∈ [Cond.code yX5_number cX5_number 2 (some .int), Cond.initialized RX5, Cond.instanceMethod yX5_number, Cond.selects RX5 yX5_number yX5_number], w ∈ GA := ga_in [812, 17, 810, 811] rfl (by decide +kernel)
set_option maxRecDepth 100000 in
theorem qX5_numberOfClosing : ∀ w ∈ [Cond.code yX5_numberOfClosing cX5_numberOfClosing 2 (some .int), Cond.initialized RX5, Cond.instanceMethod yX5_numberOfClosing, Cond.selects RX5 yX5_numberOfClosing yX5_numberOfClosing], w ∈ GA := ga_in [829, 17, 828, 11] rfl (by decide +kernel)
set_option maxRecDepth 100000 in
theorem qX5_sumOfLengths : ∀ w ∈ [Cond.code yX5_sumOfLengths cX5_sumOfLengths 3 (some .int), Cond.initialized RX5, Cond.instanceMethod yX5_sumOfLengths, Cond.selects RX5 yX5_sumOfLengths yX5_sumOfLengths], w ∈ GA := ga_in [816, 17, 815, 10] rfl (by decide +kernel)
set_option maxRecDepth 100000 in
theorem qX5_numberOfLeg : ∀ w ∈ [Cond.code yX5_numberOfLeg cX5_numberOfLeg 3 (some .int), Cond.initialized RX5, Cond.instanceMethod yX5_numberOfLeg, Cond.selects RX5 yX5_numberOfLeg yX5_numberOfLeg], w ∈ GA := ga_in [850, 17, 848, 849] rfl (by decide +kernel)
set_option maxRecDepth 100000 in
theorem qX6_init : ∀ w ∈ [Cond.code yX6_init cX6_init 1 none, Cond.initialized RX6, Cond.instanceMethod yX6_init], w ∈ GA := ga_in [52, 15, 51] rfl (by decide +kernel)
set_option maxRecDepth 100000 in
theorem qX6_copyFrom : ∀ w ∈ [Cond.code yX6_copyFrom cX6_copyFrom 2 none, Cond.initialized RX6, Cond.instanceMethod yX6_copyFrom, Cond.selects RX6 yX6_copyFrom yX6_copyFrom], w ∈ GA := ga_in [390, 15, 388, 389] rfl (by decide +kernel)
set_option maxRecDepth 100000 in
theorem qX6_hangAt : ∀ w ∈ [Cond.code yX6_hangAt cX6_hangAt 3 none, Cond.initialized RX6, Cond.instanceMethod yX6_hangAt, Cond.selects RX6 yX6_hangAt yX6_hangAt], w ∈ GA := ga_in [413, 15, 411, 412] rfl (by decide +kernel)
set_option maxRecDepth 100000 in
theorem qX6_addTurn : ∀ w ∈ [Cond.code yX6_addTurn cX6_addTurn 2 (some .int), Cond.initialized RX6, Cond.instanceMethod yX6_addTurn, Cond.selects RX6 yX6_addTurn yX6_addTurn], w ∈ GA := ga_in [561, 15, 559, 560] rfl (by decide +kernel)
set_option maxRecDepth 100000 in
theorem qX6_dropTurns : ∀ w ∈ [Cond.code yX6_dropTurns cX6_dropTurns 2 (some .int), Cond.initialized RX6, Cond.instanceMethod yX6_dropTurns, Cond.selects RX6 yX6_dropTurns yX6_dropTurns], w ∈ GA := ga_in [598, 15, 596, 597] rfl (by decide +kernel)
set_option maxRecDepth 100000 in
theorem qX6_judge : ∀ w ∈ [Cond.code yX6_judge cX6_judge 2 none, Cond.initialized RX6, Cond.instanceMethod yX6_judge, Cond.selects RX6 yX6_judge yX6_judge], w ∈ GA := ga_in [421, 15, 419, 420] rfl (by decide +kernel)
set_option maxRecDepth 100000 in
theorem qX6_number : ∀ w ∈ [Cond.code yX6_number cX6_number 2 (some .int), Cond.initialized RX6, Cond.instanceMethod yX6_number, Cond.selects RX6 yX6_number yX6_number], w ∈ GA := ga_in [788, 15, 786, 787] rfl (by decide +kernel)
set_option maxRecDepth 100000 in
theorem qX6_meanOfTurns : ∀ w ∈ [Cond.code yX6_meanOfTurns cX6_meanOfTurns 3 (some .int), Cond.initialized RX6, Cond.instanceMethod yX6_meanOfTurns, Cond.selects RX6 yX6_meanOfTurns yX6_meanOfTurns], w ∈ GA := ga_in [425, 15, 424, 1] rfl (by decide +kernel)
set_option maxRecDepth 100000 in
theorem qX6_greatestDifference : ∀ w ∈ [Cond.code yX6_greatestDifference cX6_greatestDifference 3 (some .int), Cond.initialized RX6, Cond.instanceMethod yX6_greatestDifference, Cond.selects RX6 yX6_greatestDifference yX6_greatestDifference], w ∈ GA := ga_in [433, 15, 432, 2] rfl (by decide +kernel)
set_option maxRecDepth 100000 in
theorem qX7_init : ∀ w ∈ [Cond.code yX7_init cX7_init 1 none, Cond.initialized RX7, Cond.instanceMethod yX7_init], w ∈ GA := ga_in [33, 13, 32] rfl (by decide +kernel)
set_option maxRecDepth 100000 in
theorem qX7_set : ∀ w ∈ [Cond.code yX7_set cX7_set 4 (some .int), Cond.initialized RX7, Cond.instanceMethod yX7_set, Cond.selects RX7 yX7_set yX7_set], w ∈ GA := ga_in [632, 13, 630, 631] rfl (by decide +kernel)
set_option maxRecDepth 100000 in
theorem qX7_info : ∀ w ∈ [Cond.code yX7_info cX7_info 2 (some .int), Cond.initialized RX7, Cond.instanceMethod yX7_info, Cond.selects RX7 yX7_info yX7_info], w ∈ GA := ga_in [763, 13, 761, 762] rfl (by decide +kernel)
set_option maxRecDepth 100000 in
theorem qX7_hang : ∀ w ∈ [Cond.code yX7_hang cX7_hang 4 (some .int), Cond.initialized RX7, Cond.instanceMethod yX7_hang, Cond.selects RX7 yX7_hang yX7_hang], w ∈ GA := ga_in [285, 13, 283, 284] rfl (by decide +kernel)
set_option maxRecDepth 100000 in
theorem qX7_swing : ∀ w ∈ [Cond.code yX7_swing cX7_swing 3 (some .int), Cond.initialized RX7, Cond.instanceMethod yX7_swing, Cond.selects RX7 yX7_swing yX7_swing], w ∈ GA := ga_in [505, 13, 503, 504] rfl (by decide +kernel)
set_option maxRecDepth 100000 in
theorem qX7_still : ∀ w ∈ [Cond.code yX7_still cX7_still 4 (some .int), Cond.initialized RX7, Cond.instanceMethod yX7_still, Cond.selects RX7 yX7_still yX7_still], w ∈ GA := ga_in [593, 13, 591, 592] rfl (by decide +kernel)
set_option maxRecDepth 100000 in
theorem qX7_wire : ∀ w ∈ [Cond.code yX7_wire cX7_wire 4 (some .int), Cond.initialized RX7, Cond.instanceMethod yX7_wire, Cond.selects RX7 yX7_wire yX7_wire], w ∈ GA := ga_in [783, 13, 781, 782] rfl (by decide +kernel)
set_option maxRecDepth 100000 in
theorem qX7_join : ∀ w ∈ [Cond.code yX7_join cX7_join 8 (some .int), Cond.initialized RX7, Cond.instanceMethod yX7_join, Cond.selects RX7 yX7_join yX7_join], w ∈ GA := ga_in [605, 13, 603, 604] rfl (by decide +kernel)
set_option maxRecDepth 100000 in
theorem qX7_measure : ∀ w ∈ [Cond.code yX7_measure cX7_measure 5 (some .int), Cond.initialized RX7, Cond.instanceMethod yX7_measure, Cond.selects RX7 yX7_measure yX7_measure], w ∈ GA := ga_in [652, 13, 650, 651] rfl (by decide +kernel)
set_option maxRecDepth 100000 in
theorem qX7_joinOf : ∀ w ∈ [Cond.code yX7_joinOf cX7_joinOf 4 (some .int), Cond.initialized RX7, Cond.instanceMethod yX7_joinOf, Cond.selects RX7 yX7_joinOf yX7_joinOf], w ∈ GA := ga_in [795, 13, 793, 794] rfl (by decide +kernel)
set_option maxRecDepth 100000 in
theorem qX7_begin : ∀ w ∈ [Cond.code yX7_begin cX7_begin 3 (some .int), Cond.initialized RX7, Cond.instanceMethod yX7_begin, Cond.selects RX7 yX7_begin yX7_begin], w ∈ GA := ga_in [662, 13, 660, 661] rfl (by decide +kernel)
set_option maxRecDepth 100000 in
theorem qX7_addLeg : ∀ w ∈ [Cond.code yX7_addLeg cX7_addLeg 4 (some .int), Cond.initialized RX7, Cond.instanceMethod yX7_addLeg, Cond.selects RX7 yX7_addLeg yX7_addLeg], w ∈ GA := ga_in [678, 13, 676, 677] rfl (by decide +kernel)
set_option maxRecDepth 100000 in
theorem qX7_dropLeg : ∀ w ∈ [Cond.code yX7_dropLeg cX7_dropLeg 2 (some .int), Cond.initialized RX7, Cond.instanceMethod yX7_dropLeg, Cond.selects RX7 yX7_dropLeg yX7_dropLeg], w ∈ GA := ga_in [685, 13, 683, 684] rfl (by decide +kernel)
set_option maxRecDepth 100000 in
theorem qX7_close : ∀ w ∈ [Cond.code yX7_close cX7_close 5 (some .int), Cond.initialized RX7, Cond.instanceMethod yX7_close, Cond.selects RX7 yX7_close yX7_close], w ∈ GA := ga_in [692, 13, 690, 691] rfl (by decide +kernel)
set_option maxRecDepth 100000 in
theorem qX7_adjust : ∀ w ∈ [Cond.code yX7_adjust cX7_adjust 2 (some .int), Cond.initialized RX7, Cond.instanceMethod yX7_adjust, Cond.selects RX7 yX7_adjust yX7_adjust], w ∈ GA := ga_in [703, 13, 701, 702] rfl (by decide +kernel)
set_option maxRecDepth 100000 in
theorem qX7_traverse : ∀ w ∈ [Cond.code yX7_traverse cX7_traverse 4 (some .int), Cond.initialized RX7, Cond.instanceMethod yX7_traverse, Cond.selects RX7 yX7_traverse yX7_traverse], w ∈ GA := ga_in [806, 13, 804, 805] rfl (by decide +kernel)
set_option maxRecDepth 100000 in
theorem qX7_leg : ∀ w ∈ [Cond.code yX7_leg cX7_leg 5 (some .int), Cond.initialized RX7, Cond.instanceMethod yX7_leg, Cond.selects RX7 yX7_leg yX7_leg], w ∈ GA := ga_in [843, 13, 841, 842] rfl (by decide +kernel)
set_option maxRecDepth 100000 in
theorem qX7_trouble : ∀ w ∈ [Cond.code yX7_trouble cX7_trouble 4 (some .int), Cond.initialized RX7, Cond.instanceMethod yX7_trouble, Cond.selects RX7 yX7_trouble yX7_trouble], w ∈ GA := ga_in [857, 13, 855, 856] rfl (by decide +kernel)
set_option maxRecDepth 100000 in
theorem qX7_order : ∀ w ∈ [Cond.code yX7_order cX7_order 7 (some .int), Cond.initialized RX7, Cond.instanceMethod yX7_order, Cond.selects RX7 yX7_order yX7_order], w ∈ GA := ga_in [509, 13, 508, 4] rfl (by decide +kernel)
set_option maxRecDepth 100000 in
theorem qX7_refusalOf : ∀ w ∈ [Cond.code yX7_refusalOf cX7_refusalOf 6 (some .int), Cond.initialized RX7, Cond.instanceMethod yX7_refusalOf, Cond.selects RX7 yX7_refusalOf yX7_refusalOf], w ∈ GA := ga_in [513, 13, 512, 5] rfl (by decide +kernel)
set_option maxRecDepth 100000 in
theorem qX7_refusalOfTurn : ∀ w ∈ [Cond.code yX7_refusalOfTurn cX7_refusalOfTurn 2 (some .int), Cond.initialized RX7, Cond.static yX7_refusalOfTurn], w ∈ GA := ga_in [517, 13, 516] rfl (by decide +kernel)
set_option maxRecDepth 100000 in
theorem qX7_refusalOfLeg : ∀ w ∈ [Cond.code yX7_refusalOfLeg cX7_refusalOfLeg 3 (some .int), Cond.initialized RX7, Cond.static yX7_refusalOfLeg], w ∈ GA := ga_in [524, 13, 523] rfl (by decide +kernel)
set_option maxRecDepth 100000 in
theorem qX7_carryOut : ∀ w ∈ [Cond.code yX7_carryOut cX7_carryOut 6 (some .int), Cond.initialized RX7, Cond.instanceMethod yX7_carryOut, Cond.selects RX7 yX7_carryOut yX7_carryOut], w ∈ GA := ga_in [556, 13, 555, 6] rfl (by decide +kernel)
set_option maxRecDepth 100000 in
theorem qX7_isIn : ∀ w ∈ [Cond.code yX7_isIn cX7_isIn 3 (some .boolean), Cond.initialized RX7, Cond.static yX7_isIn], w ∈ GA := ga_in [290, 13, 289] rfl (by decide +kernel)
set_option maxRecDepth 100000 in
theorem qX7_isBearing : ∀ w ∈ [Cond.code yX7_isBearing cX7_isBearing 1 (some .boolean), Cond.initialized RX7, Cond.static yX7_isBearing], w ∈ GA := ga_in [527, 13, 526] rfl (by decide +kernel)
set_option maxRecDepth 100000 in
theorem qX7_isSmall : ∀ w ∈ [Cond.code yX7_isSmall cX7_isSmall 1 (some .boolean), Cond.initialized RX7, Cond.static yX7_isSmall], w ∈ GA := ga_in [609, 13, 608] rfl (by decide +kernel)
set_option maxRecDepth 100000 in
theorem qL_cell : ∀ w ∈ [Cond.code yL_cell cL_cell 2 (some .int), Cond.initialized RL, Cond.static yL_cell], w ∈ GA := ga_in [268, 12, 267] rfl (by decide +kernel)
set_option maxRecDepth 100000 in
theorem qL_low : ∀ w ∈ [Cond.code yL_low cL_low 2 (some .int), Cond.initialized RL, Cond.static yL_low], w ∈ GA := ga_in [272, 12, 271] rfl (by decide +kernel)
set_option maxRecDepth 100000 in
theorem qL_sets : ∀ w ∈ [Cond.codeWith yL_sets cL_sets 4 (some .int) [(0, 6, 7, 15)], Cond.initialized RL, Cond.static yL_sets], w ∈ GA := ga_in [628, 12, 627] rfl (by decide +kernel)
set_option maxRecDepth 100000 in
theorem qL_hangs : ∀ w ∈ [Cond.codeWith yL_hangs cL_hangs 4 (some .int) [(0, 6, 7, 15), (0, 6, 11, 21)], Cond.initialized RL, Cond.static yL_hangs], w ∈ GA := ga_in [279, 12, 278] rfl (by decide +kernel)
set_option maxRecDepth 100000 in
theorem qL_swings : ∀ w ∈ [Cond.codeWith yL_swings cL_swings 4 (some .int) [(0, 6, 7, 27), (0, 6, 11, 15), (0, 6, 15, 21)], Cond.initialized RL, Cond.static yL_swings], w ∈ GA := ga_in [500, 12, 499] rfl (by decide +kernel)
set_option maxRecDepth 100000 in
theorem qL_stills : ∀ w ∈ [Cond.codeWith yL_stills cL_stills 3 (some .int) [(0, 5, 6, 27)], Cond.initialized RL, Cond.static yL_stills], w ∈ GA := ga_in [589, 12, 588] rfl (by decide +kernel)
set_option maxRecDepth 100000 in
theorem qL_joins : ∀ w ∈ [Cond.codeWith yL_joins cL_joins 8 (some .int) [(0, 13, 14, 27), (0, 13, 19, 15), (0, 13, 24, 21)], Cond.initialized RL, Cond.static yL_joins], w ∈ GA := ga_in [601, 12, 600] rfl (by decide +kernel)
set_option maxRecDepth 100000 in
theorem qL_measures : ∀ w ∈ [Cond.codeWith yL_measures cL_measures 4 (some .int) [(0, 6, 7, 27), (0, 6, 11, 15)], Cond.initialized RL, Cond.static yL_measures], w ∈ GA := ga_in [648, 12, 647] rfl (by decide +kernel)
set_option maxRecDepth 100000 in
theorem qL_begins : ∀ w ∈ [Cond.codeWith yL_begins cL_begins 3 (some .int) [(0, 5, 6, 27), (0, 5, 10, 21)], Cond.initialized RL, Cond.static yL_begins], w ∈ GA := ga_in [658, 12, 657] rfl (by decide +kernel)
set_option maxRecDepth 100000 in
theorem qL_adds : ∀ w ∈ [Cond.codeWith yL_adds cL_adds 5 (some .int) [(0, 7, 8, 27), (0, 7, 13, 15), (0, 7, 18, 21)], Cond.initialized RL, Cond.static yL_adds], w ∈ GA := ga_in [674, 12, 673] rfl (by decide +kernel)
set_option maxRecDepth 100000 in
theorem qL_drops : ∀ w ∈ [Cond.codeWith yL_drops cL_drops 3 (some .int) [(0, 5, 6, 27), (0, 5, 10, 21)], Cond.initialized RL, Cond.static yL_drops], w ∈ GA := ga_in [681, 12, 680] rfl (by decide +kernel)
set_option maxRecDepth 100000 in
theorem qL_closes : ∀ w ∈ [Cond.codeWith yL_closes cL_closes 5 (some .int) [(0, 7, 8, 27), (0, 7, 13, 15), (0, 7, 18, 21)], Cond.initialized RL, Cond.static yL_closes], w ∈ GA := ga_in [688, 12, 687] rfl (by decide +kernel)
set_option maxRecDepth 100000 in
theorem qL_adjusts : ∀ w ∈ [Cond.codeWith yL_adjusts cL_adjusts 3 (some .int) [(0, 5, 6, 27), (0, 5, 10, 21)], Cond.initialized RL, Cond.static yL_adjusts], w ∈ GA := ga_in [699, 12, 698] rfl (by decide +kernel)
set_option maxRecDepth 100000 in
theorem qL_size : ∀ w ∈ [Cond.code yL_size cL_size 1 (some .int), Cond.initialized RL, Cond.static yL_size], w ∈ GA := ga_in [722, 12, 721] rfl (by decide +kernel)
set_option maxRecDepth 100000 in
theorem qL_norm : ∀ w ∈ [Cond.code yL_norm cL_norm 4 (some .int), Cond.initialized RL, Cond.static yL_norm], w ∈ GA := ga_in [739, 12, 738] rfl (by decide +kernel)
set_option maxRecDepth 100000 in
theorem qL_centre : ∀ w ∈ [Cond.code yL_centre cL_centre 2 (some .int), Cond.initialized RL, Cond.static yL_centre], w ∈ GA := ga_in [744, 12, 743] rfl (by decide +kernel)
set_option maxRecDepth 100000 in
theorem qL_sine : ∀ w ∈ [Cond.code yL_sine cL_sine 8 (some .long), Cond.initialized RL, Cond.static yL_sine], w ∈ GA := ga_in [877, 12, 876] rfl (by decide +kernel)
set_option maxRecDepth 100000 in
theorem qL_root : ∀ w ∈ [Cond.code yL_root cL_root 6 (some .int), Cond.initialized RL, Cond.static yL_root], w ∈ GA := ga_in [752, 12, 751] rfl (by decide +kernel)
set_option maxRecDepth 100000 in
theorem qL_drift : ∀ w ∈ [Cond.code yL_drift cL_drift 6 (some .int), Cond.initialized RL, Cond.static yL_drift], w ∈ GA := ga_in [719, 12, 718] rfl (by decide +kernel)
set_option maxRecDepth 100000 in
theorem qL_wrong : ∀ w ∈ [Cond.code yL_wrong cL_wrong 4 (some .int), Cond.initialized RL, Cond.static yL_wrong], w ∈ GA := ga_in [716, 12, 715] rfl (by decide +kernel)
set_option maxRecDepth 100000 in
theorem qL_rest : ∀ w ∈ [Cond.code yL_rest cL_rest 5 (some .int), Cond.initialized RL, Cond.static yL_rest], w ∈ GA := ga_in [734, 12, 733] rfl (by decide +kernel)
set_option maxRecDepth 100000 in
theorem qL_wires : ∀ w ∈ [Cond.code yL_wires cL_wires 6 (some .int), Cond.initialized RL, Cond.static yL_wires], w ∈ GA := ga_in [713, 12, 712] rfl (by decide +kernel)
set_option maxRecDepth 100000 in
theorem qL_joint : ∀ w ∈ [Cond.code yL_joint cL_joint 5 (some .int), Cond.initialized RL, Cond.static yL_joint], w ∈ GA := ga_in [710, 12, 709] rfl (by decide +kernel)
set_option maxRecDepth 100000 in
theorem qL_start : ∀ w ∈ [Cond.code yL_start cL_start 8 (some .int), Cond.initialized RL, Cond.static yL_start], w ∈ GA := ga_in [731, 12, 730] rfl (by decide +kernel)
set_option maxRecDepth 100000 in
theorem qL_bearing : ∀ w ∈ [Cond.code yL_bearing cL_bearing 10 (some .int), Cond.initialized RL, Cond.static yL_bearing], w ∈ GA := ga_in [728, 12, 727] rfl (by decide +kernel)
set_option maxRecDepth 100000 in
theorem qL_gap : ∀ w ∈ [Cond.code yL_gap cL_gap 6 (some .int), Cond.initialized RL, Cond.static yL_gap], w ∈ GA := ga_in [725, 12, 724] rfl (by decide +kernel)
set_option maxRecDepth 100000 in
theorem qL_trouble : ∀ w ∈ [Cond.code yL_trouble cL_trouble 9 (some .int), Cond.initialized RL, Cond.static yL_trouble], w ∈ GA := ga_in [749, 12, 748] rfl (by decide +kernel)
set_option maxRecDepth 100000 in
theorem qL_end : ∀ w ∈ [Cond.code yL_end cL_end 14 (some .int), Cond.initialized RL, Cond.static yL_end], w ∈ GA := ga_in [873, 12, 872] rfl (by decide +kernel)
set_option maxRecDepth 100000 in
theorem qL_whole : ∀ w ∈ [Cond.code yL_whole cL_whole 7 (some .boolean), Cond.initialized RL, Cond.static yL_whole], w ∈ GA := ga_in [883, 12, 882] rfl (by decide +kernel)
set_option maxRecDepth 100000 in
theorem qL_miss : ∀ w ∈ [Cond.code yL_miss cL_miss 9 (some .int), Cond.initialized RL, Cond.static yL_miss], w ∈ GA := ga_in [886, 12, 885] rfl (by decide +kernel)
set_option maxRecDepth 100000 in
theorem qL_adjust : ∀ w ∈ [Cond.code yL_adjust cL_adjust 16 (some .int), Cond.initialized RL, Cond.static yL_adjust], w ∈ GA := ga_in [756, 12, 755] rfl (by decide +kernel)
set_option maxRecDepth 100000 in
theorem qL_lays : ∀ w ∈ [Cond.code yL_lays cL_lays 16 (some .boolean), Cond.initialized RL, Cond.static yL_lays], w ∈ GA := ga_in [276, 12, 275] rfl (by decide +kernel)
set_option maxRecDepth 100000 in
theorem qL_walks : ∀ w ∈ [Cond.code yL_walks cL_walks 14 (some .boolean), Cond.initialized RL, Cond.static yL_walks], w ∈ GA := ga_in [706, 12, 705] rfl (by decide +kernel)
set_option maxRecDepth 100000 in
theorem qL_acts : ∀ w ∈ [Cond.code yL_acts cL_acts 14 (some .boolean), Cond.initialized RL, Cond.static yL_acts], w ∈ GA := ga_in [623, 12, 622] rfl (by decide +kernel)
set_option maxRecDepth 100000 in
theorem qL_infoOf : ∀ w ∈ [Cond.codeWith yL_infoOf cL_infoOf 3 (some .int) [(0, 5, 6, 15)], Cond.initialized RL, Cond.static yL_infoOf], w ∈ GA := ga_in [759, 12, 758] rfl (by decide +kernel)
set_option maxRecDepth 100000 in
theorem qL_wireOf : ∀ w ∈ [Cond.codeWith yL_wireOf cL_wireOf 4 (some .int) [(0, 6, 7, 27), (0, 6, 11, 15)], Cond.initialized RL, Cond.static yL_wireOf], w ∈ GA := ga_in [779, 12, 778] rfl (by decide +kernel)
set_option maxRecDepth 100000 in
theorem qL_joinOf : ∀ w ∈ [Cond.codeWith yL_joinOf cL_joinOf 4 (some .int) [(0, 6, 7, 27), (0, 6, 11, 15)], Cond.initialized RL, Cond.static yL_joinOf], w ∈ GA := ga_in [791, 12, 790] rfl (by decide +kernel)
set_option maxRecDepth 100000 in
theorem qL_traverseOf : ∀ w ∈ [Cond.codeWith yL_traverseOf cL_traverseOf 4 (some .int) [(0, 6, 7, 27), (0, 6, 11, 15)], Cond.initialized RL, Cond.static yL_traverseOf], w ∈ GA := ga_in [802, 12, 801] rfl (by decide +kernel)
set_option maxRecDepth 100000 in
theorem qL_legOf : ∀ w ∈ [Cond.codeWith yL_legOf cL_legOf 5 (some .int) [(0, 7, 8, 27), (0, 7, 13, 15)], Cond.initialized RL, Cond.static yL_legOf], w ∈ GA := ga_in [839, 12, 838] rfl (by decide +kernel)
set_option maxRecDepth 100000 in
theorem qL_troubleOf : ∀ w ∈ [Cond.codeWith yL_troubleOf cL_troubleOf 4 (some .int) [(0, 6, 7, 27)], Cond.initialized RL, Cond.static yL_troubleOf], w ∈ GA := ga_in [853, 12, 852] rfl (by decide +kernel)
set_option maxRecDepth 100000 in
theorem qL_isLeg : ∀ w ∈ [Cond.code yL_isLeg cL_isLeg 12 (some .boolean), Cond.initialized RL, Cond.static yL_isLeg], w ∈ GA := ga_in [870, 12, 869] rfl (by decide +kernel)
set_option maxRecDepth 100000 in
theorem qL_isTraverse : ∀ w ∈ [Cond.code yL_isTraverse cL_isTraverse 23 (some .boolean), Cond.initialized RL, Cond.static yL_isTraverse], w ∈ GA := ga_in [867, 12, 866] rfl (by decide +kernel)
set_option maxRecDepth 100000 in
theorem qL_isSo : ∀ w ∈ [Cond.code yL_isSo cL_isSo 15 (some .boolean), Cond.initialized RL, Cond.static yL_isSo], w ∈ GA := ga_in [864, 12, 863] rfl (by decide +kernel)
theorem qMabs : ∀ w ∈ [Cond.static Lib.Math.abs.name, Cond.initialized "java/lang/Math", Cond.code Lib.Math.abs.name Lib.Math.abs.code 1 (some .int)], w ∈ GA := ga_in [435, 28, 436] (by decide +kernel) (by decide +kernel)
theorem qMmax : ∀ w ∈ [Cond.static Lib.Math.max.name, Cond.initialized "java/lang/Math", Cond.code Lib.Math.max.name Lib.Math.max.code 2 (some .int)], w ∈ GA := ga_in [438, 28, 439] (by decide +kernel) (by decide +kernel)
theorem qMmin : ∀ w ∈ [Cond.static Lib.Math.min.name, Cond.initialized "java/lang/Math", Cond.code Lib.Math.min.name Lib.Math.min.code 2 (some .int)], w ∈ GA := ga_in [402, 28, 403] (by decide +kernel) (by decide +kernel)
theorem qCopy : ∀ w ∈ [Cond.native arraycopyName, Cond.static arraycopyName, Cond.initialized "java/lang/System"], w ∈ GA := ga_in [386, 385, 27] (by decide +kernel) (by decide +kernel)
theorem qObj : ∀ w ∈ [Cond.instanceMethod objectInit, Cond.code objectInit ⟨#[0xb1]⟩ 1 none], w ∈ GA := ga_in [35, 36] (by decide +kernel) (by decide +kernel)
theorem n_Throwable : Cond.initialized "java/lang/Throwable" ∈ GA := ga_mem 20 (by decide +kernel) rfl
theorem n_Exception : Cond.initialized "java/lang/Exception" ∈ GA := ga_mem 21 (by decide +kernel) rfl
theorem n_RuntimeException : Cond.initialized "java/lang/RuntimeException" ∈ GA := ga_mem 22 (by decide +kernel) rfl
theorem n_IndexOutOfBoundsException : Cond.initialized "java/lang/IndexOutOfBoundsException" ∈ GA := ga_mem 23 (by decide +kernel) rfl
theorem n_IllegalArgumentException : Cond.initialized "java/lang/IllegalArgumentException" ∈ GA := ga_mem 24 (by decide +kernel) rfl
theorem n_IllegalStateException : Cond.initialized "java/lang/IllegalStateException" ∈ GA := ga_mem 26 (by decide +kernel) rfl
theorem n_System : Cond.initialized "java/lang/System" ∈ GA := ga_mem 27 (by decide +kernel) rfl
theorem n_Math : Cond.initialized "java/lang/Math" ∈ GA := ga_mem 28 (by decide +kernel) rfl
theorem a_int : Cond.arrayClass FieldType.int ∈ GA := ga_mem 82 (by decide +kernel) rfl
theorem a_char : Cond.arrayClass FieldType.char ∈ GA := ga_mem 255 (by decide +kernel) rfl
theorem a_byte : Cond.arrayClass FieldType.byte ∈ GA := ga_mem 358 (by decide +kernel) rfl
