/-! ===== the words of the tables, each by its place ===== -/
def GW : List Cond := lw_tbl.filter goodWord
theorem gw_of {w : Cond} (h : w ∈ lw_tbl) (hg : goodWord w = true) : w ∈ GW := List.mem_filter.mpr ⟨h, hg⟩
theorem gw_tbl : ∀ w ∈ GW, w ∈ lw_tbl := fun _ h => (List.mem_filter.mp h).1
theorem gw_good : ∀ w ∈ GW, goodWord w = true := fun _ h => (List.mem_filter.mp h).2
theorem gw_t1 {w : Cond} (h : w ∈ tables_1_1) (hg : goodWord w = true) : w ∈ GW := gw_of (List.mem_append_right _ (show w ∈ tables_1 from (List.mem_append_left _ h))) hg
theorem gw_t2 {w : Cond} (h : w ∈ tables_1_2) (hg : goodWord w = true) : w ∈ GW := gw_of (List.mem_append_right _ (show w ∈ tables_1 from (List.mem_append_right _ (List.mem_append_left _ h)))) hg
theorem gw_t3 {w : Cond} (h : w ∈ tables_1_3) (hg : goodWord w = true) : w ∈ GW := gw_of (List.mem_append_right _ (show w ∈ tables_1 from (List.mem_append_right _ (List.mem_append_right _ (List.mem_append_left _ h))))) hg
theorem gw_t4 {w : Cond} (h : w ∈ tables_1_4) (hg : goodWord w = true) : w ∈ GW := gw_of (List.mem_append_right _ (show w ∈ tables_1 from (List.mem_append_right _ (List.mem_append_right _ (List.mem_append_right _ (List.mem_append_left _ h)))))) hg
theorem gw_t5 {w : Cond} (h : w ∈ tables_1_5) (hg : goodWord w = true) : w ∈ GW := gw_of (List.mem_append_right _ (show w ∈ tables_1 from (List.mem_append_right _ (List.mem_append_right _ (List.mem_append_right _ (List.mem_append_right _ (List.mem_append_left _ h))))))) hg
theorem gw_t6 {w : Cond} (h : w ∈ tables_1_6) (hg : goodWord w = true) : w ∈ GW := gw_of (List.mem_append_right _ (show w ∈ tables_1 from (List.mem_append_right _ (List.mem_append_right _ (List.mem_append_right _ (List.mem_append_right _ (List.mem_append_right _ (List.mem_append_left _ h)))))))) hg
theorem gw_t7 {w : Cond} (h : w ∈ tables_1_7) (hg : goodWord w = true) : w ∈ GW := gw_of (List.mem_append_right _ (show w ∈ tables_1 from (List.mem_append_right _ (List.mem_append_right _ (List.mem_append_right _ (List.mem_append_right _ (List.mem_append_right _ (List.mem_append_right _ (List.mem_append_left _ h))))))))) hg
theorem gw_t8 {w : Cond} (h : w ∈ tables_1_8) (hg : goodWord w = true) : w ∈ GW := gw_of (List.mem_append_right _ (show w ∈ tables_1 from (List.mem_append_right _ (List.mem_append_right _ (List.mem_append_right _ (List.mem_append_right _ (List.mem_append_right _ (List.mem_append_right _ (List.mem_append_right _ h))))))))) hg
theorem gw_p1 {q : MethodName × Nat} (h : q ∈ lw_privs_1) (hg : goodWord (Cond.selects q.1.cls q.1 q.1) = true) : Cond.selects q.1.cls q.1 q.1 ∈ GW := gw_of (List.mem_append_left _ (List.mem_map.mpr ⟨q, (show q ∈ lw_privs from (List.mem_append_left _ h)), rfl⟩)) hg
theorem gw_p2 {q : MethodName × Nat} (h : q ∈ lw_privs_2) (hg : goodWord (Cond.selects q.1.cls q.1 q.1) = true) : Cond.selects q.1.cls q.1 q.1 ∈ GW := gw_of (List.mem_append_left _ (List.mem_map.mpr ⟨q, (show q ∈ lw_privs from (List.mem_append_right _ (List.mem_append_left _ h))), rfl⟩)) hg
theorem gw_p3 {q : MethodName × Nat} (h : q ∈ lw_privs_3) (hg : goodWord (Cond.selects q.1.cls q.1 q.1) = true) : Cond.selects q.1.cls q.1 q.1 ∈ GW := gw_of (List.mem_append_left _ (List.mem_map.mpr ⟨q, (show q ∈ lw_privs from (List.mem_append_right _ (List.mem_append_right _ (List.mem_append_left _ h)))), rfl⟩)) hg
theorem gw_p4 {q : MethodName × Nat} (h : q ∈ lw_privs_4) (hg : goodWord (Cond.selects q.1.cls q.1 q.1) = true) : Cond.selects q.1.cls q.1 q.1 ∈ GW := gw_of (List.mem_append_left _ (List.mem_map.mpr ⟨q, (show q ∈ lw_privs from (List.mem_append_right _ (List.mem_append_right _ (List.mem_append_right _ (List.mem_append_left _ h))))), rfl⟩)) hg
theorem gw_p5 {q : MethodName × Nat} (h : q ∈ lw_privs_5) (hg : goodWord (Cond.selects q.1.cls q.1 q.1) = true) : Cond.selects q.1.cls q.1 q.1 ∈ GW := gw_of (List.mem_append_left _ (List.mem_map.mpr ⟨q, (show q ∈ lw_privs from (List.mem_append_right _ (List.mem_append_right _ (List.mem_append_right _ (List.mem_append_right _ (List.mem_append_left _ h)))))), rfl⟩)) hg
theorem gw_p6 {q : MethodName × Nat} (h : q ∈ lw_privs_6) (hg : goodWord (Cond.selects q.1.cls q.1 q.1) = true) : Cond.selects q.1.cls q.1 q.1 ∈ GW := gw_of (List.mem_append_left _ (List.mem_map.mpr ⟨q, (show q ∈ lw_privs from (List.mem_append_right _ (List.mem_append_right _ (List.mem_append_right _ (List.mem_append_right _ (List.mem_append_right _ (List.mem_append_left _ h))))))), rfl⟩)) hg
theorem gw_p7 {q : MethodName × Nat} (h : q ∈ lw_privs_7) (hg : goodWord (Cond.selects q.1.cls q.1 q.1) = true) : Cond.selects q.1.cls q.1 q.1 ∈ GW := gw_of (List.mem_append_left _ (List.mem_map.mpr ⟨q, (show q ∈ lw_privs from (List.mem_append_right _ (List.mem_append_right _ (List.mem_append_right _ (List.mem_append_right _ (List.mem_append_right _ (List.mem_append_right _ (List.mem_append_left _ h)))))))), rfl⟩)) hg
theorem gw_p8 {q : MethodName × Nat} (h : q ∈ lw_privs_8) (hg : goodWord (Cond.selects q.1.cls q.1 q.1) = true) : Cond.selects q.1.cls q.1 q.1 ∈ GW := gw_of (List.mem_append_left _ (List.mem_map.mpr ⟨q, (show q ∈ lw_privs from (List.mem_append_right _ (List.mem_append_right _ (List.mem_append_right _ (List.mem_append_right _ (List.mem_append_right _ (List.mem_append_right _ (List.mem_append_right _ h)))))))), rfl⟩)) hg
theorem ini_L : Cond.initialized RL ∈ GW := gw_t1 (List.mem_of_getElem? (i := 0) rfl) rfl
theorem ini_X9 : Cond.initialized RX9 ∈ GW := gw_t1 (List.mem_of_getElem? (i := 1) rfl) rfl
theorem ini_X4 : Cond.initialized RX4 ∈ GW := gw_t1 (List.mem_of_getElem? (i := 2) rfl) rfl
theorem ini_X2 : Cond.initialized RX2 ∈ GW := gw_t1 (List.mem_of_getElem? (i := 3) rfl) rfl
theorem ini_X8 : Cond.initialized RX8 ∈ GW := gw_t1 (List.mem_of_getElem? (i := 4) rfl) rfl
theorem ini_X5 : Cond.initialized RX5 ∈ GW := gw_t1 (List.mem_of_getElem? (i := 5) rfl) rfl
theorem ini_X3 : Cond.initialized RX3 ∈ GW := gw_t1 (List.mem_of_getElem? (i := 6) rfl) rfl
theorem ini_X7 : Cond.initialized RX7 ∈ GW := gw_t1 (List.mem_of_getElem? (i := 7) rfl) rfl
theorem ini_X0 : Cond.initialized RX0 ∈ GW := gw_t1 (List.mem_of_getElem? (i := 8) rfl) rfl
theorem ini_X10 : Cond.initialized RX10 ∈ GW := gw_t1 (List.mem_of_getElem? (i := 9) rfl) rfl
theorem ini_J9 : Cond.initialized RJ9 ∈ GW := gw_t1 (List.mem_of_getElem? (i := 10) rfl) rfl
theorem ini_J0 : Cond.initialized RJ0 ∈ GW := gw_t1 (List.mem_of_getElem? (i := 11) rfl) rfl
theorem ini_J1 : Cond.initialized RJ1 ∈ GW := gw_t1 (List.mem_of_getElem? (i := 12) rfl) rfl
theorem ini_J3 : Cond.initialized RJ3 ∈ GW := gw_t1 (List.mem_of_getElem? (i := 13) rfl) rfl
theorem ini_J2 : Cond.initialized RJ2 ∈ GW := gw_t1 (List.mem_of_getElem? (i := 14) rfl) rfl
theorem ini_J7 : Cond.initialized RJ7 ∈ GW := gw_t1 (List.mem_of_getElem? (i := 15) rfl) rfl
theorem ini_J10 : Cond.initialized RJ10 ∈ GW := gw_t1 (List.mem_of_getElem? (i := 16) rfl) rfl
theorem ini_J6 : Cond.initialized RJ6 ∈ GW := gw_t1 (List.mem_of_getElem? (i := 17) rfl) rfl
theorem ini_X1 : Cond.initialized RX1 ∈ GW := gw_t1 (List.mem_of_getElem? (i := 18) rfl) rfl
theorem ini_X6 : Cond.initialized RX6 ∈ GW := gw_t1 (List.mem_of_getElem? (i := 19) rfl) rfl
theorem cl_L_7 : Cond.classLink RL 7 RX9 ∈ GW := gw_t1 (List.mem_of_getElem? (i := 20) rfl) rfl
theorem ins_X9 : Cond.instantiable RX9 14 ∈ GW := gw_t1 (List.mem_of_getElem? (i := 21) rfl) rfl
theorem ml_L_9 : Cond.methodLink RL 9 yX9_init ∈ GW := gw_t1 (List.mem_of_getElem? (i := 22) rfl) rfl
theorem im_X9_init : Cond.instanceMethod yX9_init ∈ GW := gw_t1 (List.mem_of_getElem? (i := 23) rfl) rfl
theorem co_X9_init : Cond.code yX9_init cX9_init 1 none ∈ GW := gw_t1 (List.mem_of_getElem? (i := 24) rfl) rfl
theorem ml_X9_1 : Cond.methodLink RX9 1 ⟨"java/lang/Object", "<init>", "()V"⟩ ∈ GW := gw_t1 (List.mem_of_getElem? (i := 25) rfl) rfl
theorem cl_X9_13 : Cond.classLink RX9 13 RX4 ∈ GW := gw_t1 (List.mem_of_getElem? (i := 28) rfl) rfl
theorem ins_X4 : Cond.instantiable RX4 12 ∈ GW := gw_t1 (List.mem_of_getElem? (i := 29) rfl) rfl
theorem im_X4_init : Cond.instanceMethod yX4_init ∈ GW := gw_t1 (List.mem_of_getElem? (i := 31) rfl) rfl
theorem co_X4_init : Cond.code yX4_init cX4_init 1 none ∈ GW := gw_t1 (List.mem_of_getElem? (i := 32) rfl) rfl
theorem ml_X4_3 : Cond.methodLink RX4 3 ⟨"java/lang/Object", "<init>", "()V"⟩ ∈ GW := gw_t1 (List.mem_of_getElem? (i := 33) rfl) rfl
theorem cl_X4_19 : Cond.classLink RX4 19 RX2 ∈ GW := gw_t1 (List.mem_of_getElem? (i := 34) rfl) rfl
theorem ins_X2 : Cond.instantiable RX2 21 ∈ GW := gw_t1 (List.mem_of_getElem? (i := 35) rfl) rfl
theorem im_X2_init : Cond.instanceMethod yX2_init ∈ GW := gw_t1 (List.mem_of_getElem? (i := 37) rfl) rfl
theorem co_X2_init : Cond.code yX2_init cX2_init 1 none ∈ GW := gw_t1 (List.mem_of_getElem? (i := 38) rfl) rfl
theorem ml_X2_3 : Cond.methodLink RX2 3 ⟨"java/lang/Object", "<init>", "()V"⟩ ∈ GW := gw_t1 (List.mem_of_getElem? (i := 39) rfl) rfl
theorem fl_X4_39 : Cond.fieldLink RX4 39 "RoadShut$Land" "lines" "I" ∈ GW := gw_t1 (List.mem_of_getElem? (i := 40) rfl) rfl
theorem fl_X9_96 : Cond.fieldLink RX9 96 "RoadShut$Land" "lines" "I" ∈ GW := gw_t1 (List.mem_of_getElem? (i := 41) rfl) rfl
theorem fl_X0_19 : Cond.fieldLink RX0 19 "RoadShut$Land" "days" "I" ∈ GW := gw_t1 (List.mem_of_getElem? (i := 42) rfl) rfl
theorem fl_X3_78 : Cond.fieldLink RX3 78 "RoadShut$Land" "days" "I" ∈ GW := gw_t1 (List.mem_of_getElem? (i := 43) rfl) rfl
theorem fl_X4_120 : Cond.fieldLink RX4 120 "RoadShut$Land" "days" "I" ∈ GW := gw_t1 (List.mem_of_getElem? (i := 44) rfl) rfl
theorem fl_X5_47 : Cond.fieldLink RX5 47 "RoadShut$Land" "days" "I" ∈ GW := gw_t1 (List.mem_of_getElem? (i := 45) rfl) rfl
theorem fl_X2_53 : Cond.fieldLink RX2 53 "RoadShut$Land" "days" "I" ∈ GW := gw_t1 (List.mem_of_getElem? (i := 46) rfl) rfl
theorem fl_X8_57 : Cond.fieldLink RX8 57 "RoadShut$Land" "days" "I" ∈ GW := gw_t1 (List.mem_of_getElem? (i := 47) rfl) rfl
theorem fl_X9_155 : Cond.fieldLink RX9 155 "RoadShut$Land" "days" "I" ∈ GW := gw_t1 (List.mem_of_getElem? (i := 48) rfl) rfl
theorem fl_X4_124 : Cond.fieldLink RX4 124 "RoadShut$Land" "first" "I" ∈ GW := gw_t1 (List.mem_of_getElem? (i := 49) rfl) rfl
theorem fl_X2_56 : Cond.fieldLink RX2 56 "RoadShut$Land" "first" "I" ∈ GW := gw_t1 (List.mem_of_getElem? (i := 50) rfl) rfl
theorem fl_X4_128 : Cond.fieldLink RX4 128 "RoadShut$Land" "snow" "I" ∈ GW := gw_t1 (List.mem_of_getElem? (i := 51) rfl) rfl
theorem fl_X2_59 : Cond.fieldLink RX2 59 "RoadShut$Land" "snow" "I" ∈ GW := gw_t1 (List.mem_of_getElem? (i := 52) rfl) rfl
theorem fl_X4_132 : Cond.fieldLink RX4 132 "RoadShut$Land" "clear" "I" ∈ GW := gw_t1 (List.mem_of_getElem? (i := 53) rfl) rfl
theorem fl_X2_62 : Cond.fieldLink RX2 62 "RoadShut$Land" "clear" "I" ∈ GW := gw_t1 (List.mem_of_getElem? (i := 54) rfl) rfl
theorem fl_X2_47 : Cond.fieldLink RX2 47 "RoadShut$Land" "things" "I" ∈ GW := gw_t1 (List.mem_of_getElem? (i := 55) rfl) rfl
theorem fl_X4_134 : Cond.fieldLink RX4 134 "RoadShut$Land" "things" "I" ∈ GW := gw_t1 (List.mem_of_getElem? (i := 56) rfl) rfl
theorem fl_X8_147 : Cond.fieldLink RX8 147 "RoadShut$Land" "things" "I" ∈ GW := gw_t1 (List.mem_of_getElem? (i := 57) rfl) rfl
theorem fl_X9_202 : Cond.fieldLink RX9 202 "RoadShut$Land" "things" "I" ∈ GW := gw_t1 (List.mem_of_getElem? (i := 58) rfl) rfl
theorem fl_X2_40 : Cond.fieldLink RX2 40 "RoadShut$Land" "valleys" "I" ∈ GW := gw_t1 (List.mem_of_getElem? (i := 59) rfl) rfl
theorem fl_X0_33 : Cond.fieldLink RX0 33 "RoadShut$Land" "valleys" "I" ∈ GW := gw_t1 (List.mem_of_getElem? (i := 60) rfl) rfl
theorem fl_X4_151 : Cond.fieldLink RX4 151 "RoadShut$Land" "valleys" "I" ∈ GW := gw_t1 (List.mem_of_getElem? (i := 61) rfl) rfl
theorem fl_X9_137 : Cond.fieldLink RX9 137 "RoadShut$Land" "valleys" "I" ∈ GW := gw_t1 (List.mem_of_getElem? (i := 62) rfl) rfl
theorem fl_X5_79 : Cond.fieldLink RX5 79 "RoadShut$Land" "valleys" "I" ∈ GW := gw_t1 (List.mem_of_getElem? (i := 63) rfl) rfl
theorem fl_X4_194 : Cond.fieldLink RX4 194 "RoadShut$Land" "paths" "I" ∈ GW := gw_t1 (List.mem_of_getElem? (i := 64) rfl) rfl
theorem fl_X9_352 : Cond.fieldLink RX9 352 "RoadShut$Land" "paths" "I" ∈ GW := gw_t1 (List.mem_of_getElem? (i := 65) rfl) rfl
theorem fl_X2_9 : Cond.fieldLink RX2 9 "RoadShut$Land" "lorries" "I" ∈ GW := gw_t1 (List.mem_of_getElem? (i := 66) rfl) rfl
theorem fl_X4_173 : Cond.fieldLink RX4 173 "RoadShut$Land" "lorries" "I" ∈ GW := gw_t1 (List.mem_of_getElem? (i := 67) rfl) rfl
theorem fl_X3_108 : Cond.fieldLink RX3 108 "RoadShut$Land" "lorries" "I" ∈ GW := gw_t1 (List.mem_of_getElem? (i := 68) rfl) rfl
theorem fl_X2_15 : Cond.fieldLink RX2 15 "RoadShut$Land" "load" "I" ∈ GW := gw_t1 (List.mem_of_getElem? (i := 69) rfl) rfl
theorem fl_X3_48 : Cond.fieldLink RX3 48 "RoadShut$Land" "load" "I" ∈ GW := gw_t1 (List.mem_of_getElem? (i := 70) rfl) rfl
theorem fl_X4_178 : Cond.fieldLink RX4 178 "RoadShut$Land" "load" "I" ∈ GW := gw_t1 (List.mem_of_getElem? (i := 71) rfl) rfl
theorem fl_X9_341 : Cond.fieldLink RX9 341 "RoadShut$Land" "load" "I" ∈ GW := gw_t1 (List.mem_of_getElem? (i := 72) rfl) rfl
theorem fl_X3_62 : Cond.fieldLink RX3 62 "RoadShut$Land" "fare" "I" ∈ GW := gw_t1 (List.mem_of_getElem? (i := 73) rfl) rfl
theorem fl_X4_183 : Cond.fieldLink RX4 183 "RoadShut$Land" "fare" "I" ∈ GW := gw_t1 (List.mem_of_getElem? (i := 74) rfl) rfl
theorem fl_X9_230 : Cond.fieldLink RX9 230 "RoadShut$Land" "fare" "I" ∈ GW := gw_t1 (List.mem_of_getElem? (i := 75) rfl) rfl
theorem fl_X4_186 : Cond.fieldLink RX4 186 "RoadShut$Land" "planeLoad" "I" ∈ GW := gw_t1 (List.mem_of_getElem? (i := 76) rfl) rfl
theorem fl_X8_132 : Cond.fieldLink RX8 132 "RoadShut$Land" "planeLoad" "I" ∈ GW := gw_t1 (List.mem_of_getElem? (i := 77) rfl) rfl
theorem fl_X9_254 : Cond.fieldLink RX9 254 "RoadShut$Land" "planeLoad" "I" ∈ GW := gw_t1 (List.mem_of_getElem? (i := 78) rfl) rfl
theorem fl_X4_189 : Cond.fieldLink RX4 189 "RoadShut$Land" "planeFare" "I" ∈ GW := gw_t1 (List.mem_of_getElem? (i := 79) rfl) rfl
theorem fl_X8_135 : Cond.fieldLink RX8 135 "RoadShut$Land" "planeFare" "I" ∈ GW := gw_t1 (List.mem_of_getElem? (i := 80) rfl) rfl
theorem fl_X9_257 : Cond.fieldLink RX9 257 "RoadShut$Land" "planeFare" "I" ∈ GW := gw_t1 (List.mem_of_getElem? (i := 81) rfl) rfl
theorem fl_X4_192 : Cond.fieldLink RX4 192 "RoadShut$Land" "mule" "I" ∈ GW := gw_t1 (List.mem_of_getElem? (i := 82) rfl) rfl
theorem fl_X8_74 : Cond.fieldLink RX8 74 "RoadShut$Land" "mule" "I" ∈ GW := gw_t1 (List.mem_of_getElem? (i := 83) rfl) rfl
theorem fl_X2_18 : Cond.fieldLink RX2 18 "RoadShut$Land" "price" "[I" ∈ GW := gw_t1 (List.mem_of_getElem? (i := 84) rfl) rfl
theorem fl_X3_65 : Cond.fieldLink RX3 65 "RoadShut$Land" "price" "[I" ∈ GW := gw_t1 (List.mem_of_getElem? (i := 85) rfl) rfl
theorem fl_X4_137 : Cond.fieldLink RX4 137 "RoadShut$Land" "price" "[I" ∈ GW := gw_t1 (List.mem_of_getElem? (i := 86) rfl) rfl
theorem fl_X8_114 : Cond.fieldLink RX8 114 "RoadShut$Land" "price" "[I" ∈ GW := gw_t1 (List.mem_of_getElem? (i := 87) rfl) rfl
theorem fl_X9_346 : Cond.fieldLink RX9 346 "RoadShut$Land" "price" "[I" ∈ GW := gw_t1 (List.mem_of_getElem? (i := 88) rfl) rfl
theorem fl_X2_22 : Cond.fieldLink RX2 22 "RoadShut$Land" "harm" "[I" ∈ GW := gw_t1 (List.mem_of_getElem? (i := 89) rfl) rfl
theorem fl_X4_142 : Cond.fieldLink RX4 142 "RoadShut$Land" "harm" "[I" ∈ GW := gw_t1 (List.mem_of_getElem? (i := 90) rfl) rfl
theorem fl_X3_103 : Cond.fieldLink RX3 103 "RoadShut$Land" "harm" "[I" ∈ GW := gw_t1 (List.mem_of_getElem? (i := 91) rfl) rfl
theorem fl_X8_122 : Cond.fieldLink RX8 122 "RoadShut$Land" "harm" "[I" ∈ GW := gw_t1 (List.mem_of_getElem? (i := 92) rfl) rfl
theorem fl_X9_251 : Cond.fieldLink RX9 251 "RoadShut$Land" "harm" "[I" ∈ GW := gw_t1 (List.mem_of_getElem? (i := 93) rfl) rfl
theorem fl_X2_25 : Cond.fieldLink RX2 25 "RoadShut$Land" "returning" "[I" ∈ GW := gw_t1 (List.mem_of_getElem? (i := 94) rfl) rfl
theorem fl_X3_71 : Cond.fieldLink RX3 71 "RoadShut$Land" "returning" "[I" ∈ GW := gw_t1 (List.mem_of_getElem? (i := 95) rfl) rfl
theorem fl_X4_146 : Cond.fieldLink RX4 146 "RoadShut$Land" "returning" "[I" ∈ GW := gw_t1 (List.mem_of_getElem? (i := 96) rfl) rfl
theorem fl_X8_119 : Cond.fieldLink RX8 119 "RoadShut$Land" "returning" "[I" ∈ GW := gw_t1 (List.mem_of_getElem? (i := 97) rfl) rfl
theorem fl_X9_349 : Cond.fieldLink RX9 349 "RoadShut$Land" "returning" "[I" ∈ GW := gw_t1 (List.mem_of_getElem? (i := 98) rfl) rfl
theorem fl_X2_28 : Cond.fieldLink RX2 28 "RoadShut$Land" "closing" "[I" ∈ GW := gw_t1 (List.mem_of_getElem? (i := 99) rfl) rfl
theorem fl_X0_36 : Cond.fieldLink RX0 36 "RoadShut$Land" "closing" "[I" ∈ GW := gw_t1 (List.mem_of_getElem? (i := 100) rfl) rfl
theorem fl_X5_55 : Cond.fieldLink RX5 55 "RoadShut$Land" "closing" "[I" ∈ GW := gw_t1 (List.mem_of_getElem? (i := 101) rfl) rfl
theorem fl_X4_154 : Cond.fieldLink RX4 154 "RoadShut$Land" "closing" "[I" ∈ GW := gw_t1 (List.mem_of_getElem? (i := 102) rfl) rfl
theorem fl_X3_96 : Cond.fieldLink RX3 96 "RoadShut$Land" "closing" "[I" ∈ GW := gw_t1 (List.mem_of_getElem? (i := 103) rfl) rfl
theorem fl_X2_31 : Cond.fieldLink RX2 31 "RoadShut$Land" "room" "[I" ∈ GW := gw_t1 (List.mem_of_getElem? (i := 104) rfl) rfl
theorem fl_X4_159 : Cond.fieldLink RX4 159 "RoadShut$Land" "room" "[I" ∈ GW := gw_t1 (List.mem_of_getElem? (i := 105) rfl) rfl
theorem fl_X8_150 : Cond.fieldLink RX8 150 "RoadShut$Land" "room" "[I" ∈ GW := gw_t1 (List.mem_of_getElem? (i := 106) rfl) rfl
theorem fl_X2_34 : Cond.fieldLink RX2 34 "RoadShut$Land" "eats" "[I" ∈ GW := gw_t1 (List.mem_of_getElem? (i := 107) rfl) rfl
theorem fl_X4_165 : Cond.fieldLink RX4 165 "RoadShut$Land" "eats" "[I" ∈ GW := gw_t1 (List.mem_of_getElem? (i := 108) rfl) rfl
theorem fl_X2_37 : Cond.fieldLink RX2 37 "RoadShut$Land" "pathDays" "[I" ∈ GW := gw_t1 (List.mem_of_getElem? (i := 109) rfl) rfl
theorem fl_X4_207 : Cond.fieldLink RX4 207 "RoadShut$Land" "pathDays" "[I" ∈ GW := gw_t1 (List.mem_of_getElem? (i := 110) rfl) rfl
theorem ly_X2_lines : Cond.lays RX2 "RoadShut$Land" "lines" "I" ∈ GW := gw_t1 (List.mem_of_getElem? (i := 111) rfl) rfl
theorem ly_X2_days : Cond.lays RX2 "RoadShut$Land" "days" "I" ∈ GW := gw_t1 (List.mem_of_getElem? (i := 113) rfl) rfl
theorem ly_X2_first : Cond.lays RX2 "RoadShut$Land" "first" "I" ∈ GW := gw_t1 (List.mem_of_getElem? (i := 115) rfl) rfl
theorem ly_X2_snow : Cond.lays RX2 "RoadShut$Land" "snow" "I" ∈ GW := gw_t1 (List.mem_of_getElem? (i := 117) rfl) rfl
theorem ly_X2_clear : Cond.lays RX2 "RoadShut$Land" "clear" "I" ∈ GW := gw_t1 (List.mem_of_getElem? (i := 119) rfl) rfl
theorem ly_X2_things : Cond.lays RX2 "RoadShut$Land" "things" "I" ∈ GW := gw_t1 (List.mem_of_getElem? (i := 121) rfl) rfl
theorem ly_X2_valleys : Cond.lays RX2 "RoadShut$Land" "valleys" "I" ∈ GW := gw_t1 (List.mem_of_getElem? (i := 123) rfl) rfl
theorem ly_X2_paths : Cond.lays RX2 "RoadShut$Land" "paths" "I" ∈ GW := gw_t1 (List.mem_of_getElem? (i := 125) rfl) rfl
theorem ly_X2_lorries : Cond.lays RX2 "RoadShut$Land" "lorries" "I" ∈ GW := gw_t1 (List.mem_of_getElem? (i := 127) rfl) rfl
theorem ly_X2_load : Cond.lays RX2 "RoadShut$Land" "load" "I" ∈ GW := gw_t1 (List.mem_of_getElem? (i := 129) rfl) rfl
theorem ly_X2_fare : Cond.lays RX2 "RoadShut$Land" "fare" "I" ∈ GW := gw_t1 (List.mem_of_getElem? (i := 131) rfl) rfl
theorem ly_X2_planeLoad : Cond.lays RX2 "RoadShut$Land" "planeLoad" "I" ∈ GW := gw_t1 (List.mem_of_getElem? (i := 133) rfl) rfl
theorem ly_X2_planeFare : Cond.lays RX2 "RoadShut$Land" "planeFare" "I" ∈ GW := gw_t1 (List.mem_of_getElem? (i := 135) rfl) rfl
theorem ly_X2_mule : Cond.lays RX2 "RoadShut$Land" "mule" "I" ∈ GW := gw_t1 (List.mem_of_getElem? (i := 137) rfl) rfl
theorem ly_X2_price : Cond.laysFinal RX2 "RoadShut$Land" "price" "[I" ∈ GW := gw_t1 (List.mem_of_getElem? (i := 139) rfl) rfl
theorem ly_X2_harm : Cond.laysFinal RX2 "RoadShut$Land" "harm" "[I" ∈ GW := gw_t1 (List.mem_of_getElem? (i := 141) rfl) rfl
theorem ly_X2_returning : Cond.laysFinal RX2 "RoadShut$Land" "returning" "[I" ∈ GW := gw_t1 (List.mem_of_getElem? (i := 143) rfl) rfl
theorem ly_X2_closing : Cond.laysFinal RX2 "RoadShut$Land" "closing" "[I" ∈ GW := gw_t1 (List.mem_of_getElem? (i := 145) rfl) rfl
theorem ly_X2_room : Cond.laysFinal RX2 "RoadShut$Land" "room" "[I" ∈ GW := gw_t1 (List.mem_of_getElem? (i := 147) rfl) rfl
theorem ly_X2_eats : Cond.laysFinal RX2 "RoadShut$Land" "eats" "[I" ∈ GW := gw_t1 (List.mem_of_getElem? (i := 149) rfl) rfl
theorem ly_X2_pathDays : Cond.laysFinal RX2 "RoadShut$Land" "pathDays" "[I" ∈ GW := gw_t1 (List.mem_of_getElem? (i := 151) rfl) rfl
theorem ac_byte : Cond.arrayClass .byte ∈ GW := gw_t1 (List.mem_of_getElem? (i := 154) rfl) rfl
theorem ac_int : Cond.arrayClass .int ∈ GW := gw_t1 (List.mem_of_getElem? (i := 155) rfl) rfl
theorem fl_X4_36 : Cond.fieldLink RX4 36 "RoadShut$Reader" "fault" "I" ∈ GW := gw_t1 (List.mem_of_getElem? (i := 156) rfl) rfl
theorem fl_X9_86 : Cond.fieldLink RX9 86 "RoadShut$Reader" "fault" "I" ∈ GW := gw_t1 (List.mem_of_getElem? (i := 157) rfl) rfl
theorem fl_X4_9 : Cond.fieldLink RX4 9 "RoadShut$Reader" "faultPlace" "I" ∈ GW := gw_t1 (List.mem_of_getElem? (i := 158) rfl) rfl
theorem fl_X9_92 : Cond.fieldLink RX9 92 "RoadShut$Reader" "faultPlace" "I" ∈ GW := gw_t1 (List.mem_of_getElem? (i := 159) rfl) rfl
theorem fl_X4_15 : Cond.fieldLink RX4 15 "RoadShut$Reader" "tape" "[B" ∈ GW := gw_t1 (List.mem_of_getElem? (i := 160) rfl) rfl
theorem fl_X4_30 : Cond.fieldLink RX4 30 "RoadShut$Reader" "length" "I" ∈ GW := gw_t1 (List.mem_of_getElem? (i := 161) rfl) rfl
theorem fl_X4_33 : Cond.fieldLink RX4 33 "RoadShut$Reader" "kind" "I" ∈ GW := gw_t1 (List.mem_of_getElem? (i := 162) rfl) rfl
theorem fl_X4_210 : Cond.fieldLink RX4 210 "RoadShut$Reader" "start" "I" ∈ GW := gw_t1 (List.mem_of_getElem? (i := 163) rfl) rfl
theorem fl_X4_92 : Cond.fieldLink RX4 92 "RoadShut$Reader" "stop" "I" ∈ GW := gw_t1 (List.mem_of_getElem? (i := 164) rfl) rfl
theorem fl_X4_197 : Cond.fieldLink RX4 197 "RoadShut$Reader" "number" "I" ∈ GW := gw_t1 (List.mem_of_getElem? (i := 165) rfl) rfl
theorem fl_X4_22 : Cond.fieldLink RX4 22 "RoadShut$Reader" "land" "LRoadShut$Land;" ∈ GW := gw_t1 (List.mem_of_getElem? (i := 166) rfl) rfl
theorem fl_X4_95 : Cond.fieldLink RX4 95 "RoadShut$Reader" "lorryTold" "Z" ∈ GW := gw_t1 (List.mem_of_getElem? (i := 167) rfl) rfl
theorem fl_X4_99 : Cond.fieldLink RX4 99 "RoadShut$Reader" "planeTold" "Z" ∈ GW := gw_t1 (List.mem_of_getElem? (i := 168) rfl) rfl
theorem fl_X4_102 : Cond.fieldLink RX4 102 "RoadShut$Reader" "muleTold" "Z" ∈ GW := gw_t1 (List.mem_of_getElem? (i := 169) rfl) rfl
theorem ly_X4_fault : Cond.lays RX4 "RoadShut$Reader" "fault" "I" ∈ GW := gw_t1 (List.mem_of_getElem? (i := 170) rfl) rfl
theorem ly_X4_faultPlace : Cond.lays RX4 "RoadShut$Reader" "faultPlace" "I" ∈ GW := gw_t1 (List.mem_of_getElem? (i := 172) rfl) rfl
theorem ly_X4_tape : Cond.lays RX4 "RoadShut$Reader" "tape" "[B" ∈ GW := gw_t1 (List.mem_of_getElem? (i := 174) rfl) rfl
theorem ly_X4_length : Cond.lays RX4 "RoadShut$Reader" "length" "I" ∈ GW := gw_t1 (List.mem_of_getElem? (i := 176) rfl) rfl
theorem ly_X4_kind : Cond.lays RX4 "RoadShut$Reader" "kind" "I" ∈ GW := gw_t1 (List.mem_of_getElem? (i := 178) rfl) rfl
theorem ly_X4_start : Cond.lays RX4 "RoadShut$Reader" "start" "I" ∈ GW := gw_t1 (List.mem_of_getElem? (i := 180) rfl) rfl
theorem ly_X4_stop : Cond.lays RX4 "RoadShut$Reader" "stop" "I" ∈ GW := gw_t1 (List.mem_of_getElem? (i := 182) rfl) rfl
theorem ly_X4_number : Cond.lays RX4 "RoadShut$Reader" "number" "I" ∈ GW := gw_t1 (List.mem_of_getElem? (i := 184) rfl) rfl
theorem ly_X4_land : Cond.lays RX4 "RoadShut$Reader" "land" "LRoadShut$Land;" ∈ GW := gw_t1 (List.mem_of_getElem? (i := 186) rfl) rfl
theorem ly_X4_lorryTold : Cond.lays RX4 "RoadShut$Reader" "lorryTold" "Z" ∈ GW := gw_t1 (List.mem_of_getElem? (i := 188) rfl) rfl
theorem ly_X4_planeTold : Cond.lays RX4 "RoadShut$Reader" "planeTold" "Z" ∈ GW := gw_t1 (List.mem_of_getElem? (i := 190) rfl) rfl
theorem ly_X4_muleTold : Cond.lays RX4 "RoadShut$Reader" "muleTold" "Z" ∈ GW := gw_t1 (List.mem_of_getElem? (i := 192) rfl) rfl
theorem cl_X9_20 : Cond.classLink RX9 20 RX8 ∈ GW := gw_t1 (List.mem_of_getElem? (i := 195) rfl) rfl
theorem ins_X8 : Cond.instantiable RX8 5 ∈ GW := gw_t1 (List.mem_of_getElem? (i := 196) rfl) rfl
theorem im_X8_init : Cond.instanceMethod yX8_init ∈ GW := gw_t1 (List.mem_of_getElem? (i := 198) rfl) rfl
theorem co_X8_init : Cond.code yX8_init cX8_init 1 none ∈ GW := gw_t1 (List.mem_of_getElem? (i := 199) rfl) rfl
theorem ml_X8_3 : Cond.methodLink RX8 3 ⟨"java/lang/Object", "<init>", "()V"⟩ ∈ GW := gw_t1 (List.mem_of_getElem? (i := 200) rfl) rfl
theorem cl_X8_9 : Cond.classLink RX8 9 RX5 ∈ GW := gw_t1 (List.mem_of_getElem? (i := 201) rfl) rfl
theorem ins_X5 : Cond.instantiable RX5 7 ∈ GW := gw_t1 (List.mem_of_getElem? (i := 202) rfl) rfl
theorem im_X5_init : Cond.instanceMethod yX5_init ∈ GW := gw_t1 (List.mem_of_getElem? (i := 204) rfl) rfl
theorem co_X5_init : Cond.code yX5_init cX5_init 1 none ∈ GW := gw_t1 (List.mem_of_getElem? (i := 205) rfl) rfl
theorem ml_X5_3 : Cond.methodLink RX5 3 ⟨"java/lang/Object", "<init>", "()V"⟩ ∈ GW := gw_t1 (List.mem_of_getElem? (i := 206) rfl) rfl
theorem fl_X5_11 : Cond.fieldLink RX5 11 "RoadShut$Roads" "one" "[J" ∈ GW := gw_t1 (List.mem_of_getElem? (i := 207) rfl) rfl
theorem fl_X5_15 : Cond.fieldLink RX5 15 "RoadShut$Roads" "two" "[J" ∈ GW := gw_t1 (List.mem_of_getElem? (i := 208) rfl) rfl
theorem fl_X5_18 : Cond.fieldLink RX5 18 "RoadShut$Roads" "snowyTwo" "[J" ∈ GW := gw_t1 (List.mem_of_getElem? (i := 209) rfl) rfl
theorem fl_X5_21 : Cond.fieldLink RX5 21 "RoadShut$Roads" "clearTwo" "[J" ∈ GW := gw_t1 (List.mem_of_getElem? (i := 210) rfl) rfl
theorem fl_X5_24 : Cond.fieldLink RX5 24 "RoadShut$Roads" "snowyAll" "[J" ∈ GW := gw_t1 (List.mem_of_getElem? (i := 211) rfl) rfl
theorem fl_X5_27 : Cond.fieldLink RX5 27 "RoadShut$Roads" "clearAll" "[J" ∈ GW := gw_t1 (List.mem_of_getElem? (i := 212) rfl) rfl
theorem fl_X5_30 : Cond.fieldLink RX5 30 "RoadShut$Roads" "splitAll" "[J" ∈ GW := gw_t1 (List.mem_of_getElem? (i := 213) rfl) rfl
theorem ly_X5_one : Cond.laysFinal RX5 "RoadShut$Roads" "one" "[J" ∈ GW := gw_t1 (List.mem_of_getElem? (i := 214) rfl) rfl
theorem ly_X5_two : Cond.laysFinal RX5 "RoadShut$Roads" "two" "[J" ∈ GW := gw_t1 (List.mem_of_getElem? (i := 216) rfl) rfl
theorem ly_X5_snowyTwo : Cond.laysFinal RX5 "RoadShut$Roads" "snowyTwo" "[J" ∈ GW := gw_t1 (List.mem_of_getElem? (i := 218) rfl) rfl
theorem ly_X5_clearTwo : Cond.laysFinal RX5 "RoadShut$Roads" "clearTwo" "[J" ∈ GW := gw_t1 (List.mem_of_getElem? (i := 220) rfl) rfl
theorem ly_X5_snowyAll : Cond.laysFinal RX5 "RoadShut$Roads" "snowyAll" "[J" ∈ GW := gw_t1 (List.mem_of_getElem? (i := 222) rfl) rfl
theorem ly_X5_clearAll : Cond.laysFinal RX5 "RoadShut$Roads" "clearAll" "[J" ∈ GW := gw_t1 (List.mem_of_getElem? (i := 224) rfl) rfl
theorem ly_X5_splitAll : Cond.laysFinal RX5 "RoadShut$Roads" "splitAll" "[J" ∈ GW := gw_t1 (List.mem_of_getElem? (i := 226) rfl) rfl
theorem ac_long : Cond.arrayClass .long ∈ GW := gw_t1 (List.mem_of_getElem? (i := 229) rfl) rfl
theorem fl_X8_12 : Cond.fieldLink RX8 12 "RoadShut$Stores" "roads" "LRoadShut$Roads;" ∈ GW := gw_t1 (List.mem_of_getElem? (i := 230) rfl) rfl
theorem fl_X9_108 : Cond.fieldLink RX9 108 "RoadShut$Stores" "roads" "LRoadShut$Roads;" ∈ GW := gw_t1 (List.mem_of_getElem? (i := 231) rfl) rfl
theorem fl_X8_18 : Cond.fieldLink RX8 18 "RoadShut$Stores" "parts" "[J" ∈ GW := gw_t1 (List.mem_of_getElem? (i := 232) rfl) rfl
theorem fl_X8_98 : Cond.fieldLink RX8 98 "RoadShut$Stores" "wantedMost" "I" ∈ GW := gw_t1 (List.mem_of_getElem? (i := 233) rfl) rfl
theorem fl_X8_22 : Cond.fieldLink RX8 22 "RoadShut$Stores" "wholes" "[J" ∈ GW := gw_t1 (List.mem_of_getElem? (i := 234) rfl) rfl
theorem fl_X8_25 : Cond.fieldLink RX8 25 "RoadShut$Stores" "packing" "[I" ∈ GW := gw_t1 (List.mem_of_getElem? (i := 235) rfl) rfl
theorem ly_X8_roads : Cond.laysFinal RX8 "RoadShut$Stores" "roads" "LRoadShut$Roads;" ∈ GW := gw_t1 (List.mem_of_getElem? (i := 236) rfl) rfl
theorem ly_X8_parts : Cond.laysFinal RX8 "RoadShut$Stores" "parts" "[J" ∈ GW := gw_t1 (List.mem_of_getElem? (i := 238) rfl) rfl
theorem ly_X8_wantedMost : Cond.lays RX8 "RoadShut$Stores" "wantedMost" "I" ∈ GW := gw_t2 (List.mem_of_getElem? (i := 0) rfl) rfl
theorem ly_X8_wholes : Cond.laysFinal RX8 "RoadShut$Stores" "wholes" "[J" ∈ GW := gw_t2 (List.mem_of_getElem? (i := 2) rfl) rfl
theorem ly_X8_packing : Cond.laysFinal RX8 "RoadShut$Stores" "packing" "[I" ∈ GW := gw_t2 (List.mem_of_getElem? (i := 4) rfl) rfl
theorem cl_X9_27 : Cond.classLink RX9 27 RX3 ∈ GW := gw_t2 (List.mem_of_getElem? (i := 7) rfl) rfl
theorem ins_X3 : Cond.instantiable RX3 10 ∈ GW := gw_t2 (List.mem_of_getElem? (i := 8) rfl) rfl
theorem im_X3_init : Cond.instanceMethod yX3_init ∈ GW := gw_t2 (List.mem_of_getElem? (i := 10) rfl) rfl
theorem co_X3_init : Cond.code yX3_init cX3_init 1 none ∈ GW := gw_t2 (List.mem_of_getElem? (i := 11) rfl) rfl
theorem ml_X3_3 : Cond.methodLink RX3 3 ⟨"java/lang/Object", "<init>", "()V"⟩ ∈ GW := gw_t2 (List.mem_of_getElem? (i := 12) rfl) rfl
theorem cl_X3_22 : Cond.classLink RX3 22 RX2 ∈ GW := gw_t2 (List.mem_of_getElem? (i := 13) rfl) rfl
theorem fl_X3_9 : Cond.fieldLink RX3 9 "RoadShut$Planner" "snowy" "[J" ∈ GW := gw_t2 (List.mem_of_getElem? (i := 15) rfl) rfl
theorem fl_X3_15 : Cond.fieldLink RX3 15 "RoadShut$Planner" "clear" "[J" ∈ GW := gw_t2 (List.mem_of_getElem? (i := 16) rfl) rfl
theorem fl_X3_18 : Cond.fieldLink RX3 18 "RoadShut$Planner" "lastSent" "[I" ∈ GW := gw_t2 (List.mem_of_getElem? (i := 17) rfl) rfl
theorem fl_X3_25 : Cond.fieldLink RX3 25 "RoadShut$Planner" "land" "LRoadShut$Land;" ∈ GW := gw_t2 (List.mem_of_getElem? (i := 18) rfl) rfl
theorem fl_X3_33 : Cond.fieldLink RX3 33 "RoadShut$Planner" "valley" "I" ∈ GW := gw_t2 (List.mem_of_getElem? (i := 19) rfl) rfl
theorem fl_X3_36 : Cond.fieldLink RX3 36 "RoadShut$Planner" "thing" "I" ∈ GW := gw_t2 (List.mem_of_getElem? (i := 20) rfl) rfl
theorem fl_X3_45 : Cond.fieldLink RX3 45 "RoadShut$Planner" "lying" "I" ∈ GW := gw_t2 (List.mem_of_getElem? (i := 21) rfl) rfl
theorem fl_X3_49 : Cond.fieldLink RX3 49 "RoadShut$Planner" "fullest" "I" ∈ GW := gw_t2 (List.mem_of_getElem? (i := 22) rfl) rfl
theorem fl_X3_29 : Cond.fieldLink RX3 29 "RoadShut$Planner" "load" "I" ∈ GW := gw_t2 (List.mem_of_getElem? (i := 23) rfl) rfl
theorem fl_X3_68 : Cond.fieldLink RX3 68 "RoadShut$Planner" "fare" "J" ∈ GW := gw_t2 (List.mem_of_getElem? (i := 24) rfl) rfl
theorem ly_X3_snowy : Cond.laysFinal RX3 "RoadShut$Planner" "snowy" "[J" ∈ GW := gw_t2 (List.mem_of_getElem? (i := 25) rfl) rfl
theorem ly_X3_clear : Cond.laysFinal RX3 "RoadShut$Planner" "clear" "[J" ∈ GW := gw_t2 (List.mem_of_getElem? (i := 27) rfl) rfl
theorem ly_X3_lastSent : Cond.laysFinal RX3 "RoadShut$Planner" "lastSent" "[I" ∈ GW := gw_t2 (List.mem_of_getElem? (i := 29) rfl) rfl
theorem ly_X3_land : Cond.lays RX3 "RoadShut$Planner" "land" "LRoadShut$Land;" ∈ GW := gw_t2 (List.mem_of_getElem? (i := 31) rfl) rfl
theorem ly_X3_valley : Cond.lays RX3 "RoadShut$Planner" "valley" "I" ∈ GW := gw_t2 (List.mem_of_getElem? (i := 33) rfl) rfl
theorem ly_X3_thing : Cond.lays RX3 "RoadShut$Planner" "thing" "I" ∈ GW := gw_t2 (List.mem_of_getElem? (i := 35) rfl) rfl
theorem ly_X3_lying : Cond.lays RX3 "RoadShut$Planner" "lying" "I" ∈ GW := gw_t2 (List.mem_of_getElem? (i := 37) rfl) rfl
theorem ly_X3_fullest : Cond.lays RX3 "RoadShut$Planner" "fullest" "I" ∈ GW := gw_t2 (List.mem_of_getElem? (i := 39) rfl) rfl
theorem ly_X3_load : Cond.lays RX3 "RoadShut$Planner" "load" "I" ∈ GW := gw_t2 (List.mem_of_getElem? (i := 41) rfl) rfl
theorem ly_X3_fare : Cond.lays RX3 "RoadShut$Planner" "fare" "J" ∈ GW := gw_t2 (List.mem_of_getElem? (i := 43) rfl) rfl
theorem cl_X9_34 : Cond.classLink RX9 34 RX7 ∈ GW := gw_t2 (List.mem_of_getElem? (i := 46) rfl) rfl
theorem ins_X7 : Cond.instantiable RX7 1 ∈ GW := gw_t2 (List.mem_of_getElem? (i := 47) rfl) rfl
theorem im_X7_init : Cond.instanceMethod yX7_init ∈ GW := gw_t2 (List.mem_of_getElem? (i := 49) rfl) rfl
theorem co_X7_init : Cond.code yX7_init cX7_init 1 none ∈ GW := gw_t2 (List.mem_of_getElem? (i := 50) rfl) rfl
theorem ml_X7_3 : Cond.methodLink RX7 3 ⟨"java/lang/Object", "<init>", "()V"⟩ ∈ GW := gw_t2 (List.mem_of_getElem? (i := 51) rfl) rfl
theorem fl_X7_9 : Cond.fieldLink RX7 9 "RoadShut$Sharing" "asked" "[I" ∈ GW := gw_t2 (List.mem_of_getElem? (i := 52) rfl) rfl
theorem ly_X7_asked : Cond.laysFinal RX7 "RoadShut$Sharing" "asked" "[I" ∈ GW := gw_t2 (List.mem_of_getElem? (i := 53) rfl) rfl
theorem cl_X9_41 : Cond.classLink RX9 41 RX0 ∈ GW := gw_t2 (List.mem_of_getElem? (i := 56) rfl) rfl
theorem ins_X0 : Cond.instantiable RX0 1 ∈ GW := gw_t2 (List.mem_of_getElem? (i := 57) rfl) rfl
theorem im_X0_init : Cond.instanceMethod yX0_init ∈ GW := gw_t2 (List.mem_of_getElem? (i := 59) rfl) rfl
theorem co_X0_init : Cond.code yX0_init cX0_init 1 none ∈ GW := gw_t2 (List.mem_of_getElem? (i := 60) rfl) rfl
theorem ml_X0_1 : Cond.methodLink RX0 1 ⟨"java/lang/Object", "<init>", "()V"⟩ ∈ GW := gw_t2 (List.mem_of_getElem? (i := 61) rfl) rfl
theorem fl_X0_13 : Cond.fieldLink RX0 13 "RoadShut$Dice" "x" "J" ∈ GW := gw_t2 (List.mem_of_getElem? (i := 62) rfl) rfl
theorem ly_X0_x : Cond.lays RX0 "RoadShut$Dice" "x" "J" ∈ GW := gw_t2 (List.mem_of_getElem? (i := 63) rfl) rfl
theorem cl_X9_52 : Cond.classLink RX9 52 RX6 ∈ GW := gw_t2 (List.mem_of_getElem? (i := 66) rfl) rfl
theorem cl_X9_58 : Cond.classLink RX9 58 RX1 ∈ GW := gw_t2 (List.mem_of_getElem? (i := 68) rfl) rfl
theorem cl_X9_64 : Cond.classLink RX9 64 RX2 ∈ GW := gw_t2 (List.mem_of_getElem? (i := 70) rfl) rfl
theorem fl_X9_9 : Cond.fieldLink RX9 9 "RoadShut" "tape" "[B" ∈ GW := gw_t2 (List.mem_of_getElem? (i := 72) rfl) rfl
theorem fl_X9_16 : Cond.fieldLink RX9 16 "RoadShut" "reader" "LRoadShut$Reader;" ∈ GW := gw_t2 (List.mem_of_getElem? (i := 73) rfl) rfl
theorem fl_X9_23 : Cond.fieldLink RX9 23 "RoadShut" "stores" "LRoadShut$Stores;" ∈ GW := gw_t2 (List.mem_of_getElem? (i := 74) rfl) rfl
theorem fl_X9_30 : Cond.fieldLink RX9 30 "RoadShut" "planner" "LRoadShut$Planner;" ∈ GW := gw_t2 (List.mem_of_getElem? (i := 75) rfl) rfl
theorem fl_X9_37 : Cond.fieldLink RX9 37 "RoadShut" "sharing" "LRoadShut$Sharing;" ∈ GW := gw_t2 (List.mem_of_getElem? (i := 76) rfl) rfl
theorem fl_X9_44 : Cond.fieldLink RX9 44 "RoadShut" "dice" "LRoadShut$Dice;" ∈ GW := gw_t2 (List.mem_of_getElem? (i := 77) rfl) rfl
theorem fl_X9_48 : Cond.fieldLink RX9 48 "RoadShut" "drawn" "[I" ∈ GW := gw_t2 (List.mem_of_getElem? (i := 78) rfl) rfl
theorem fl_X9_54 : Cond.fieldLink RX9 54 "RoadShut" "slots" "[LRoadShut$Row;" ∈ GW := gw_t2 (List.mem_of_getElem? (i := 79) rfl) rfl
theorem fl_X9_60 : Cond.fieldLink RX9 60 "RoadShut" "images" "[LRoadShut$Image;" ∈ GW := gw_t2 (List.mem_of_getElem? (i := 80) rfl) rfl
theorem fl_X9_75 : Cond.fieldLink RX9 75 "RoadShut" "taped" "I" ∈ GW := gw_t2 (List.mem_of_getElem? (i := 81) rfl) rfl
theorem fl_X9_67 : Cond.fieldLink RX9 67 "RoadShut" "land" "LRoadShut$Land;" ∈ GW := gw_t2 (List.mem_of_getElem? (i := 82) rfl) rfl
theorem fl_X9_93 : Cond.fieldLink RX9 93 "RoadShut" "year" "[I" ∈ GW := gw_t2 (List.mem_of_getElem? (i := 83) rfl) rfl
theorem fl_X9_89 : Cond.fieldLink RX9 89 "RoadShut" "faultKind" "I" ∈ GW := gw_t2 (List.mem_of_getElem? (i := 84) rfl) rfl
theorem fl_X9_71 : Cond.fieldLink RX9 71 "RoadShut" "faultPlace" "I" ∈ GW := gw_t2 (List.mem_of_getElem? (i := 85) rfl) rfl
theorem ly_X9_tape : Cond.laysFinal RX9 "RoadShut" "tape" "[B" ∈ GW := gw_t2 (List.mem_of_getElem? (i := 86) rfl) rfl
theorem ly_X9_reader : Cond.laysFinal RX9 "RoadShut" "reader" "LRoadShut$Reader;" ∈ GW := gw_t2 (List.mem_of_getElem? (i := 88) rfl) rfl
theorem ly_X9_stores : Cond.laysFinal RX9 "RoadShut" "stores" "LRoadShut$Stores;" ∈ GW := gw_t2 (List.mem_of_getElem? (i := 90) rfl) rfl
theorem ly_X9_planner : Cond.laysFinal RX9 "RoadShut" "planner" "LRoadShut$Planner;" ∈ GW := gw_t2 (List.mem_of_getElem? (i := 92) rfl) rfl
theorem ly_X9_sharing : Cond.laysFinal RX9 "RoadShut" "sharing" "LRoadShut$Sharing;" ∈ GW := gw_t2 (List.mem_of_getElem? (i := 94) rfl) rfl
theorem ly_X9_dice : Cond.laysFinal RX9 "RoadShut" "dice" "LRoadShut$Dice;" ∈ GW := gw_t2 (List.mem_of_getElem? (i := 96) rfl) rfl
theorem ly_X9_drawn : Cond.laysFinal RX9 "RoadShut" "drawn" "[I" ∈ GW := gw_t2 (List.mem_of_getElem? (i := 98) rfl) rfl
theorem ly_X9_slots : Cond.laysFinal RX9 "RoadShut" "slots" "[LRoadShut$Row;" ∈ GW := gw_t2 (List.mem_of_getElem? (i := 100) rfl) rfl
theorem ly_X9_images : Cond.laysFinal RX9 "RoadShut" "images" "[LRoadShut$Image;" ∈ GW := gw_t2 (List.mem_of_getElem? (i := 102) rfl) rfl
theorem ly_X9_taped : Cond.lays RX9 "RoadShut" "taped" "I" ∈ GW := gw_t2 (List.mem_of_getElem? (i := 104) rfl) rfl
theorem ly_X9_land : Cond.lays RX9 "RoadShut" "land" "LRoadShut$Land;" ∈ GW := gw_t2 (List.mem_of_getElem? (i := 106) rfl) rfl
theorem ly_X9_year : Cond.lays RX9 "RoadShut" "year" "[I" ∈ GW := gw_t2 (List.mem_of_getElem? (i := 108) rfl) rfl
theorem ly_X9_faultKind : Cond.lays RX9 "RoadShut" "faultKind" "I" ∈ GW := gw_t2 (List.mem_of_getElem? (i := 110) rfl) rfl
theorem ly_X9_faultPlace : Cond.lays RX9 "RoadShut" "faultPlace" "I" ∈ GW := gw_t2 (List.mem_of_getElem? (i := 112) rfl) rfl
theorem ml_L_13 : Cond.methodLink RL 13 yX9_feed ∈ GW := gw_t2 (List.mem_of_getElem? (i := 115) rfl) rfl
theorem im_X9_feed : Cond.instanceMethod yX9_feed ∈ GW := gw_t2 (List.mem_of_getElem? (i := 116) rfl) rfl
theorem se_X9_feed : Cond.selects RX9 yX9_feed yX9_feed ∈ GW := gw_t2 (List.mem_of_getElem? (i := 117) rfl) rfl
theorem co_X9_feed : Cond.code yX9_feed cX9_feed 6 (some .int) ∈ GW := gw_t2 (List.mem_of_getElem? (i := 118) rfl) rfl
theorem ml_X9_78 : Cond.methodLink RX9 78 yX9_tapeFour ∈ GW := gw_t2 (List.mem_of_getElem? (i := 119) rfl) rfl
theorem im_X9_tapeFour : Cond.instanceMethod yX9_tapeFour ∈ GW := gw_t2 (List.mem_of_getElem? (i := 121) rfl) rfl
theorem co_X9_tapeFour : Cond.code yX9_tapeFour cX9_tapeFour 3 none ∈ GW := gw_t2 (List.mem_of_getElem? (i := 122) rfl) rfl
theorem ml_L_18 : Cond.methodLink RL 18 yX9_end ∈ GW := gw_t2 (List.mem_of_getElem? (i := 123) rfl) rfl
theorem im_X9_end : Cond.instanceMethod yX9_end ∈ GW := gw_t2 (List.mem_of_getElem? (i := 124) rfl) rfl
theorem se_X9_end : Cond.selects RX9 yX9_end yX9_end ∈ GW := gw_t2 (List.mem_of_getElem? (i := 125) rfl) rfl
theorem co_X9_end : Cond.code yX9_end cX9_end 2 (some .int) ∈ GW := gw_t2 (List.mem_of_getElem? (i := 126) rfl) rfl
theorem ml_L_23 : Cond.methodLink RL 23 yX9_land ∈ GW := gw_t2 (List.mem_of_getElem? (i := 127) rfl) rfl
theorem im_X9_land : Cond.instanceMethod yX9_land ∈ GW := gw_t2 (List.mem_of_getElem? (i := 128) rfl) rfl
theorem se_X9_land : Cond.selects RX9 yX9_land yX9_land ∈ GW := gw_t2 (List.mem_of_getElem? (i := 129) rfl) rfl
theorem co_X9_land : Cond.code yX9_land cX9_land 2 (some .int) ∈ GW := gw_t2 (List.mem_of_getElem? (i := 130) rfl) rfl
theorem ml_X9_82 : Cond.methodLink RX9 82 yX4_readLand ∈ GW := gw_t2 (List.mem_of_getElem? (i := 131) rfl) rfl
theorem im_X4_readLand : Cond.instanceMethod yX4_readLand ∈ GW := gw_t2 (List.mem_of_getElem? (i := 132) rfl) rfl
theorem se_X4_readLand : Cond.selects RX4 yX4_readLand yX4_readLand ∈ GW := gw_t2 (List.mem_of_getElem? (i := 133) rfl) rfl
theorem co_X4_readLand : Cond.code yX4_readLand cX4_readLand 5 (some (.object "RoadShut$Land")) ∈ GW := gw_t2 (List.mem_of_getElem? (i := 134) rfl) rfl
theorem ml_X4_26 : Cond.methodLink RX4 26 yX4_begin ∈ GW := gw_t2 (List.mem_of_getElem? (i := 135) rfl) rfl
theorem im_X4_begin : Cond.instanceMethod yX4_begin ∈ GW := gw_t2 (List.mem_of_getElem? (i := 137) rfl) rfl
theorem co_X4_begin : Cond.code yX4_begin cX4_begin 4 none ∈ GW := gw_t2 (List.mem_of_getElem? (i := 138) rfl) rfl
theorem ml_X4_86 : Cond.methodLink RX4 86 yJ9_min_7cf53 ∈ GW := gw_t2 (List.mem_of_getElem? (i := 139) rfl) rfl
theorem st_J9_min_7cf53 : Cond.static yJ9_min_7cf53 ∈ GW := gw_t2 (List.mem_of_getElem? (i := 140) rfl) rfl
theorem co_J9_min_7cf53 : Cond.code yJ9_min_7cf53 cJ9_min_7cf53 2 (some .int) ∈ GW := gw_t2 (List.mem_of_getElem? (i := 141) rfl) rfl
theorem ml_X4_105 : Cond.methodLink RX4 105 yX4_step ∈ GW := gw_t2 (List.mem_of_getElem? (i := 142) rfl) rfl
theorem im_X4_step : Cond.instanceMethod yX4_step ∈ GW := gw_t2 (List.mem_of_getElem? (i := 144) rfl) rfl
theorem co_X4_step : Cond.code yX4_step cX4_step 2 none ∈ GW := gw_t2 (List.mem_of_getElem? (i := 145) rfl) rfl
theorem ml_X4_226 : Cond.methodLink RX4 226 yX4_kindAt ∈ GW := gw_t2 (List.mem_of_getElem? (i := 146) rfl) rfl
theorem im_X4_kindAt : Cond.instanceMethod yX4_kindAt ∈ GW := gw_t2 (List.mem_of_getElem? (i := 148) rfl) rfl
theorem co_X4_kindAt : Cond.code yX4_kindAt cX4_kindAt 3 (some .int) ∈ GW := gw_t2 (List.mem_of_getElem? (i := 149) rfl) rfl
theorem ki_X4_229 : Cond.constant RX4 229 (99999) ∈ GW := gw_t2 (List.mem_of_getElem? (i := 150) rfl) rfl
theorem ml_X4_218 : Cond.methodLink RX4 218 yX4_signAt ∈ GW := gw_t2 (List.mem_of_getElem? (i := 151) rfl) rfl
theorem im_X4_signAt : Cond.instanceMethod yX4_signAt ∈ GW := gw_t2 (List.mem_of_getElem? (i := 153) rfl) rfl
theorem co_X4_signAt : Cond.code yX4_signAt cX4_signAt 2 (some .int) ∈ GW := gw_t2 (List.mem_of_getElem? (i := 154) rfl) rfl
theorem ml_X4_42 : Cond.methodLink RX4 42 yX4_readWinter ∈ GW := gw_t2 (List.mem_of_getElem? (i := 155) rfl) rfl
theorem im_X4_readWinter : Cond.instanceMethod yX4_readWinter ∈ GW := gw_t2 (List.mem_of_getElem? (i := 157) rfl) rfl
theorem co_X4_readWinter : Cond.code yX4_readWinter cX4_readWinter 1 none ∈ GW := gw_t2 (List.mem_of_getElem? (i := 158) rfl) rfl
theorem ml_X4_110 : Cond.methodLink RX4 110 yX4_takeWord ∈ GW := gw_t2 (List.mem_of_getElem? (i := 160) rfl) rfl
theorem im_X4_takeWord : Cond.instanceMethod yX4_takeWord ∈ GW := gw_t2 (List.mem_of_getElem? (i := 162) rfl) rfl
theorem co_X4_takeWord : Cond.code yX4_takeWord cX4_takeWord 2 none ∈ GW := gw_t2 (List.mem_of_getElem? (i := 163) rfl) rfl
theorem ml_X4_47 : Cond.methodLink RX4 47 yX4_isWord ∈ GW := gw_t2 (List.mem_of_getElem? (i := 164) rfl) rfl
theorem im_X4_isWord : Cond.instanceMethod yX4_isWord ∈ GW := gw_t2 (List.mem_of_getElem? (i := 166) rfl) rfl
theorem co_X4_isWord : Cond.code yX4_isWord cX4_isWord 3 (some .boolean) ∈ GW := gw_t2 (List.mem_of_getElem? (i := 167) rfl) rfl
theorem ml_X4_213 : Cond.methodLink RX4 213 yJ0_length_8abf5 ∈ GW := gw_t2 (List.mem_of_getElem? (i := 168) rfl) rfl
theorem im_J0_length_8abf5 : Cond.instanceMethod yJ0_length_8abf5 ∈ GW := gw_t2 (List.mem_of_getElem? (i := 169) rfl) rfl
theorem se_J0_length_8abf5 : Cond.selects RJ0 yJ0_length_8abf5 yJ0_length_8abf5 ∈ GW := gw_t2 (List.mem_of_getElem? (i := 170) rfl) rfl
theorem co_J0_length_8abf5 : Cond.code yJ0_length_8abf5 cJ0_length_8abf5 1 (some .int) ∈ GW := gw_t2 (List.mem_of_getElem? (i := 171) rfl) rfl
theorem ml_J0_335 : Cond.methodLink RJ0 335 yJ0_coder_7d493 ∈ GW := gw_t2 (List.mem_of_getElem? (i := 172) rfl) rfl
theorem im_J0_coder_7d493 : Cond.instanceMethod yJ0_coder_7d493 ∈ GW := gw_t2 (List.mem_of_getElem? (i := 173) rfl) rfl
theorem se_J0_coder_7d493 : Cond.selects RJ0 yJ0_coder_7d493 yJ0_coder_7d493 ∈ GW := gw_t2 (List.mem_of_getElem? (i := 174) rfl) rfl
theorem co_J0_coder_7d493 : Cond.code yJ0_coder_7d493 cJ0_coder_7d493 1 (some .byte) ∈ GW := gw_t2 (List.mem_of_getElem? (i := 175) rfl) rfl
theorem fl_J0_38 : Cond.fieldLink RJ0 38 "java/lang/String" "COMPACT_STRINGS" "Z" ∈ GW := gw_t2 (List.mem_of_getElem? (i := 176) rfl) rfl
theorem ml_X4_222 : Cond.methodLink RX4 222 yJ0_charAt_5068e ∈ GW := gw_t2 (List.mem_of_getElem? (i := 178) rfl) rfl
theorem im_J0_charAt_5068e : Cond.instanceMethod yJ0_charAt_5068e ∈ GW := gw_t2 (List.mem_of_getElem? (i := 179) rfl) rfl
theorem se_J0_charAt_5068e : Cond.selects RJ0 yJ0_charAt_5068e yJ0_charAt_5068e ∈ GW := gw_t2 (List.mem_of_getElem? (i := 180) rfl) rfl
theorem co_J0_charAt_5068e : Cond.code yJ0_charAt_5068e cJ0_charAt_5068e 2 (some .char) ∈ GW := gw_t2 (List.mem_of_getElem? (i := 181) rfl) rfl
theorem ml_J0_492 : Cond.methodLink RJ0 492 yJ0_isLatin1_aae02 ∈ GW := gw_t2 (List.mem_of_getElem? (i := 182) rfl) rfl
theorem im_J0_isLatin1_aae02 : Cond.instanceMethod yJ0_isLatin1_aae02 ∈ GW := gw_t2 (List.mem_of_getElem? (i := 183) rfl) rfl
theorem se_J0_isLatin1_aae02 : Cond.selects RJ0 yJ0_isLatin1_aae02 yJ0_isLatin1_aae02 ∈ GW := gw_t2 (List.mem_of_getElem? (i := 184) rfl) rfl
theorem co_J0_isLatin1_aae02 : Cond.code yJ0_isLatin1_aae02 cJ0_isLatin1_aae02 1 (some .boolean) ∈ GW := gw_t2 (List.mem_of_getElem? (i := 185) rfl) rfl
theorem ml_J0_495 : Cond.methodLink RJ0 495 yJ1_charAt_3b067 ∈ GW := gw_t2 (List.mem_of_getElem? (i := 186) rfl) rfl
theorem st_J1_charAt_3b067 : Cond.static yJ1_charAt_3b067 ∈ GW := gw_t2 (List.mem_of_getElem? (i := 187) rfl) rfl
theorem co_J1_charAt_3b067 : Cond.code yJ1_charAt_3b067 cJ1_charAt_3b067 2 (some .char) ∈ GW := gw_t2 (List.mem_of_getElem? (i := 188) rfl) rfl
theorem ml_J1_9 : Cond.methodLink RJ1 9 yJ0_checkIndex_df160 ∈ GW := gw_t2 (List.mem_of_getElem? (i := 189) rfl) rfl
theorem st_J0_checkIndex_df160 : Cond.static yJ0_checkIndex_df160 ∈ GW := gw_t2 (List.mem_of_getElem? (i := 190) rfl) rfl
theorem co_J0_checkIndex_df160 : Cond.code yJ0_checkIndex_df160 cJ0_checkIndex_df160 2 none ∈ GW := gw_t2 (List.mem_of_getElem? (i := 191) rfl) rfl
theorem fl_J0_1053 : Cond.fieldLink RJ0 1053 "jdk/internal/util/Preconditions" "SIOOBE_FORMATTER" "Ljava/util/function/BiFunction;" ∈ GW := gw_t2 (List.mem_of_getElem? (i := 192) rfl) rfl
theorem ml_J0_1059 : Cond.methodLink RJ0 1059 yJ3_checkIndex_8e157 ∈ GW := gw_t2 (List.mem_of_getElem? (i := 194) rfl) rfl
theorem st_J3_checkIndex_8e157 : Cond.static yJ3_checkIndex_8e157 ∈ GW := gw_t2 (List.mem_of_getElem? (i := 195) rfl) rfl
theorem co_J3_checkIndex_8e157 : Cond.code yJ3_checkIndex_8e157 cJ3_checkIndex_8e157 3 (some .int) ∈ GW := gw_t2 (List.mem_of_getElem? (i := 196) rfl) rfl
theorem ml_J0_498 : Cond.methodLink RJ0 498 yJ2_charAt_3b067 ∈ GW := gw_t2 (List.mem_of_getElem? (i := 197) rfl) rfl
theorem st_J2_charAt_3b067 : Cond.static yJ2_charAt_3b067 ∈ GW := gw_t2 (List.mem_of_getElem? (i := 198) rfl) rfl
theorem co_J2_charAt_3b067 : Cond.code yJ2_charAt_3b067 cJ2_charAt_3b067 2 (some .char) ∈ GW := gw_t2 (List.mem_of_getElem? (i := 199) rfl) rfl
theorem ml_J2_67 : Cond.methodLink RJ2 67 yJ2_checkIndex_2214a ∈ GW := gw_t2 (List.mem_of_getElem? (i := 200) rfl) rfl
theorem st_J2_checkIndex_2214a : Cond.static yJ2_checkIndex_2214a ∈ GW := gw_t2 (List.mem_of_getElem? (i := 201) rfl) rfl
theorem co_J2_checkIndex_2214a : Cond.code yJ2_checkIndex_2214a cJ2_checkIndex_2214a 2 none ∈ GW := gw_t2 (List.mem_of_getElem? (i := 202) rfl) rfl
theorem ml_J2_48 : Cond.methodLink RJ2 48 yJ2_length_9d52b ∈ GW := gw_t2 (List.mem_of_getElem? (i := 203) rfl) rfl
theorem st_J2_length_9d52b : Cond.static yJ2_length_9d52b ∈ GW := gw_t2 (List.mem_of_getElem? (i := 204) rfl) rfl
theorem co_J2_length_9d52b : Cond.code yJ2_length_9d52b cJ2_length_9d52b 1 (some .int) ∈ GW := gw_t2 (List.mem_of_getElem? (i := 205) rfl) rfl
theorem ml_J2_414 : Cond.methodLink RJ2 414 yJ0_checkIndex_df160 ∈ GW := gw_t2 (List.mem_of_getElem? (i := 206) rfl) rfl
theorem ml_J2_71 : Cond.methodLink RJ2 71 yJ2_getChar_3b067 ∈ GW := gw_t2 (List.mem_of_getElem? (i := 207) rfl) rfl
theorem st_J2_getChar_3b067 : Cond.static yJ2_getChar_3b067 ∈ GW := gw_t2 (List.mem_of_getElem? (i := 208) rfl) rfl
theorem co_J2_getChar_3b067 : Cond.code yJ2_getChar_3b067 cJ2_getChar_3b067 2 (some .char) ∈ GW := gw_t2 (List.mem_of_getElem? (i := 209) rfl) rfl
theorem fl_J2_44 : Cond.fieldLink RJ2 44 "java/lang/StringUTF16" "$assertionsDisabled" "Z" ∈ GW := gw_t2 (List.mem_of_getElem? (i := 210) rfl) rfl
theorem fl_J2_59 : Cond.fieldLink RJ2 59 "java/lang/StringUTF16" "HI_BYTE_SHIFT" "I" ∈ GW := gw_t2 (List.mem_of_getElem? (i := 212) rfl) rfl
theorem fl_J2_63 : Cond.fieldLink RJ2 63 "java/lang/StringUTF16" "LO_BYTE_SHIFT" "I" ∈ GW := gw_t2 (List.mem_of_getElem? (i := 214) rfl) rfl
theorem ml_X4_79 : Cond.methodLink RX4 79 yX4_refuse ∈ GW := gw_t2 (List.mem_of_getElem? (i := 216) rfl) rfl
theorem im_X4_refuse : Cond.instanceMethod yX4_refuse ∈ GW := gw_t2 (List.mem_of_getElem? (i := 218) rfl) rfl
theorem co_X4_refuse : Cond.code yX4_refuse cX4_refuse 2 none ∈ GW := gw_t2 (List.mem_of_getElem? (i := 219) rfl) rfl
theorem ml_X4_116 : Cond.methodLink RX4 116 yX4_takeNamed ∈ GW := gw_t2 (List.mem_of_getElem? (i := 221) rfl) rfl
theorem im_X4_takeNamed : Cond.instanceMethod yX4_takeNamed ∈ GW := gw_t2 (List.mem_of_getElem? (i := 223) rfl) rfl
theorem co_X4_takeNamed : Cond.code yX4_takeNamed cX4_takeNamed 4 (some .int) ∈ GW := gw_t2 (List.mem_of_getElem? (i := 224) rfl) rfl
theorem ml_X4_168 : Cond.methodLink RX4 168 yX4_takeNumber ∈ GW := gw_t2 (List.mem_of_getElem? (i := 225) rfl) rfl
theorem im_X4_takeNumber : Cond.instanceMethod yX4_takeNumber ∈ GW := gw_t2 (List.mem_of_getElem? (i := 227) rfl) rfl
theorem co_X4_takeNumber : Cond.code yX4_takeNumber cX4_takeNumber 4 (some .int) ∈ GW := gw_t2 (List.mem_of_getElem? (i := 228) rfl) rfl
theorem ml_X4_51 : Cond.methodLink RX4 51 yX4_readThing ∈ GW := gw_t2 (List.mem_of_getElem? (i := 233) rfl) rfl
theorem im_X4_readThing : Cond.instanceMethod yX4_readThing ∈ GW := gw_t2 (List.mem_of_getElem? (i := 235) rfl) rfl
theorem co_X4_readThing : Cond.code yX4_readThing cX4_readThing 2 none ∈ GW := gw_t2 (List.mem_of_getElem? (i := 236) rfl) rfl
theorem ml_X4_56 : Cond.methodLink RX4 56 yX4_readValley ∈ GW := gw_t3 (List.mem_of_getElem? (i := 1) rfl) rfl
theorem im_X4_readValley : Cond.instanceMethod yX4_readValley ∈ GW := gw_t3 (List.mem_of_getElem? (i := 3) rfl) rfl
theorem co_X4_readValley : Cond.code yX4_readValley cX4_readValley 3 none ∈ GW := gw_t3 (List.mem_of_getElem? (i := 4) rfl) rfl
theorem ml_X4_61 : Cond.methodLink RX4 61 yX4_readLorry ∈ GW := gw_t3 (List.mem_of_getElem? (i := 9) rfl) rfl
theorem im_X4_readLorry : Cond.instanceMethod yX4_readLorry ∈ GW := gw_t3 (List.mem_of_getElem? (i := 11) rfl) rfl
theorem co_X4_readLorry : Cond.code yX4_readLorry cX4_readLorry 1 none ∈ GW := gw_t3 (List.mem_of_getElem? (i := 12) rfl) rfl
theorem ml_X4_66 : Cond.methodLink RX4 66 yX4_readPlane ∈ GW := gw_t3 (List.mem_of_getElem? (i := 17) rfl) rfl
theorem im_X4_readPlane : Cond.instanceMethod yX4_readPlane ∈ GW := gw_t3 (List.mem_of_getElem? (i := 19) rfl) rfl
theorem co_X4_readPlane : Cond.code yX4_readPlane cX4_readPlane 1 none ∈ GW := gw_t3 (List.mem_of_getElem? (i := 20) rfl) rfl
theorem ml_X4_71 : Cond.methodLink RX4 71 yX4_readMule ∈ GW := gw_t3 (List.mem_of_getElem? (i := 22) rfl) rfl
theorem im_X4_readMule : Cond.instanceMethod yX4_readMule ∈ GW := gw_t3 (List.mem_of_getElem? (i := 24) rfl) rfl
theorem co_X4_readMule : Cond.code yX4_readMule cX4_readMule 1 none ∈ GW := gw_t3 (List.mem_of_getElem? (i := 25) rfl) rfl
theorem ml_X4_76 : Cond.methodLink RX4 76 yX4_readPath ∈ GW := gw_t3 (List.mem_of_getElem? (i := 27) rfl) rfl
theorem im_X4_readPath : Cond.instanceMethod yX4_readPath ∈ GW := gw_t3 (List.mem_of_getElem? (i := 29) rfl) rfl
theorem co_X4_readPath : Cond.code yX4_readPath cX4_readPath 4 none ∈ GW := gw_t3 (List.mem_of_getElem? (i := 30) rfl) rfl
theorem ml_X4_200 : Cond.methodLink RX4 200 yX2_pathBetween ∈ GW := gw_t3 (List.mem_of_getElem? (i := 31) rfl) rfl
theorem im_X2_pathBetween : Cond.instanceMethod yX2_pathBetween ∈ GW := gw_t3 (List.mem_of_getElem? (i := 32) rfl) rfl
theorem se_X2_pathBetween : Cond.selects RX2 yX2_pathBetween yX2_pathBetween ∈ GW := gw_t3 (List.mem_of_getElem? (i := 33) rfl) rfl
theorem co_X2_pathBetween : Cond.code yX2_pathBetween cX2_pathBetween 3 (some .int) ∈ GW := gw_t3 (List.mem_of_getElem? (i := 34) rfl) rfl
theorem ml_X2_69 : Cond.methodLink RX2 69 yX2_hasTwo ∈ GW := gw_t3 (List.mem_of_getElem? (i := 35) rfl) rfl
theorem im_X2_hasTwo : Cond.instanceMethod yX2_hasTwo ∈ GW := gw_t3 (List.mem_of_getElem? (i := 36) rfl) rfl
theorem se_X2_hasTwo : Cond.selects RX2 yX2_hasTwo yX2_hasTwo ∈ GW := gw_t3 (List.mem_of_getElem? (i := 37) rfl) rfl
theorem co_X2_hasTwo : Cond.code yX2_hasTwo cX2_hasTwo 3 (some .boolean) ∈ GW := gw_t3 (List.mem_of_getElem? (i := 38) rfl) rfl
theorem ml_X2_43 : Cond.methodLink RX2 43 yX2_hasValley ∈ GW := gw_t3 (List.mem_of_getElem? (i := 39) rfl) rfl
theorem im_X2_hasValley : Cond.instanceMethod yX2_hasValley ∈ GW := gw_t3 (List.mem_of_getElem? (i := 40) rfl) rfl
theorem se_X2_hasValley : Cond.selects RX2 yX2_hasValley yX2_hasValley ∈ GW := gw_t3 (List.mem_of_getElem? (i := 41) rfl) rfl
theorem co_X2_hasValley : Cond.code yX2_hasValley cX2_hasValley 2 (some .boolean) ∈ GW := gw_t3 (List.mem_of_getElem? (i := 42) rfl) rfl
theorem ml_X4_203 : Cond.methodLink RX4 203 yX2_hasTwo ∈ GW := gw_t3 (List.mem_of_getElem? (i := 43) rfl) rfl
theorem ml_X4_83 : Cond.methodLink RX4 83 yX4_takeStop ∈ GW := gw_t3 (List.mem_of_getElem? (i := 44) rfl) rfl
theorem im_X4_takeStop : Cond.instanceMethod yX4_takeStop ∈ GW := gw_t3 (List.mem_of_getElem? (i := 46) rfl) rfl
theorem co_X4_takeStop : Cond.code yX4_takeStop cX4_takeStop 1 none ∈ GW := gw_t3 (List.mem_of_getElem? (i := 47) rfl) rfl
theorem ml_L_28 : Cond.methodLink RL 28 yX9_fault ∈ GW := gw_t3 (List.mem_of_getElem? (i := 48) rfl) rfl
theorem im_X9_fault : Cond.instanceMethod yX9_fault ∈ GW := gw_t3 (List.mem_of_getElem? (i := 49) rfl) rfl
theorem se_X9_fault : Cond.selects RX9 yX9_fault yX9_fault ∈ GW := gw_t3 (List.mem_of_getElem? (i := 50) rfl) rfl
theorem co_X9_fault : Cond.code yX9_fault cX9_fault 2 (some .int) ∈ GW := gw_t3 (List.mem_of_getElem? (i := 51) rfl) rfl
theorem ml_L_32 : Cond.methodLink RL 32 yX9_shuts ∈ GW := gw_t3 (List.mem_of_getElem? (i := 52) rfl) rfl
theorem im_X9_shuts : Cond.instanceMethod yX9_shuts ∈ GW := gw_t3 (List.mem_of_getElem? (i := 53) rfl) rfl
theorem se_X9_shuts : Cond.selects RX9 yX9_shuts yX9_shuts ∈ GW := gw_t3 (List.mem_of_getElem? (i := 54) rfl) rfl
theorem co_X9_shuts : Cond.code yX9_shuts cX9_shuts 3 (some .long) ∈ GW := gw_t3 (List.mem_of_getElem? (i := 55) rfl) rfl
theorem ml_X9_99 : Cond.methodLink RX9 99 yX2_hasValley ∈ GW := gw_t3 (List.mem_of_getElem? (i := 56) rfl) rfl
theorem ml_X9_103 : Cond.methodLink RX9 103 yX2_hasDayOrNever ∈ GW := gw_t3 (List.mem_of_getElem? (i := 57) rfl) rfl
theorem im_X2_hasDayOrNever : Cond.instanceMethod yX2_hasDayOrNever ∈ GW := gw_t3 (List.mem_of_getElem? (i := 58) rfl) rfl
theorem se_X2_hasDayOrNever : Cond.selects RX2 yX2_hasDayOrNever yX2_hasDayOrNever ∈ GW := gw_t3 (List.mem_of_getElem? (i := 59) rfl) rfl
theorem co_X2_hasDayOrNever : Cond.code yX2_hasDayOrNever cX2_hasDayOrNever 2 (some .boolean) ∈ GW := gw_t3 (List.mem_of_getElem? (i := 60) rfl) rfl
theorem kl_X9_106 : Cond.constantLong RX9 106 (-2) ∈ GW := gw_t3 (List.mem_of_getElem? (i := 61) rfl) rfl
theorem ml_X9_112 : Cond.methodLink RX9 112 yX5_followOne ∈ GW := gw_t3 (List.mem_of_getElem? (i := 62) rfl) rfl
theorem im_X5_followOne : Cond.instanceMethod yX5_followOne ∈ GW := gw_t3 (List.mem_of_getElem? (i := 63) rfl) rfl
theorem se_X5_followOne : Cond.selects RX5 yX5_followOne yX5_followOne ∈ GW := gw_t3 (List.mem_of_getElem? (i := 64) rfl) rfl
theorem co_X5_followOne : Cond.code yX5_followOne cX5_followOne 10 none ∈ GW := gw_t3 (List.mem_of_getElem? (i := 65) rfl) rfl
theorem ml_X5_33 : Cond.methodLink RX5 33 yJ7_fill_d0a16 ∈ GW := gw_t3 (List.mem_of_getElem? (i := 66) rfl) rfl
theorem st_J7_fill_d0a16 : Cond.static yJ7_fill_d0a16 ∈ GW := gw_t3 (List.mem_of_getElem? (i := 67) rfl) rfl
theorem co_J7_fill_d0a16 : Cond.code yJ7_fill_d0a16 cJ7_fill_d0a16 5 none ∈ GW := gw_t3 (List.mem_of_getElem? (i := 68) rfl) rfl
theorem ml_X5_39 : Cond.methodLink RX5 39 yX2_hasValley ∈ GW := gw_t3 (List.mem_of_getElem? (i := 69) rfl) rfl
theorem kl_X5_45 : Cond.constantLong RX5 45 (1000000000000) ∈ GW := gw_t3 (List.mem_of_getElem? (i := 70) rfl) rfl
theorem ml_X5_51 : Cond.methodLink RX5 51 yX5_snowing ∈ GW := gw_t3 (List.mem_of_getElem? (i := 71) rfl) rfl
theorem st_X5_snowing : Cond.static yX5_snowing ∈ GW := gw_t3 (List.mem_of_getElem? (i := 72) rfl) rfl
theorem co_X5_snowing : Cond.code yX5_snowing cX5_snowing 6 (some .long) ∈ GW := gw_t3 (List.mem_of_getElem? (i := 73) rfl) rfl
theorem ml_X5_92 : Cond.methodLink RX5 92 yX2_chance ∈ GW := gw_t3 (List.mem_of_getElem? (i := 74) rfl) rfl
theorem im_X2_chance : Cond.instanceMethod yX2_chance ∈ GW := gw_t3 (List.mem_of_getElem? (i := 75) rfl) rfl
theorem se_X2_chance : Cond.selects RX2 yX2_chance yX2_chance ∈ GW := gw_t3 (List.mem_of_getElem? (i := 76) rfl) rfl
theorem co_X2_chance : Cond.code yX2_chance cX2_chance 3 (some .int) ∈ GW := gw_t3 (List.mem_of_getElem? (i := 77) rfl) rfl
theorem ml_X5_59 : Cond.methodLink RX5 59 yX5_hundredths ∈ GW := gw_t3 (List.mem_of_getElem? (i := 78) rfl) rfl
theorem st_X5_hundredths : Cond.static yX5_hundredths ∈ GW := gw_t3 (List.mem_of_getElem? (i := 79) rfl) rfl
theorem co_X5_hundredths : Cond.code yX5_hundredths cX5_hundredths 3 (some .long) ∈ GW := gw_t3 (List.mem_of_getElem? (i := 80) rfl) rfl
theorem kl_X5_96 : Cond.constantLong RX5 96 (100) ∈ GW := gw_t3 (List.mem_of_getElem? (i := 81) rfl) rfl
theorem ml_X9_118 : Cond.methodLink RX9 118 yX5_partsOn ∈ GW := gw_t3 (List.mem_of_getElem? (i := 82) rfl) rfl
theorem im_X5_partsOn : Cond.instanceMethod yX5_partsOn ∈ GW := gw_t3 (List.mem_of_getElem? (i := 83) rfl) rfl
theorem se_X5_partsOn : Cond.selects RX5 yX5_partsOn yX5_partsOn ∈ GW := gw_t3 (List.mem_of_getElem? (i := 84) rfl) rfl
theorem co_X5_partsOn : Cond.code yX5_partsOn cX5_partsOn 2 (some .long) ∈ GW := gw_t3 (List.mem_of_getElem? (i := 85) rfl) rfl
theorem ml_L_37 : Cond.methodLink RL 37 yX9_by ∈ GW := gw_t3 (List.mem_of_getElem? (i := 86) rfl) rfl
theorem im_X9_by : Cond.instanceMethod yX9_by ∈ GW := gw_t3 (List.mem_of_getElem? (i := 87) rfl) rfl
theorem se_X9_by : Cond.selects RX9 yX9_by yX9_by ∈ GW := gw_t3 (List.mem_of_getElem? (i := 88) rfl) rfl
theorem co_X9_by : Cond.code yX9_by cX9_by 6 (some .long) ∈ GW := gw_t3 (List.mem_of_getElem? (i := 89) rfl) rfl
theorem ml_X9_122 : Cond.methodLink RX9 122 yX2_hasDay ∈ GW := gw_t3 (List.mem_of_getElem? (i := 90) rfl) rfl
theorem im_X2_hasDay : Cond.instanceMethod yX2_hasDay ∈ GW := gw_t3 (List.mem_of_getElem? (i := 91) rfl) rfl
theorem se_X2_hasDay : Cond.selects RX2 yX2_hasDay yX2_hasDay ∈ GW := gw_t3 (List.mem_of_getElem? (i := 92) rfl) rfl
theorem co_X2_hasDay : Cond.code yX2_hasDay cX2_hasDay 2 (some .boolean) ∈ GW := gw_t3 (List.mem_of_getElem? (i := 93) rfl) rfl
theorem ml_L_41 : Cond.methodLink RL 41 yX9_both ∈ GW := gw_t3 (List.mem_of_getElem? (i := 94) rfl) rfl
theorem im_X9_both : Cond.instanceMethod yX9_both ∈ GW := gw_t3 (List.mem_of_getElem? (i := 95) rfl) rfl
theorem se_X9_both : Cond.selects RX9 yX9_both yX9_both ∈ GW := gw_t3 (List.mem_of_getElem? (i := 96) rfl) rfl
theorem co_X9_both : Cond.code yX9_both cX9_both 5 (some .long) ∈ GW := gw_t3 (List.mem_of_getElem? (i := 97) rfl) rfl
theorem ml_X9_125 : Cond.methodLink RX9 125 yX2_hasTwo ∈ GW := gw_t3 (List.mem_of_getElem? (i := 98) rfl) rfl
theorem ml_X9_129 : Cond.methodLink RX9 129 yX5_followTwo ∈ GW := gw_t3 (List.mem_of_getElem? (i := 99) rfl) rfl
theorem im_X5_followTwo : Cond.instanceMethod yX5_followTwo ∈ GW := gw_t3 (List.mem_of_getElem? (i := 100) rfl) rfl
theorem se_X5_followTwo : Cond.selects RX5 yX5_followTwo yX5_followTwo ∈ GW := gw_t3 (List.mem_of_getElem? (i := 101) rfl) rfl
theorem co_X5_followTwo : Cond.code yX5_followTwo cX5_followTwo 8 none ∈ GW := gw_t3 (List.mem_of_getElem? (i := 102) rfl) rfl
theorem ml_X5_63 : Cond.methodLink RX5 63 yX2_hasTwo ∈ GW := gw_t3 (List.mem_of_getElem? (i := 103) rfl) rfl
theorem ml_X5_67 : Cond.methodLink RX5 67 yX5_shutSecond ∈ GW := gw_t3 (List.mem_of_getElem? (i := 104) rfl) rfl
theorem im_X5_shutSecond : Cond.instanceMethod yX5_shutSecond ∈ GW := gw_t3 (List.mem_of_getElem? (i := 106) rfl) rfl
theorem co_X5_shutSecond : Cond.code yX5_shutSecond cX5_shutSecond 9 (some .long) ∈ GW := gw_t3 (List.mem_of_getElem? (i := 107) rfl) rfl
theorem ml_X5_75 : Cond.methodLink RX5 75 yX5_skyOfTwo ∈ GW := gw_t3 (List.mem_of_getElem? (i := 108) rfl) rfl
theorem im_X5_skyOfTwo : Cond.instanceMethod yX5_skyOfTwo ∈ GW := gw_t3 (List.mem_of_getElem? (i := 110) rfl) rfl
theorem co_X5_skyOfTwo : Cond.code yX5_skyOfTwo cX5_skyOfTwo 6 (some .long) ∈ GW := gw_t3 (List.mem_of_getElem? (i := 111) rfl) rfl
theorem ml_X5_71 : Cond.methodLink RX5 71 yX5_splitBothOpen ∈ GW := gw_t3 (List.mem_of_getElem? (i := 112) rfl) rfl
theorem im_X5_splitBothOpen : Cond.instanceMethod yX5_splitBothOpen ∈ GW := gw_t3 (List.mem_of_getElem? (i := 114) rfl) rfl
theorem co_X5_splitBothOpen : Cond.code yX5_splitBothOpen cX5_splitBothOpen 15 none ∈ GW := gw_t3 (List.mem_of_getElem? (i := 115) rfl) rfl
theorem ml_X9_133 : Cond.methodLink RX9 133 yX5_partsOnTwo ∈ GW := gw_t3 (List.mem_of_getElem? (i := 116) rfl) rfl
theorem im_X5_partsOnTwo : Cond.instanceMethod yX5_partsOnTwo ∈ GW := gw_t3 (List.mem_of_getElem? (i := 117) rfl) rfl
theorem se_X5_partsOnTwo : Cond.selects RX5 yX5_partsOnTwo yX5_partsOnTwo ∈ GW := gw_t3 (List.mem_of_getElem? (i := 118) rfl) rfl
theorem co_X5_partsOnTwo : Cond.code yX5_partsOnTwo cX5_partsOnTwo 4 (some .long) ∈ GW := gw_t3 (List.mem_of_getElem? (i := 119) rfl) rfl
theorem ml_L_46 : Cond.methodLink RL 46 yX9_together ∈ GW := gw_t3 (List.mem_of_getElem? (i := 120) rfl) rfl
theorem im_X9_together : Cond.instanceMethod yX9_together ∈ GW := gw_t3 (List.mem_of_getElem? (i := 121) rfl) rfl
theorem se_X9_together : Cond.selects RX9 yX9_together yX9_together ∈ GW := gw_t3 (List.mem_of_getElem? (i := 122) rfl) rfl
theorem co_X9_together : Cond.code yX9_together cX9_together 6 (some .long) ∈ GW := gw_t3 (List.mem_of_getElem? (i := 123) rfl) rfl
theorem ml_X9_140 : Cond.methodLink RX9 140 yX5_followAll ∈ GW := gw_t3 (List.mem_of_getElem? (i := 124) rfl) rfl
theorem im_X5_followAll : Cond.instanceMethod yX5_followAll ∈ GW := gw_t3 (List.mem_of_getElem? (i := 125) rfl) rfl
theorem se_X5_followAll : Cond.selects RX5 yX5_followAll yX5_followAll ∈ GW := gw_t3 (List.mem_of_getElem? (i := 126) rfl) rfl
theorem co_X5_followAll : Cond.code yX5_followAll cX5_followAll 7 none ∈ GW := gw_t3 (List.mem_of_getElem? (i := 127) rfl) rfl
theorem ml_X5_82 : Cond.methodLink RX5 82 yX5_splitFrom ∈ GW := gw_t3 (List.mem_of_getElem? (i := 128) rfl) rfl
theorem im_X5_splitFrom : Cond.instanceMethod yX5_splitFrom ∈ GW := gw_t3 (List.mem_of_getElem? (i := 130) rfl) rfl
theorem co_X5_splitFrom : Cond.code yX5_splitFrom cX5_splitFrom 9 none ∈ GW := gw_t3 (List.mem_of_getElem? (i := 131) rfl) rfl
theorem ml_X5_86 : Cond.methodLink RX5 86 ⟨"java/lang/System", "arraycopy", "(Ljava/lang/Object;ILjava/lang/Object;II)V"⟩ ∈ GW := gw_t3 (List.mem_of_getElem? (i := 132) rfl) rfl
theorem ml_X9_143 : Cond.methodLink RX9 143 yJ6_bitCount_0f7a4 ∈ GW := gw_t3 (List.mem_of_getElem? (i := 135) rfl) rfl
theorem st_J6_bitCount_0f7a4 : Cond.static yJ6_bitCount_0f7a4 ∈ GW := gw_t3 (List.mem_of_getElem? (i := 136) rfl) rfl
theorem co_J6_bitCount_0f7a4 : Cond.code yJ6_bitCount_0f7a4 cJ6_bitCount_0f7a4 1 (some .int) ∈ GW := gw_t3 (List.mem_of_getElem? (i := 137) rfl) rfl
theorem ki_J6_265 : Cond.constant RJ6 265 (1431655765) ∈ GW := gw_t3 (List.mem_of_getElem? (i := 138) rfl) rfl
theorem ki_J6_266 : Cond.constant RJ6 266 (858993459) ∈ GW := gw_t3 (List.mem_of_getElem? (i := 139) rfl) rfl
theorem ki_J6_267 : Cond.constant RJ6 267 (252645135) ∈ GW := gw_t3 (List.mem_of_getElem? (i := 140) rfl) rfl
theorem ml_X9_149 : Cond.methodLink RX9 149 yX5_partsOfWay ∈ GW := gw_t3 (List.mem_of_getElem? (i := 141) rfl) rfl
theorem im_X5_partsOfWay : Cond.instanceMethod yX5_partsOfWay ∈ GW := gw_t3 (List.mem_of_getElem? (i := 142) rfl) rfl
theorem se_X5_partsOfWay : Cond.selects RX5 yX5_partsOfWay yX5_partsOfWay ∈ GW := gw_t3 (List.mem_of_getElem? (i := 143) rfl) rfl
theorem co_X5_partsOfWay : Cond.code yX5_partsOfWay cX5_partsOfWay 2 (some .long) ∈ GW := gw_t3 (List.mem_of_getElem? (i := 144) rfl) rfl
theorem ml_L_50 : Cond.methodLink RL 50 yX9_set ∈ GW := gw_t3 (List.mem_of_getElem? (i := 145) rfl) rfl
theorem im_X9_set : Cond.instanceMethod yX9_set ∈ GW := gw_t3 (List.mem_of_getElem? (i := 146) rfl) rfl
theorem se_X9_set : Cond.selects RX9 yX9_set yX9_set ∈ GW := gw_t3 (List.mem_of_getElem? (i := 147) rfl) rfl
theorem co_X9_set : Cond.code yX9_set cX9_set 3 (some .long) ∈ GW := gw_t3 (List.mem_of_getElem? (i := 148) rfl) rfl
theorem ml_X9_152 : Cond.methodLink RX9 152 yX2_hasBits ∈ GW := gw_t3 (List.mem_of_getElem? (i := 149) rfl) rfl
theorem im_X2_hasBits : Cond.instanceMethod yX2_hasBits ∈ GW := gw_t3 (List.mem_of_getElem? (i := 150) rfl) rfl
theorem se_X2_hasBits : Cond.selects RX2 yX2_hasBits yX2_hasBits ∈ GW := gw_t3 (List.mem_of_getElem? (i := 151) rfl) rfl
theorem co_X2_hasBits : Cond.code yX2_hasBits cX2_hasBits 2 (some .boolean) ∈ GW := gw_t3 (List.mem_of_getElem? (i := 152) rfl) rfl
theorem ml_L_54 : Cond.methodLink RL 54 yX9_when ∈ GW := gw_t3 (List.mem_of_getElem? (i := 153) rfl) rfl
theorem im_X9_when : Cond.instanceMethod yX9_when ∈ GW := gw_t3 (List.mem_of_getElem? (i := 154) rfl) rfl
theorem se_X9_when : Cond.selects RX9 yX9_when yX9_when ∈ GW := gw_t3 (List.mem_of_getElem? (i := 155) rfl) rfl
theorem co_X9_when : Cond.code yX9_when cX9_when 6 (some .int) ∈ GW := gw_t3 (List.mem_of_getElem? (i := 156) rfl) rfl
theorem kl_X9_158 : Cond.constantLong RX9 158 (1000000000) ∈ GW := gw_t3 (List.mem_of_getElem? (i := 157) rfl) rfl
theorem ml_L_59 : Cond.methodLink RL 59 yX9_wants ∈ GW := gw_t3 (List.mem_of_getElem? (i := 158) rfl) rfl
theorem im_X9_wants : Cond.instanceMethod yX9_wants ∈ GW := gw_t3 (List.mem_of_getElem? (i := 159) rfl) rfl
theorem se_X9_wants : Cond.selects RX9 yX9_wants yX9_wants ∈ GW := gw_t3 (List.mem_of_getElem? (i := 160) rfl) rfl
theorem co_X9_wants : Cond.code yX9_wants cX9_wants 4 (some .int) ∈ GW := gw_t3 (List.mem_of_getElem? (i := 161) rfl) rfl
theorem ml_X9_160 : Cond.methodLink RX9 160 yX2_hasStore ∈ GW := gw_t3 (List.mem_of_getElem? (i := 162) rfl) rfl
theorem im_X2_hasStore : Cond.instanceMethod yX2_hasStore ∈ GW := gw_t3 (List.mem_of_getElem? (i := 163) rfl) rfl
theorem se_X2_hasStore : Cond.selects RX2 yX2_hasStore yX2_hasStore ∈ GW := gw_t3 (List.mem_of_getElem? (i := 164) rfl) rfl
theorem co_X2_hasStore : Cond.code yX2_hasStore cX2_hasStore 3 (some .boolean) ∈ GW := gw_t3 (List.mem_of_getElem? (i := 165) rfl) rfl
theorem ml_X2_50 : Cond.methodLink RX2 50 yX2_hasThing ∈ GW := gw_t3 (List.mem_of_getElem? (i := 166) rfl) rfl
theorem im_X2_hasThing : Cond.instanceMethod yX2_hasThing ∈ GW := gw_t3 (List.mem_of_getElem? (i := 167) rfl) rfl
theorem se_X2_hasThing : Cond.selects RX2 yX2_hasThing yX2_hasThing ∈ GW := gw_t3 (List.mem_of_getElem? (i := 168) rfl) rfl
theorem co_X2_hasThing : Cond.code yX2_hasThing cX2_hasThing 2 (some .boolean) ∈ GW := gw_t3 (List.mem_of_getElem? (i := 169) rfl) rfl
theorem ml_X9_163 : Cond.methodLink RX9 163 yX2_wanted ∈ GW := gw_t3 (List.mem_of_getElem? (i := 170) rfl) rfl
theorem im_X2_wanted : Cond.instanceMethod yX2_wanted ∈ GW := gw_t3 (List.mem_of_getElem? (i := 171) rfl) rfl
theorem se_X2_wanted : Cond.selects RX2 yX2_wanted yX2_wanted ∈ GW := gw_t3 (List.mem_of_getElem? (i := 172) rfl) rfl
theorem co_X2_wanted : Cond.code yX2_wanted cX2_wanted 4 (some .int) ∈ GW := gw_t3 (List.mem_of_getElem? (i := 173) rfl) rfl
theorem ml_X2_65 : Cond.methodLink RX2 65 yX2_eaten ∈ GW := gw_t3 (List.mem_of_getElem? (i := 174) rfl) rfl
theorem im_X2_eaten : Cond.instanceMethod yX2_eaten ∈ GW := gw_t3 (List.mem_of_getElem? (i := 175) rfl) rfl
theorem se_X2_eaten : Cond.selects RX2 yX2_eaten yX2_eaten ∈ GW := gw_t3 (List.mem_of_getElem? (i := 176) rfl) rfl
theorem co_X2_eaten : Cond.code yX2_eaten cX2_eaten 4 (some .int) ∈ GW := gw_t3 (List.mem_of_getElem? (i := 177) rfl) rfl
theorem ml_L_64 : Cond.methodLink RL 64 yX9_cost ∈ GW := gw_t3 (List.mem_of_getElem? (i := 178) rfl) rfl
theorem im_X9_cost : Cond.instanceMethod yX9_cost ∈ GW := gw_t3 (List.mem_of_getElem? (i := 179) rfl) rfl
theorem se_X9_cost : Cond.selects RX9 yX9_cost yX9_cost ∈ GW := gw_t3 (List.mem_of_getElem? (i := 180) rfl) rfl
theorem co_X9_cost : Cond.code yX9_cost cX9_cost 4 (some .long) ∈ GW := gw_t3 (List.mem_of_getElem? (i := 181) rfl) rfl
theorem ml_X9_167 : Cond.methodLink RX9 167 yX9_isSacks ∈ GW := gw_t3 (List.mem_of_getElem? (i := 182) rfl) rfl
theorem st_X9_isSacks : Cond.static yX9_isSacks ∈ GW := gw_t3 (List.mem_of_getElem? (i := 183) rfl) rfl
theorem co_X9_isSacks : Cond.code yX9_isSacks cX9_isSacks 1 (some .boolean) ∈ GW := gw_t3 (List.mem_of_getElem? (i := 184) rfl) rfl
theorem ml_X9_170 : Cond.methodLink RX9 170 yX8_layAlone ∈ GW := gw_t3 (List.mem_of_getElem? (i := 185) rfl) rfl
theorem im_X8_layAlone : Cond.instanceMethod yX8_layAlone ∈ GW := gw_t3 (List.mem_of_getElem? (i := 186) rfl) rfl
theorem se_X8_layAlone : Cond.selects RX8 yX8_layAlone yX8_layAlone ∈ GW := gw_t3 (List.mem_of_getElem? (i := 187) rfl) rfl
theorem co_X8_layAlone : Cond.code yX8_layAlone cX8_layAlone 4 none ∈ GW := gw_t3 (List.mem_of_getElem? (i := 188) rfl) rfl
theorem ml_X8_43 : Cond.methodLink RX8 43 yX8_gatherAlone ∈ GW := gw_t3 (List.mem_of_getElem? (i := 189) rfl) rfl
theorem im_X8_gatherAlone : Cond.instanceMethod yX8_gatherAlone ∈ GW := gw_t3 (List.mem_of_getElem? (i := 190) rfl) rfl
theorem se_X8_gatherAlone : Cond.selects RX8 yX8_gatherAlone yX8_gatherAlone ∈ GW := gw_t3 (List.mem_of_getElem? (i := 191) rfl) rfl
theorem co_X8_gatherAlone : Cond.code yX8_gatherAlone cX8_gatherAlone 5 none ∈ GW := gw_t3 (List.mem_of_getElem? (i := 192) rfl) rfl
theorem ml_X8_85 : Cond.methodLink RX8 85 yX5_followOne ∈ GW := gw_t3 (List.mem_of_getElem? (i := 193) rfl) rfl
theorem ml_X8_54 : Cond.methodLink RX8 54 yX8_forget ∈ GW := gw_t3 (List.mem_of_getElem? (i := 194) rfl) rfl
theorem im_X8_forget : Cond.instanceMethod yX8_forget ∈ GW := gw_t3 (List.mem_of_getElem? (i := 196) rfl) rfl
theorem co_X8_forget : Cond.code yX8_forget cX8_forget 1 none ∈ GW := gw_t3 (List.mem_of_getElem? (i := 197) rfl) rfl
theorem ml_X8_92 : Cond.methodLink RX8 92 yJ7_fill_d0a16 ∈ GW := gw_t3 (List.mem_of_getElem? (i := 198) rfl) rfl
theorem ml_X8_63 : Cond.methodLink RX8 63 yX2_wanted ∈ GW := gw_t3 (List.mem_of_getElem? (i := 199) rfl) rfl
theorem ml_X8_89 : Cond.methodLink RX8 89 yX5_partsOn ∈ GW := gw_t3 (List.mem_of_getElem? (i := 200) rfl) rfl
theorem ml_X8_70 : Cond.methodLink RX8 70 yX8_gather ∈ GW := gw_t3 (List.mem_of_getElem? (i := 201) rfl) rfl
theorem im_X8_gather : Cond.instanceMethod yX8_gather ∈ GW := gw_t3 (List.mem_of_getElem? (i := 203) rfl) rfl
theorem co_X8_gather : Cond.code yX8_gather cX8_gather 4 none ∈ GW := gw_t3 (List.mem_of_getElem? (i := 204) rfl) rfl
theorem ml_X8_101 : Cond.methodLink RX8 101 yJ9_max_7cf53 ∈ GW := gw_t3 (List.mem_of_getElem? (i := 205) rfl) rfl
theorem st_J9_max_7cf53 : Cond.static yJ9_max_7cf53 ∈ GW := gw_t3 (List.mem_of_getElem? (i := 206) rfl) rfl
theorem co_J9_max_7cf53 : Cond.code yJ9_max_7cf53 cJ9_max_7cf53 2 (some .int) ∈ GW := gw_t3 (List.mem_of_getElem? (i := 207) rfl) rfl
theorem ml_X8_47 : Cond.methodLink RX8 47 yX8_sumUp ∈ GW := gw_t3 (List.mem_of_getElem? (i := 208) rfl) rfl
theorem im_X8_sumUp : Cond.instanceMethod yX8_sumUp ∈ GW := gw_t3 (List.mem_of_getElem? (i := 210) rfl) rfl
theorem co_X8_sumUp : Cond.code yX8_sumUp cX8_sumUp 10 none ∈ GW := gw_t3 (List.mem_of_getElem? (i := 211) rfl) rfl
theorem ml_X8_106 : Cond.methodLink RX8 106 yX2_hasThing ∈ GW := gw_t3 (List.mem_of_getElem? (i := 212) rfl) rfl
theorem ml_X8_110 : Cond.methodLink RX8 110 yX8_lossWhole ∈ GW := gw_t3 (List.mem_of_getElem? (i := 213) rfl) rfl
theorem im_X8_lossWhole : Cond.instanceMethod yX8_lossWhole ∈ GW := gw_t3 (List.mem_of_getElem? (i := 214) rfl) rfl
theorem se_X8_lossWhole : Cond.selects RX8 yX8_lossWhole yX8_lossWhole ∈ GW := gw_t3 (List.mem_of_getElem? (i := 215) rfl) rfl
theorem co_X8_lossWhole : Cond.code yX8_lossWhole cX8_lossWhole 8 (some .long) ∈ GW := gw_t3 (List.mem_of_getElem? (i := 216) rfl) rfl
theorem ml_X8_125 : Cond.methodLink RX8 125 yJ9_min_7cf53 ∈ GW := gw_t3 (List.mem_of_getElem? (i := 217) rfl) rfl
theorem ml_X8_39 : Cond.methodLink RX8 39 yX8_partsWanting ∈ GW := gw_t3 (List.mem_of_getElem? (i := 218) rfl) rfl
theorem im_X8_partsWanting : Cond.instanceMethod yX8_partsWanting ∈ GW := gw_t3 (List.mem_of_getElem? (i := 219) rfl) rfl
theorem se_X8_partsWanting : Cond.selects RX8 yX8_partsWanting yX8_partsWanting ∈ GW := gw_t3 (List.mem_of_getElem? (i := 220) rfl) rfl
theorem co_X8_partsWanting : Cond.code yX8_partsWanting cX8_partsWanting 2 (some .long) ∈ GW := gw_t3 (List.mem_of_getElem? (i := 221) rfl) rfl
theorem kl_X8_117 : Cond.constantLong RX8 117 (1000000000000) ∈ GW := gw_t3 (List.mem_of_getElem? (i := 222) rfl) rfl
theorem ml_X9_173 : Cond.methodLink RX9 173 yX8_thousandths ∈ GW := gw_t3 (List.mem_of_getElem? (i := 223) rfl) rfl
theorem im_X8_thousandths : Cond.instanceMethod yX8_thousandths ∈ GW := gw_t3 (List.mem_of_getElem? (i := 224) rfl) rfl
theorem se_X8_thousandths : Cond.selects RX8 yX8_thousandths yX8_thousandths ∈ GW := gw_t3 (List.mem_of_getElem? (i := 225) rfl) rfl
theorem co_X8_thousandths : Cond.code yX8_thousandths cX8_thousandths 2 (some .long) ∈ GW := gw_t3 (List.mem_of_getElem? (i := 226) rfl) rfl
theorem ml_X8_29 : Cond.methodLink RX8 29 yX8_whole ∈ GW := gw_t3 (List.mem_of_getElem? (i := 227) rfl) rfl
theorem im_X8_whole : Cond.instanceMethod yX8_whole ∈ GW := gw_t3 (List.mem_of_getElem? (i := 228) rfl) rfl
theorem se_X8_whole : Cond.selects RX8 yX8_whole yX8_whole ∈ GW := gw_t3 (List.mem_of_getElem? (i := 229) rfl) rfl
theorem co_X8_whole : Cond.code yX8_whole cX8_whole 4 (some .long) ∈ GW := gw_t3 (List.mem_of_getElem? (i := 230) rfl) rfl
theorem kl_X8_33 : Cond.constantLong RX8 33 (1000000000) ∈ GW := gw_t3 (List.mem_of_getElem? (i := 231) rfl) rfl
theorem ml_L_69 : Cond.methodLink RL 69 yX9_worth ∈ GW := gw_t3 (List.mem_of_getElem? (i := 232) rfl) rfl
theorem im_X9_worth : Cond.instanceMethod yX9_worth ∈ GW := gw_t3 (List.mem_of_getElem? (i := 233) rfl) rfl
theorem se_X9_worth : Cond.selects RX9 yX9_worth yX9_worth ∈ GW := gw_t3 (List.mem_of_getElem? (i := 234) rfl) rfl
theorem co_X9_worth : Cond.code yX9_worth cX9_worth 4 (some .long) ∈ GW := gw_t3 (List.mem_of_getElem? (i := 235) rfl) rfl
theorem kl_X9_176 : Cond.constantLong RX9 176 (-1000000000000) ∈ GW := gw_t3 (List.mem_of_getElem? (i := 236) rfl) rfl
theorem ml_X9_178 : Cond.methodLink RX9 178 yX8_whole ∈ GW := gw_t3 (List.mem_of_getElem? (i := 237) rfl) rfl
theorem ml_L_73 : Cond.methodLink RL 73 yX9_best ∈ GW := gw_t3 (List.mem_of_getElem? (i := 238) rfl) rfl
theorem im_X9_best : Cond.instanceMethod yX9_best ∈ GW := gw_t3 (List.mem_of_getElem? (i := 239) rfl) rfl
theorem se_X9_best : Cond.selects RX9 yX9_best yX9_best ∈ GW := gw_t4 (List.mem_of_getElem? (i := 0) rfl) rfl
theorem co_X9_best : Cond.code yX9_best cX9_best 3 (some .int) ∈ GW := gw_t4 (List.mem_of_getElem? (i := 1) rfl) rfl
theorem ml_X9_181 : Cond.methodLink RX9 181 yX8_leastSacks ∈ GW := gw_t4 (List.mem_of_getElem? (i := 2) rfl) rfl
theorem im_X8_leastSacks : Cond.instanceMethod yX8_leastSacks ∈ GW := gw_t4 (List.mem_of_getElem? (i := 3) rfl) rfl
theorem se_X8_leastSacks : Cond.selects RX8 yX8_leastSacks yX8_leastSacks ∈ GW := gw_t4 (List.mem_of_getElem? (i := 4) rfl) rfl
theorem co_X8_leastSacks : Cond.code yX8_leastSacks cX8_leastSacks 4 (some .int) ∈ GW := gw_t4 (List.mem_of_getElem? (i := 5) rfl) rfl
theorem ml_L_77 : Cond.methodLink RL 77 yX9_sure ∈ GW := gw_t4 (List.mem_of_getElem? (i := 6) rfl) rfl
theorem im_X9_sure : Cond.instanceMethod yX9_sure ∈ GW := gw_t4 (List.mem_of_getElem? (i := 7) rfl) rfl
theorem se_X9_sure : Cond.selects RX9 yX9_sure yX9_sure ∈ GW := gw_t4 (List.mem_of_getElem? (i := 8) rfl) rfl
theorem co_X9_sure : Cond.code yX9_sure cX9_sure 4 (some .long) ∈ GW := gw_t4 (List.mem_of_getElem? (i := 9) rfl) rfl
theorem ml_X9_184 : Cond.methodLink RX9 184 yX8_gatherAlone ∈ GW := gw_t4 (List.mem_of_getElem? (i := 10) rfl) rfl
theorem ml_X9_187 : Cond.methodLink RX9 187 yX8_enough ∈ GW := gw_t4 (List.mem_of_getElem? (i := 11) rfl) rfl
theorem im_X8_enough : Cond.instanceMethod yX8_enough ∈ GW := gw_t4 (List.mem_of_getElem? (i := 12) rfl) rfl
theorem se_X8_enough : Cond.selects RX8 yX8_enough yX8_enough ∈ GW := gw_t4 (List.mem_of_getElem? (i := 13) rfl) rfl
theorem co_X8_enough : Cond.code yX8_enough cX8_enough 5 (some .long) ∈ GW := gw_t4 (List.mem_of_getElem? (i := 14) rfl) rfl
theorem ml_L_81 : Cond.methodLink RL 81 yX9_need ∈ GW := gw_t4 (List.mem_of_getElem? (i := 15) rfl) rfl
theorem im_X9_need : Cond.instanceMethod yX9_need ∈ GW := gw_t4 (List.mem_of_getElem? (i := 16) rfl) rfl
theorem se_X9_need : Cond.selects RX9 yX9_need yX9_need ∈ GW := gw_t4 (List.mem_of_getElem? (i := 17) rfl) rfl
theorem co_X9_need : Cond.code yX9_need cX9_need 7 (some .int) ∈ GW := gw_t4 (List.mem_of_getElem? (i := 18) rfl) rfl
theorem kl_X9_190 : Cond.constantLong RX9 190 (1000000000000) ∈ GW := gw_t4 (List.mem_of_getElem? (i := 19) rfl) rfl
theorem ml_X9_192 : Cond.methodLink RX9 192 yX8_partsWanting ∈ GW := gw_t4 (List.mem_of_getElem? (i := 20) rfl) rfl
theorem ml_L_85 : Cond.methodLink RL 85 yX9_packed ∈ GW := gw_t4 (List.mem_of_getElem? (i := 21) rfl) rfl
theorem im_X9_packed : Cond.instanceMethod yX9_packed ∈ GW := gw_t4 (List.mem_of_getElem? (i := 22) rfl) rfl
theorem se_X9_packed : Cond.selects RX9 yX9_packed yX9_packed ∈ GW := gw_t4 (List.mem_of_getElem? (i := 23) rfl) rfl
theorem co_X9_packed : Cond.code yX9_packed cX9_packed 2 (some .long) ∈ GW := gw_t4 (List.mem_of_getElem? (i := 24) rfl) rfl
theorem ml_X9_195 : Cond.methodLink RX9 195 yX8_packRoom ∈ GW := gw_t4 (List.mem_of_getElem? (i := 25) rfl) rfl
theorem im_X8_packRoom : Cond.instanceMethod yX8_packRoom ∈ GW := gw_t4 (List.mem_of_getElem? (i := 26) rfl) rfl
theorem se_X8_packRoom : Cond.selects RX8 yX8_packRoom yX8_packRoom ∈ GW := gw_t4 (List.mem_of_getElem? (i := 27) rfl) rfl
theorem co_X8_packRoom : Cond.code yX8_packRoom cX8_packRoom 6 (some .long) ∈ GW := gw_t4 (List.mem_of_getElem? (i := 28) rfl) rfl
theorem ml_X8_141 : Cond.methodLink RX8 141 yX2_hasValley ∈ GW := gw_t4 (List.mem_of_getElem? (i := 29) rfl) rfl
theorem ml_X8_144 : Cond.methodLink RX8 144 yJ7_fill_53178 ∈ GW := gw_t4 (List.mem_of_getElem? (i := 30) rfl) rfl
theorem st_J7_fill_53178 : Cond.static yJ7_fill_53178 ∈ GW := gw_t4 (List.mem_of_getElem? (i := 31) rfl) rfl
theorem co_J7_fill_53178 : Cond.code yJ7_fill_53178 cJ7_fill_53178 4 none ∈ GW := gw_t4 (List.mem_of_getElem? (i := 32) rfl) rfl
theorem ml_X8_153 : Cond.methodLink RX8 153 yX8_savingMost ∈ GW := gw_t4 (List.mem_of_getElem? (i := 33) rfl) rfl
theorem im_X8_savingMost : Cond.instanceMethod yX8_savingMost ∈ GW := gw_t4 (List.mem_of_getElem? (i := 35) rfl) rfl
theorem co_X8_savingMost : Cond.code yX8_savingMost cX8_savingMost 9 (some .int) ∈ GW := gw_t4 (List.mem_of_getElem? (i := 36) rfl) rfl
theorem ml_L_90 : Cond.methodLink RL 90 yX9_pack ∈ GW := gw_t4 (List.mem_of_getElem? (i := 37) rfl) rfl
theorem im_X9_pack : Cond.instanceMethod yX9_pack ∈ GW := gw_t4 (List.mem_of_getElem? (i := 38) rfl) rfl
theorem se_X9_pack : Cond.selects RX9 yX9_pack yX9_pack ∈ GW := gw_t4 (List.mem_of_getElem? (i := 39) rfl) rfl
theorem co_X9_pack : Cond.code yX9_pack cX9_pack 3 (some .int) ∈ GW := gw_t4 (List.mem_of_getElem? (i := 40) rfl) rfl
theorem ml_X9_199 : Cond.methodLink RX9 199 yX8_packedSacks ∈ GW := gw_t4 (List.mem_of_getElem? (i := 41) rfl) rfl
theorem im_X8_packedSacks : Cond.instanceMethod yX8_packedSacks ∈ GW := gw_t4 (List.mem_of_getElem? (i := 42) rfl) rfl
theorem se_X8_packedSacks : Cond.selects RX8 yX8_packedSacks yX8_packedSacks ∈ GW := gw_t4 (List.mem_of_getElem? (i := 43) rfl) rfl
theorem co_X8_packedSacks : Cond.code yX8_packedSacks cX8_packedSacks 2 (some .int) ∈ GW := gw_t4 (List.mem_of_getElem? (i := 44) rfl) rfl
theorem ml_L_94 : Cond.methodLink RL 94 yX9_gap ∈ GW := gw_t4 (List.mem_of_getElem? (i := 45) rfl) rfl
theorem im_X9_gap : Cond.instanceMethod yX9_gap ∈ GW := gw_t4 (List.mem_of_getElem? (i := 46) rfl) rfl
theorem se_X9_gap : Cond.selects RX9 yX9_gap yX9_gap ∈ GW := gw_t4 (List.mem_of_getElem? (i := 47) rfl) rfl
theorem co_X9_gap : Cond.code yX9_gap cX9_gap 7 (some .long) ∈ GW := gw_t4 (List.mem_of_getElem? (i := 48) rfl) rfl
theorem ml_X9_205 : Cond.methodLink RX9 205 yX8_leastWhole ∈ GW := gw_t4 (List.mem_of_getElem? (i := 49) rfl) rfl
theorem im_X8_leastWhole : Cond.instanceMethod yX8_leastWhole ∈ GW := gw_t4 (List.mem_of_getElem? (i := 50) rfl) rfl
theorem se_X8_leastWhole : Cond.selects RX8 yX8_leastWhole yX8_leastWhole ∈ GW := gw_t4 (List.mem_of_getElem? (i := 51) rfl) rfl
theorem co_X8_leastWhole : Cond.code yX8_leastWhole cX8_leastWhole 2 (some .long) ∈ GW := gw_t4 (List.mem_of_getElem? (i := 52) rfl) rfl
theorem ml_X8_35 : Cond.methodLink RX8 35 yX8_leastSacks ∈ GW := gw_t4 (List.mem_of_getElem? (i := 53) rfl) rfl
theorem ml_L_98 : Cond.methodLink RL 98 yX9_late ∈ GW := gw_t4 (List.mem_of_getElem? (i := 54) rfl) rfl
theorem im_X9_late : Cond.instanceMethod yX9_late ∈ GW := gw_t4 (List.mem_of_getElem? (i := 55) rfl) rfl
theorem se_X9_late : Cond.selects RX9 yX9_late yX9_late ∈ GW := gw_t4 (List.mem_of_getElem? (i := 56) rfl) rfl
theorem co_X9_late : Cond.code yX9_late cX9_late 3 (some .long) ∈ GW := gw_t4 (List.mem_of_getElem? (i := 57) rfl) rfl
theorem ml_X9_208 : Cond.methodLink RX9 208 yX3_leastFromFirst ∈ GW := gw_t4 (List.mem_of_getElem? (i := 58) rfl) rfl
theorem im_X3_leastFromFirst : Cond.instanceMethod yX3_leastFromFirst ∈ GW := gw_t4 (List.mem_of_getElem? (i := 59) rfl) rfl
theorem se_X3_leastFromFirst : Cond.selects RX3 yX3_leastFromFirst yX3_leastFromFirst ∈ GW := gw_t4 (List.mem_of_getElem? (i := 60) rfl) rfl
theorem co_X3_leastFromFirst : Cond.code yX3_leastFromFirst cX3_leastFromFirst 5 (some .long) ∈ GW := gw_t4 (List.mem_of_getElem? (i := 61) rfl) rfl
theorem ml_X3_74 : Cond.methodLink RX3 74 yX3_begin ∈ GW := gw_t4 (List.mem_of_getElem? (i := 62) rfl) rfl
theorem im_X3_begin : Cond.instanceMethod yX3_begin ∈ GW := gw_t4 (List.mem_of_getElem? (i := 63) rfl) rfl
theorem se_X3_begin : Cond.selects RX3 yX3_begin yX3_begin ∈ GW := gw_t4 (List.mem_of_getElem? (i := 64) rfl) rfl
theorem co_X3_begin : Cond.code yX3_begin cX3_begin 7 none ∈ GW := gw_t4 (List.mem_of_getElem? (i := 65) rfl) rfl
theorem ml_X3_39 : Cond.methodLink RX3 39 yJ9_max_7cf53 ∈ GW := gw_t4 (List.mem_of_getElem? (i := 66) rfl) rfl
theorem ml_X3_52 : Cond.methodLink RX3 52 yX2_hasStore ∈ GW := gw_t4 (List.mem_of_getElem? (i := 67) rfl) rfl
theorem ml_X3_56 : Cond.methodLink RX3 56 yX2_wanted ∈ GW := gw_t4 (List.mem_of_getElem? (i := 68) rfl) rfl
theorem kl_X3_60 : Cond.constantLong RX3 60 (1000) ∈ GW := gw_t4 (List.mem_of_getElem? (i := 69) rfl) rfl
theorem ml_X3_81 : Cond.methodLink RX3 81 yX3_settle ∈ GW := gw_t4 (List.mem_of_getElem? (i := 70) rfl) rfl
theorem im_X3_settle : Cond.instanceMethod yX3_settle ∈ GW := gw_t4 (List.mem_of_getElem? (i := 72) rfl) rfl
theorem co_X3_settle : Cond.code yX3_settle cX3_settle 5 none ∈ GW := gw_t4 (List.mem_of_getElem? (i := 73) rfl) rfl
theorem ml_X3_89 : Cond.methodLink RX3 89 yX3_weigh ∈ GW := gw_t4 (List.mem_of_getElem? (i := 74) rfl) rfl
theorem im_X3_weigh : Cond.instanceMethod yX3_weigh ∈ GW := gw_t4 (List.mem_of_getElem? (i := 76) rfl) rfl
theorem co_X3_weigh : Cond.code yX3_weigh cX3_weigh 17 none ∈ GW := gw_t4 (List.mem_of_getElem? (i := 77) rfl) rfl
theorem ml_X3_99 : Cond.methodLink RX3 99 yX2_chance ∈ GW := gw_t4 (List.mem_of_getElem? (i := 78) rfl) rfl
theorem kl_X3_106 : Cond.constantLong RX3 106 (100) ∈ GW := gw_t4 (List.mem_of_getElem? (i := 79) rfl) rfl
theorem ml_X3_92 : Cond.methodLink RX3 92 yX3_fewestOf ∈ GW := gw_t4 (List.mem_of_getElem? (i := 80) rfl) rfl
theorem im_X3_fewestOf : Cond.instanceMethod yX3_fewestOf ∈ GW := gw_t4 (List.mem_of_getElem? (i := 82) rfl) rfl
theorem co_X3_fewestOf : Cond.code yX3_fewestOf cX3_fewestOf 8 (some .int) ∈ GW := gw_t4 (List.mem_of_getElem? (i := 83) rfl) rfl
theorem ml_L_102 : Cond.methodLink RL 102 yX9_today ∈ GW := gw_t4 (List.mem_of_getElem? (i := 84) rfl) rfl
theorem im_X9_today : Cond.instanceMethod yX9_today ∈ GW := gw_t4 (List.mem_of_getElem? (i := 85) rfl) rfl
theorem se_X9_today : Cond.selects RX9 yX9_today yX9_today ∈ GW := gw_t4 (List.mem_of_getElem? (i := 86) rfl) rfl
theorem co_X9_today : Cond.code yX9_today cX9_today 6 (some .int) ∈ GW := gw_t4 (List.mem_of_getElem? (i := 87) rfl) rfl
theorem ml_X9_212 : Cond.methodLink RX9 212 yX3_begin ∈ GW := gw_t4 (List.mem_of_getElem? (i := 88) rfl) rfl
theorem ml_X9_216 : Cond.methodLink RX9 216 yX3_sentOn ∈ GW := gw_t4 (List.mem_of_getElem? (i := 89) rfl) rfl
theorem im_X3_sentOn : Cond.instanceMethod yX3_sentOn ∈ GW := gw_t4 (List.mem_of_getElem? (i := 90) rfl) rfl
theorem se_X3_sentOn : Cond.selects RX3 yX3_sentOn yX3_sentOn ∈ GW := gw_t4 (List.mem_of_getElem? (i := 91) rfl) rfl
theorem co_X3_sentOn : Cond.code yX3_sentOn cX3_sentOn 4 (some .int) ∈ GW := gw_t4 (List.mem_of_getElem? (i := 92) rfl) rfl
theorem ml_L_107 : Cond.methodLink RL 107 yX9_last ∈ GW := gw_t4 (List.mem_of_getElem? (i := 93) rfl) rfl
theorem im_X9_last : Cond.instanceMethod yX9_last ∈ GW := gw_t4 (List.mem_of_getElem? (i := 94) rfl) rfl
theorem se_X9_last : Cond.selects RX9 yX9_last yX9_last ∈ GW := gw_t4 (List.mem_of_getElem? (i := 95) rfl) rfl
theorem co_X9_last : Cond.code yX9_last cX9_last 3 (some .int) ∈ GW := gw_t4 (List.mem_of_getElem? (i := 96) rfl) rfl
theorem ml_X9_220 : Cond.methodLink RX9 220 yX3_lastSentInClear ∈ GW := gw_t4 (List.mem_of_getElem? (i := 97) rfl) rfl
theorem im_X3_lastSentInClear : Cond.instanceMethod yX3_lastSentInClear ∈ GW := gw_t4 (List.mem_of_getElem? (i := 98) rfl) rfl
theorem se_X3_lastSentInClear : Cond.selects RX3 yX3_lastSentInClear yX3_lastSentInClear ∈ GW := gw_t4 (List.mem_of_getElem? (i := 99) rfl) rfl
theorem co_X3_lastSentInClear : Cond.code yX3_lastSentInClear cX3_lastSentInClear 4 (some .int) ∈ GW := gw_t4 (List.mem_of_getElem? (i := 100) rfl) rfl
theorem ml_X3_85 : Cond.methodLink RX3 85 yX3_leastFromFirst ∈ GW := gw_t4 (List.mem_of_getElem? (i := 101) rfl) rfl
theorem ml_L_111 : Cond.methodLink RL 111 yX9_signs ∈ GW := gw_t4 (List.mem_of_getElem? (i := 102) rfl) rfl
theorem im_X9_signs : Cond.instanceMethod yX9_signs ∈ GW := gw_t4 (List.mem_of_getElem? (i := 103) rfl) rfl
theorem se_X9_signs : Cond.selects RX9 yX9_signs yX9_signs ∈ GW := gw_t4 (List.mem_of_getElem? (i := 104) rfl) rfl
theorem co_X9_signs : Cond.code yX9_signs cX9_signs 8 (some .long) ∈ GW := gw_t4 (List.mem_of_getElem? (i := 105) rfl) rfl
theorem kl_X9_226 : Cond.constantLong RX9 226 (9223372036854775807) ∈ GW := gw_t4 (List.mem_of_getElem? (i := 106) rfl) rfl
theorem kl_X9_228 : Cond.constantLong RX9 228 (1000) ∈ GW := gw_t4 (List.mem_of_getElem? (i := 107) rfl) rfl
theorem ml_X9_233 : Cond.methodLink RX9 233 yX2_loadsOf ∈ GW := gw_t4 (List.mem_of_getElem? (i := 108) rfl) rfl
theorem im_X2_loadsOf : Cond.instanceMethod yX2_loadsOf ∈ GW := gw_t4 (List.mem_of_getElem? (i := 109) rfl) rfl
theorem se_X2_loadsOf : Cond.selects RX2 yX2_loadsOf yX2_loadsOf ∈ GW := gw_t4 (List.mem_of_getElem? (i := 110) rfl) rfl
theorem co_X2_loadsOf : Cond.code yX2_loadsOf cX2_loadsOf 2 (some .int) ∈ GW := gw_t4 (List.mem_of_getElem? (i := 111) rfl) rfl
theorem ml_X9_236 : Cond.methodLink RX9 236 yJ9_min_f86c9 ∈ GW := gw_t4 (List.mem_of_getElem? (i := 112) rfl) rfl
theorem st_J9_min_f86c9 : Cond.static yJ9_min_f86c9 ∈ GW := gw_t4 (List.mem_of_getElem? (i := 113) rfl) rfl
theorem co_J9_min_f86c9 : Cond.code yJ9_min_f86c9 cJ9_min_f86c9 4 (some .long) ∈ GW := gw_t4 (List.mem_of_getElem? (i := 114) rfl) rfl
theorem ml_L_115 : Cond.methodLink RL 115 yX9_fork ∈ GW := gw_t4 (List.mem_of_getElem? (i := 115) rfl) rfl
theorem im_X9_fork : Cond.instanceMethod yX9_fork ∈ GW := gw_t4 (List.mem_of_getElem? (i := 116) rfl) rfl
theorem se_X9_fork : Cond.selects RX9 yX9_fork yX9_fork ∈ GW := gw_t4 (List.mem_of_getElem? (i := 117) rfl) rfl
theorem co_X9_fork : Cond.code yX9_fork cX9_fork 5 (some .long) ∈ GW := gw_t4 (List.mem_of_getElem? (i := 118) rfl) rfl
theorem ml_X9_242 : Cond.methodLink RX9 242 yX2_hasThing ∈ GW := gw_t4 (List.mem_of_getElem? (i := 119) rfl) rfl
theorem ml_X9_245 : Cond.methodLink RX9 245 yX8_layFork ∈ GW := gw_t4 (List.mem_of_getElem? (i := 120) rfl) rfl
theorem im_X8_layFork : Cond.instanceMethod yX8_layFork ∈ GW := gw_t4 (List.mem_of_getElem? (i := 121) rfl) rfl
theorem se_X8_layFork : Cond.selects RX8 yX8_layFork yX8_layFork ∈ GW := gw_t4 (List.mem_of_getElem? (i := 122) rfl) rfl
theorem co_X8_layFork : Cond.code yX8_layFork cX8_layFork 8 none ∈ GW := gw_t4 (List.mem_of_getElem? (i := 123) rfl) rfl
theorem ml_X8_51 : Cond.methodLink RX8 51 yX5_followTwo ∈ GW := gw_t4 (List.mem_of_getElem? (i := 124) rfl) rfl
theorem ml_X8_67 : Cond.methodLink RX8 67 yX5_partsOnTwo ∈ GW := gw_t4 (List.mem_of_getElem? (i := 125) rfl) rfl
theorem ml_L_119 : Cond.methodLink RL 119 yX9_middle ∈ GW := gw_t4 (List.mem_of_getElem? (i := 126) rfl) rfl
theorem im_X9_middle : Cond.instanceMethod yX9_middle ∈ GW := gw_t4 (List.mem_of_getElem? (i := 127) rfl) rfl
theorem se_X9_middle : Cond.selects RX9 yX9_middle yX9_middle ∈ GW := gw_t4 (List.mem_of_getElem? (i := 128) rfl) rfl
theorem co_X9_middle : Cond.code yX9_middle cX9_middle 4 (some .int) ∈ GW := gw_t4 (List.mem_of_getElem? (i := 129) rfl) rfl
theorem ml_L_123 : Cond.methodLink RL 123 yX9_shares ∈ GW := gw_t4 (List.mem_of_getElem? (i := 130) rfl) rfl
theorem im_X9_shares : Cond.instanceMethod yX9_shares ∈ GW := gw_t4 (List.mem_of_getElem? (i := 131) rfl) rfl
theorem se_X9_shares : Cond.selects RX9 yX9_shares yX9_shares ∈ GW := gw_t4 (List.mem_of_getElem? (i := 132) rfl) rfl
theorem co_X9_shares : Cond.code yX9_shares cX9_shares 6 (some .long) ∈ GW := gw_t4 (List.mem_of_getElem? (i := 133) rfl) rfl
theorem ml_L_127 : Cond.methodLink RL 127 yX9_flown ∈ GW := gw_t4 (List.mem_of_getElem? (i := 134) rfl) rfl
theorem im_X9_flown : Cond.instanceMethod yX9_flown ∈ GW := gw_t4 (List.mem_of_getElem? (i := 135) rfl) rfl
theorem se_X9_flown : Cond.selects RX9 yX9_flown yX9_flown ∈ GW := gw_t4 (List.mem_of_getElem? (i := 136) rfl) rfl
theorem co_X9_flown : Cond.code yX9_flown cX9_flown 4 (some .long) ∈ GW := gw_t4 (List.mem_of_getElem? (i := 137) rfl) rfl
theorem ml_X9_248 : Cond.methodLink RX9 248 yX8_flownWhole ∈ GW := gw_t4 (List.mem_of_getElem? (i := 138) rfl) rfl
theorem im_X8_flownWhole : Cond.instanceMethod yX8_flownWhole ∈ GW := gw_t4 (List.mem_of_getElem? (i := 139) rfl) rfl
theorem se_X8_flownWhole : Cond.selects RX8 yX8_flownWhole yX8_flownWhole ∈ GW := gw_t4 (List.mem_of_getElem? (i := 140) rfl) rfl
theorem co_X8_flownWhole : Cond.code yX8_flownWhole cX8_flownWhole 11 (some .long) ∈ GW := gw_t4 (List.mem_of_getElem? (i := 141) rfl) rfl
theorem ml_X8_128 : Cond.methodLink RX8 128 yX8_harmWithPlanes ∈ GW := gw_t4 (List.mem_of_getElem? (i := 142) rfl) rfl
theorem st_X8_harmWithPlanes : Cond.static yX8_harmWithPlanes ∈ GW := gw_t4 (List.mem_of_getElem? (i := 143) rfl) rfl
theorem co_X8_harmWithPlanes : Cond.code yX8_harmWithPlanes cX8_harmWithPlanes 9 (some .long) ∈ GW := gw_t4 (List.mem_of_getElem? (i := 144) rfl) rfl
theorem ml_X8_138 : Cond.methodLink RX8 138 yJ9_min_f86c9 ∈ GW := gw_t4 (List.mem_of_getElem? (i := 145) rfl) rfl
theorem ml_L_131 : Cond.methodLink RL 131 yX9_plane ∈ GW := gw_t4 (List.mem_of_getElem? (i := 146) rfl) rfl
theorem im_X9_plane : Cond.instanceMethod yX9_plane ∈ GW := gw_t4 (List.mem_of_getElem? (i := 147) rfl) rfl
theorem se_X9_plane : Cond.selects RX9 yX9_plane yX9_plane ∈ GW := gw_t4 (List.mem_of_getElem? (i := 148) rfl) rfl
theorem co_X9_plane : Cond.code yX9_plane cX9_plane 9 (some .int) ∈ GW := gw_t4 (List.mem_of_getElem? (i := 149) rfl) rfl
theorem ml_L_135 : Cond.methodLink RL 135 yX9_edge ∈ GW := gw_t4 (List.mem_of_getElem? (i := 150) rfl) rfl
theorem im_X9_edge : Cond.instanceMethod yX9_edge ∈ GW := gw_t4 (List.mem_of_getElem? (i := 151) rfl) rfl
theorem se_X9_edge : Cond.selects RX9 yX9_edge yX9_edge ∈ GW := gw_t4 (List.mem_of_getElem? (i := 152) rfl) rfl
theorem co_X9_edge : Cond.code yX9_edge cX9_edge 4 (some .int) ∈ GW := gw_t4 (List.mem_of_getElem? (i := 153) rfl) rfl
theorem ml_L_139 : Cond.methodLink RL 139 yX9_path ∈ GW := gw_t4 (List.mem_of_getElem? (i := 154) rfl) rfl
theorem im_X9_path : Cond.instanceMethod yX9_path ∈ GW := gw_t4 (List.mem_of_getElem? (i := 155) rfl) rfl
theorem se_X9_path : Cond.selects RX9 yX9_path yX9_path ∈ GW := gw_t4 (List.mem_of_getElem? (i := 156) rfl) rfl
theorem co_X9_path : Cond.code yX9_path cX9_path 5 (some .long) ∈ GW := gw_t4 (List.mem_of_getElem? (i := 157) rfl) rfl
theorem ml_X9_260 : Cond.methodLink RX9 260 yX2_pathBetween ∈ GW := gw_t4 (List.mem_of_getElem? (i := 158) rfl) rfl
theorem ml_X9_264 : Cond.methodLink RX9 264 yX8_layPath ∈ GW := gw_t4 (List.mem_of_getElem? (i := 159) rfl) rfl
theorem im_X8_layPath : Cond.instanceMethod yX8_layPath ∈ GW := gw_t4 (List.mem_of_getElem? (i := 160) rfl) rfl
theorem se_X8_layPath : Cond.selects RX8 yX8_layPath yX8_layPath ∈ GW := gw_t4 (List.mem_of_getElem? (i := 161) rfl) rfl
theorem co_X8_layPath : Cond.code yX8_layPath cX8_layPath 9 none ∈ GW := gw_t4 (List.mem_of_getElem? (i := 162) rfl) rfl
theorem ml_X8_77 : Cond.methodLink RX8 77 yX2_eaten ∈ GW := gw_t4 (List.mem_of_getElem? (i := 163) rfl) rfl
theorem ml_X8_81 : Cond.methodLink RX8 81 yX2_fedDays ∈ GW := gw_t4 (List.mem_of_getElem? (i := 164) rfl) rfl
theorem im_X2_fedDays : Cond.instanceMethod yX2_fedDays ∈ GW := gw_t4 (List.mem_of_getElem? (i := 165) rfl) rfl
theorem se_X2_fedDays : Cond.selects RX2 yX2_fedDays yX2_fedDays ∈ GW := gw_t4 (List.mem_of_getElem? (i := 166) rfl) rfl
theorem co_X2_fedDays : Cond.code yX2_fedDays cX2_fedDays 6 (some .int) ∈ GW := gw_t4 (List.mem_of_getElem? (i := 167) rfl) rfl
theorem ml_X2_73 : Cond.methodLink RX2 73 yX2_pathBetween ∈ GW := gw_t4 (List.mem_of_getElem? (i := 168) rfl) rfl
theorem ml_X2_76 : Cond.methodLink RX2 76 yJ9_min_7cf53 ∈ GW := gw_t4 (List.mem_of_getElem? (i := 169) rfl) rfl
theorem ml_L_143 : Cond.methodLink RL 143 yX9_fed ∈ GW := gw_t4 (List.mem_of_getElem? (i := 170) rfl) rfl
theorem im_X9_fed : Cond.instanceMethod yX9_fed ∈ GW := gw_t4 (List.mem_of_getElem? (i := 171) rfl) rfl
theorem se_X9_fed : Cond.selects RX9 yX9_fed yX9_fed ∈ GW := gw_t4 (List.mem_of_getElem? (i := 172) rfl) rfl
theorem co_X9_fed : Cond.code yX9_fed cX9_fed 7 (some .int) ∈ GW := gw_t4 (List.mem_of_getElem? (i := 173) rfl) rfl
theorem ml_X9_267 : Cond.methodLink RX9 267 yX2_fedDays ∈ GW := gw_t4 (List.mem_of_getElem? (i := 174) rfl) rfl
theorem kl_X9_271 : Cond.constantLong RX9 271 (10000000000) ∈ GW := gw_t4 (List.mem_of_getElem? (i := 175) rfl) rfl
theorem ml_L_147 : Cond.methodLink RL 147 yX9_given ∈ GW := gw_t4 (List.mem_of_getElem? (i := 176) rfl) rfl
theorem im_X9_given : Cond.instanceMethod yX9_given ∈ GW := gw_t4 (List.mem_of_getElem? (i := 177) rfl) rfl
theorem se_X9_given : Cond.selects RX9 yX9_given yX9_given ∈ GW := gw_t4 (List.mem_of_getElem? (i := 178) rfl) rfl
theorem co_X9_given : Cond.code yX9_given cX9_given 6 (some .int) ∈ GW := gw_t4 (List.mem_of_getElem? (i := 179) rfl) rfl
theorem ml_X9_273 : Cond.methodLink RX9 273 yX9_shareState ∈ GW := gw_t4 (List.mem_of_getElem? (i := 180) rfl) rfl
theorem im_X9_shareState : Cond.instanceMethod yX9_shareState ∈ GW := gw_t4 (List.mem_of_getElem? (i := 182) rfl) rfl
theorem co_X9_shareState : Cond.code yX9_shareState cX9_shareState 6 (some .int) ∈ GW := gw_t4 (List.mem_of_getElem? (i := 183) rfl) rfl
theorem ml_X9_312 : Cond.methodLink RX9 312 yX9_isSlot ∈ GW := gw_t4 (List.mem_of_getElem? (i := 184) rfl) rfl
theorem st_X9_isSlot : Cond.static yX9_isSlot ∈ GW := gw_t4 (List.mem_of_getElem? (i := 185) rfl) rfl
theorem co_X9_isSlot : Cond.code yX9_isSlot cX9_isSlot 1 (some .boolean) ∈ GW := gw_t4 (List.mem_of_getElem? (i := 186) rfl) rfl
theorem ki_X9_384 : Cond.constant RX9 384 (99999) ∈ GW := gw_t4 (List.mem_of_getElem? (i := 187) rfl) rfl
theorem kl_X9_385 : Cond.constantLong RX9 385 (999) ∈ GW := gw_t4 (List.mem_of_getElem? (i := 188) rfl) rfl
theorem ml_X9_319 : Cond.methodLink RX9 319 yX6_within ∈ GW := gw_t4 (List.mem_of_getElem? (i := 189) rfl) rfl
theorem im_X6_within : Cond.instanceMethod yX6_within ∈ GW := gw_t4 (List.mem_of_getElem? (i := 190) rfl) rfl
theorem se_X6_within : Cond.selects RX6 yX6_within yX6_within ∈ GW := gw_t4 (List.mem_of_getElem? (i := 191) rfl) rfl
theorem co_X6_within : Cond.code yX6_within cX6_within 6 (some .boolean) ∈ GW := gw_t4 (List.mem_of_getElem? (i := 192) rfl) rfl
theorem ml_X9_387 : Cond.methodLink RX9 387 yX7_take ∈ GW := gw_t4 (List.mem_of_getElem? (i := 193) rfl) rfl
theorem im_X7_take : Cond.instanceMethod yX7_take ∈ GW := gw_t4 (List.mem_of_getElem? (i := 194) rfl) rfl
theorem se_X7_take : Cond.selects RX7 yX7_take yX7_take ∈ GW := gw_t4 (List.mem_of_getElem? (i := 195) rfl) rfl
theorem co_X7_take : Cond.code yX7_take cX7_take 3 none ∈ GW := gw_t4 (List.mem_of_getElem? (i := 196) rfl) rfl
theorem ml_X7_15 : Cond.methodLink RX7 15 yJ7_fill_53178 ∈ GW := gw_t4 (List.mem_of_getElem? (i := 197) rfl) rfl
theorem ml_X9_276 : Cond.methodLink RX9 276 yX7_part ∈ GW := gw_t4 (List.mem_of_getElem? (i := 198) rfl) rfl
theorem im_X7_part : Cond.instanceMethod yX7_part ∈ GW := gw_t4 (List.mem_of_getElem? (i := 199) rfl) rfl
theorem se_X7_part : Cond.selects RX7 yX7_part yX7_part ∈ GW := gw_t4 (List.mem_of_getElem? (i := 200) rfl) rfl
theorem co_X7_part : Cond.code yX7_part cX7_part 4 (some .int) ∈ GW := gw_t4 (List.mem_of_getElem? (i := 201) rfl) rfl
theorem ml_X7_21 : Cond.methodLink RX7 21 yX7_byParts ∈ GW := gw_t4 (List.mem_of_getElem? (i := 202) rfl) rfl
theorem im_X7_byParts : Cond.instanceMethod yX7_byParts ∈ GW := gw_t4 (List.mem_of_getElem? (i := 204) rfl) rfl
theorem co_X7_byParts : Cond.code yX7_byParts cX7_byParts 4 (some .int) ∈ GW := gw_t4 (List.mem_of_getElem? (i := 205) rfl) rfl
theorem ml_X7_38 : Cond.methodLink RX7 38 yX7_sumUpTo ∈ GW := gw_t4 (List.mem_of_getElem? (i := 206) rfl) rfl
theorem im_X7_sumUpTo : Cond.instanceMethod yX7_sumUpTo ∈ GW := gw_t4 (List.mem_of_getElem? (i := 208) rfl) rfl
theorem co_X7_sumUpTo : Cond.code yX7_sumUpTo cX7_sumUpTo 4 (some .int) ∈ GW := gw_t4 (List.mem_of_getElem? (i := 209) rfl) rfl
theorem ml_X7_25 : Cond.methodLink RX7 25 yX7_level ∈ GW := gw_t4 (List.mem_of_getElem? (i := 210) rfl) rfl
theorem im_X7_level : Cond.instanceMethod yX7_level ∈ GW := gw_t4 (List.mem_of_getElem? (i := 212) rfl) rfl
theorem co_X7_level : Cond.code yX7_level cX7_level 6 (some .int) ∈ GW := gw_t4 (List.mem_of_getElem? (i := 213) rfl) rfl
theorem ml_X7_29 : Cond.methodLink RX7 29 yJ9_min_7cf53 ∈ GW := gw_t4 (List.mem_of_getElem? (i := 214) rfl) rfl
theorem ml_L_152 : Cond.methodLink RL 152 yX9_asks ∈ GW := gw_t4 (List.mem_of_getElem? (i := 215) rfl) rfl
theorem im_X9_asks : Cond.instanceMethod yX9_asks ∈ GW := gw_t4 (List.mem_of_getElem? (i := 216) rfl) rfl
theorem se_X9_asks : Cond.selects RX9 yX9_asks yX9_asks ∈ GW := gw_t4 (List.mem_of_getElem? (i := 217) rfl) rfl
theorem co_X9_asks : Cond.code yX9_asks cX9_asks 7 (some .int) ∈ GW := gw_t4 (List.mem_of_getElem? (i := 218) rfl) rfl
theorem ml_X9_279 : Cond.methodLink RX9 279 yX9_bestAsked ∈ GW := gw_t4 (List.mem_of_getElem? (i := 219) rfl) rfl
theorem im_X9_bestAsked : Cond.instanceMethod yX9_bestAsked ∈ GW := gw_t4 (List.mem_of_getElem? (i := 221) rfl) rfl
theorem co_X9_bestAsked : Cond.code yX9_bestAsked cX9_bestAsked 11 (some .int) ∈ GW := gw_t4 (List.mem_of_getElem? (i := 222) rfl) rfl
theorem ml_X9_285 : Cond.methodLink RX9 285 yX9_lossIfAsked ∈ GW := gw_t4 (List.mem_of_getElem? (i := 223) rfl) rfl
theorem im_X9_lossIfAsked : Cond.instanceMethod yX9_lossIfAsked ∈ GW := gw_t4 (List.mem_of_getElem? (i := 225) rfl) rfl
theorem co_X9_lossIfAsked : Cond.code yX9_lossIfAsked cX9_lossIfAsked 6 (some .long) ∈ GW := gw_t4 (List.mem_of_getElem? (i := 226) rfl) rfl
theorem ml_X9_391 : Cond.methodLink RX9 391 yX7_partIfAsked ∈ GW := gw_t4 (List.mem_of_getElem? (i := 227) rfl) rfl
theorem im_X7_partIfAsked : Cond.instanceMethod yX7_partIfAsked ∈ GW := gw_t4 (List.mem_of_getElem? (i := 228) rfl) rfl
theorem se_X7_partIfAsked : Cond.selects RX7 yX7_partIfAsked yX7_partIfAsked ∈ GW := gw_t4 (List.mem_of_getElem? (i := 229) rfl) rfl
theorem co_X7_partIfAsked : Cond.code yX7_partIfAsked cX7_partIfAsked 7 (some .int) ∈ GW := gw_t4 (List.mem_of_getElem? (i := 230) rfl) rfl
theorem ml_X7_34 : Cond.methodLink RX7 34 yX7_part ∈ GW := gw_t4 (List.mem_of_getElem? (i := 231) rfl) rfl
theorem ml_X9_282 : Cond.methodLink RX9 282 yX8_lossWhole ∈ GW := gw_t4 (List.mem_of_getElem? (i := 232) rfl) rfl
theorem ml_L_156 : Cond.methodLink RL 156 yX9_pays ∈ GW := gw_t4 (List.mem_of_getElem? (i := 233) rfl) rfl
theorem im_X9_pays : Cond.instanceMethod yX9_pays ∈ GW := gw_t4 (List.mem_of_getElem? (i := 234) rfl) rfl
theorem se_X9_pays : Cond.selects RX9 yX9_pays yX9_pays ∈ GW := gw_t4 (List.mem_of_getElem? (i := 235) rfl) rfl
theorem co_X9_pays : Cond.code yX9_pays cX9_pays 9 (some .long) ∈ GW := gw_t4 (List.mem_of_getElem? (i := 236) rfl) rfl
theorem ml_L_161 : Cond.methodLink RL 161 yX9_burnt ∈ GW := gw_t4 (List.mem_of_getElem? (i := 237) rfl) rfl
theorem im_X9_burnt : Cond.instanceMethod yX9_burnt ∈ GW := gw_t4 (List.mem_of_getElem? (i := 238) rfl) rfl
theorem se_X9_burnt : Cond.selects RX9 yX9_burnt yX9_burnt ∈ GW := gw_t4 (List.mem_of_getElem? (i := 239) rfl) rfl
theorem co_X9_burnt : Cond.code yX9_burnt cX9_burnt 5 (some .long) ∈ GW := gw_t5 (List.mem_of_getElem? (i := 0) rfl) rfl
theorem ml_X9_289 : Cond.methodLink RX9 289 yX9_isHundredth ∈ GW := gw_t5 (List.mem_of_getElem? (i := 1) rfl) rfl
theorem st_X9_isHundredth : Cond.static yX9_isHundredth ∈ GW := gw_t5 (List.mem_of_getElem? (i := 2) rfl) rfl
theorem co_X9_isHundredth : Cond.code yX9_isHundredth cX9_isHundredth 1 (some .boolean) ∈ GW := gw_t5 (List.mem_of_getElem? (i := 3) rfl) rfl
theorem ml_X9_292 : Cond.methodLink RX9 292 yX9_costOfHeld ∈ GW := gw_t5 (List.mem_of_getElem? (i := 4) rfl) rfl
theorem im_X9_costOfHeld : Cond.instanceMethod yX9_costOfHeld ∈ GW := gw_t5 (List.mem_of_getElem? (i := 6) rfl) rfl
theorem co_X9_costOfHeld : Cond.code yX9_costOfHeld cX9_costOfHeld 4 (some .long) ∈ GW := gw_t5 (List.mem_of_getElem? (i := 7) rfl) rfl
theorem kl_X9_296 : Cond.constantLong RX9 296 (100) ∈ GW := gw_t5 (List.mem_of_getElem? (i := 8) rfl) rfl
theorem ml_L_165 : Cond.methodLink RL 165 yX9_spread ∈ GW := gw_t5 (List.mem_of_getElem? (i := 9) rfl) rfl
theorem im_X9_spread : Cond.instanceMethod yX9_spread ∈ GW := gw_t5 (List.mem_of_getElem? (i := 10) rfl) rfl
theorem se_X9_spread : Cond.selects RX9 yX9_spread yX9_spread ∈ GW := gw_t5 (List.mem_of_getElem? (i := 11) rfl) rfl
theorem co_X9_spread : Cond.code yX9_spread cX9_spread 5 (some .long) ∈ GW := gw_t5 (List.mem_of_getElem? (i := 12) rfl) rfl
theorem ml_X9_298 : Cond.methodLink RX9 298 yX9_costOfTwoStores ∈ GW := gw_t5 (List.mem_of_getElem? (i := 13) rfl) rfl
theorem im_X9_costOfTwoStores : Cond.instanceMethod yX9_costOfTwoStores ∈ GW := gw_t5 (List.mem_of_getElem? (i := 15) rfl) rfl
theorem co_X9_costOfTwoStores : Cond.code yX9_costOfTwoStores cX9_costOfTwoStores 7 (some .long) ∈ GW := gw_t5 (List.mem_of_getElem? (i := 16) rfl) rfl
theorem kl_X9_394 : Cond.constantLong RX9 394 (10000) ∈ GW := gw_t5 (List.mem_of_getElem? (i := 17) rfl) rfl
theorem ml_L_169 : Cond.methodLink RL 169 yX9_bear ∈ GW := gw_t5 (List.mem_of_getElem? (i := 18) rfl) rfl
theorem im_X9_bear : Cond.instanceMethod yX9_bear ∈ GW := gw_t5 (List.mem_of_getElem? (i := 19) rfl) rfl
theorem se_X9_bear : Cond.selects RX9 yX9_bear yX9_bear ∈ GW := gw_t5 (List.mem_of_getElem? (i := 20) rfl) rfl
theorem co_X9_bear : Cond.code yX9_bear cX9_bear 10 (some .int) ∈ GW := gw_t5 (List.mem_of_getElem? (i := 21) rfl) rfl
theorem ml_L_173 : Cond.methodLink RL 173 yX9_run ∈ GW := gw_t5 (List.mem_of_getElem? (i := 22) rfl) rfl
theorem im_X9_run : Cond.instanceMethod yX9_run ∈ GW := gw_t5 (List.mem_of_getElem? (i := 23) rfl) rfl
theorem se_X9_run : Cond.selects RX9 yX9_run yX9_run ∈ GW := gw_t5 (List.mem_of_getElem? (i := 24) rfl) rfl
theorem co_X9_run : Cond.code yX9_run cX9_run 3 (some .int) ∈ GW := gw_t5 (List.mem_of_getElem? (i := 25) rfl) rfl
theorem ml_X9_301 : Cond.methodLink RX9 301 yX9_isSeed ∈ GW := gw_t5 (List.mem_of_getElem? (i := 26) rfl) rfl
theorem st_X9_isSeed : Cond.static yX9_isSeed ∈ GW := gw_t5 (List.mem_of_getElem? (i := 27) rfl) rfl
theorem co_X9_isSeed : Cond.code yX9_isSeed cX9_isSeed 1 (some .boolean) ∈ GW := gw_t5 (List.mem_of_getElem? (i := 28) rfl) rfl
theorem ki_X9_383 : Cond.constant RX9 383 (2000000000) ∈ GW := gw_t5 (List.mem_of_getElem? (i := 29) rfl) rfl
theorem ml_X9_304 : Cond.methodLink RX9 304 yX0_drawYear ∈ GW := gw_t5 (List.mem_of_getElem? (i := 30) rfl) rfl
theorem im_X0_drawYear : Cond.instanceMethod yX0_drawYear ∈ GW := gw_t5 (List.mem_of_getElem? (i := 31) rfl) rfl
theorem se_X0_drawYear : Cond.selects RX0 yX0_drawYear yX0_drawYear ∈ GW := gw_t5 (List.mem_of_getElem? (i := 32) rfl) rfl
theorem co_X0_drawYear : Cond.code yX0_drawYear cX0_drawYear 7 none ∈ GW := gw_t5 (List.mem_of_getElem? (i := 33) rfl) rfl
theorem ml_X0_7 : Cond.methodLink RX0 7 yJ7_fill_53178 ∈ GW := gw_t5 (List.mem_of_getElem? (i := 34) rfl) rfl
theorem ml_X0_25 : Cond.methodLink RX0 25 yX0_draw ∈ GW := gw_t5 (List.mem_of_getElem? (i := 35) rfl) rfl
theorem im_X0_draw : Cond.instanceMethod yX0_draw ∈ GW := gw_t5 (List.mem_of_getElem? (i := 37) rfl) rfl
theorem co_X0_draw : Cond.code yX0_draw cX0_draw 1 (some .int) ∈ GW := gw_t5 (List.mem_of_getElem? (i := 38) rfl) rfl
theorem kl_X0_40 : Cond.constantLong RX0 40 (1103515245) ∈ GW := gw_t5 (List.mem_of_getElem? (i := 39) rfl) rfl
theorem kl_X0_42 : Cond.constantLong RX0 42 (12345) ∈ GW := gw_t5 (List.mem_of_getElem? (i := 40) rfl) rfl
theorem kl_X0_44 : Cond.constantLong RX0 44 (2147483648) ∈ GW := gw_t5 (List.mem_of_getElem? (i := 41) rfl) rfl
theorem kl_X0_46 : Cond.constantLong RX0 46 (65536) ∈ GW := gw_t5 (List.mem_of_getElem? (i := 42) rfl) rfl
theorem kl_X0_48 : Cond.constantLong RX0 48 (100) ∈ GW := gw_t5 (List.mem_of_getElem? (i := 43) rfl) rfl
theorem ml_X0_29 : Cond.methodLink RX0 29 yX2_chance ∈ GW := gw_t5 (List.mem_of_getElem? (i := 44) rfl) rfl
theorem ml_X9_308 : Cond.methodLink RX9 308 yX2_roadsShut ∈ GW := gw_t5 (List.mem_of_getElem? (i := 45) rfl) rfl
theorem im_X2_roadsShut : Cond.instanceMethod yX2_roadsShut ∈ GW := gw_t5 (List.mem_of_getElem? (i := 46) rfl) rfl
theorem se_X2_roadsShut : Cond.selects RX2 yX2_roadsShut yX2_roadsShut ∈ GW := gw_t5 (List.mem_of_getElem? (i := 47) rfl) rfl
theorem co_X2_roadsShut : Cond.code yX2_roadsShut cX2_roadsShut 4 (some .int) ∈ GW := gw_t5 (List.mem_of_getElem? (i := 48) rfl) rfl
theorem ml_L_177 : Cond.methodLink RL 177 yX9_told ∈ GW := gw_t5 (List.mem_of_getElem? (i := 49) rfl) rfl
theorem im_X9_told : Cond.instanceMethod yX9_told ∈ GW := gw_t5 (List.mem_of_getElem? (i := 50) rfl) rfl
theorem se_X9_told : Cond.selects RX9 yX9_told yX9_told ∈ GW := gw_t5 (List.mem_of_getElem? (i := 51) rfl) rfl
theorem co_X9_told : Cond.code yX9_told cX9_told 3 (some .int) ∈ GW := gw_t5 (List.mem_of_getElem? (i := 52) rfl) rfl
theorem ml_X9_323 : Cond.methodLink RX9 323 yX2_yearOf ∈ GW := gw_t5 (List.mem_of_getElem? (i := 53) rfl) rfl
theorem im_X2_yearOf : Cond.instanceMethod yX2_yearOf ∈ GW := gw_t5 (List.mem_of_getElem? (i := 54) rfl) rfl
theorem se_X2_yearOf : Cond.selects RX2 yX2_yearOf yX2_yearOf ∈ GW := gw_t5 (List.mem_of_getElem? (i := 55) rfl) rfl
theorem co_X2_yearOf : Cond.code yX2_yearOf cX2_yearOf 5 (some (.array .int)) ∈ GW := gw_t5 (List.mem_of_getElem? (i := 56) rfl) rfl
theorem ml_L_181 : Cond.methodLink RL 181 yX9_shut ∈ GW := gw_t5 (List.mem_of_getElem? (i := 57) rfl) rfl
theorem im_X9_shut : Cond.instanceMethod yX9_shut ∈ GW := gw_t5 (List.mem_of_getElem? (i := 58) rfl) rfl
theorem se_X9_shut : Cond.selects RX9 yX9_shut yX9_shut ∈ GW := gw_t5 (List.mem_of_getElem? (i := 59) rfl) rfl
theorem co_X9_shut : Cond.code yX9_shut cX9_shut 2 (some .int) ∈ GW := gw_t5 (List.mem_of_getElem? (i := 60) rfl) rfl
theorem ml_L_185 : Cond.methodLink RL 185 yX9_lacks ∈ GW := gw_t5 (List.mem_of_getElem? (i := 61) rfl) rfl
theorem im_X9_lacks : Cond.instanceMethod yX9_lacks ∈ GW := gw_t5 (List.mem_of_getElem? (i := 62) rfl) rfl
theorem se_X9_lacks : Cond.selects RX9 yX9_lacks yX9_lacks ∈ GW := gw_t5 (List.mem_of_getElem? (i := 63) rfl) rfl
theorem co_X9_lacks : Cond.code yX9_lacks cX9_lacks 7 (some .int) ∈ GW := gw_t5 (List.mem_of_getElem? (i := 64) rfl) rfl
theorem ml_X9_327 : Cond.methodLink RX9 327 yJ9_max_7cf53 ∈ GW := gw_t5 (List.mem_of_getElem? (i := 65) rfl) rfl
theorem ml_X9_330 : Cond.methodLink RX9 330 yX2_firstLacking ∈ GW := gw_t5 (List.mem_of_getElem? (i := 66) rfl) rfl
theorem im_X2_firstLacking : Cond.instanceMethod yX2_firstLacking ∈ GW := gw_t5 (List.mem_of_getElem? (i := 67) rfl) rfl
theorem se_X2_firstLacking : Cond.selects RX2 yX2_firstLacking yX2_firstLacking ∈ GW := gw_t5 (List.mem_of_getElem? (i := 68) rfl) rfl
theorem co_X2_firstLacking : Cond.code yX2_firstLacking cX2_firstLacking 6 (some .int) ∈ GW := gw_t5 (List.mem_of_getElem? (i := 69) rfl) rfl
theorem ml_X2_81 : Cond.methodLink RX2 81 yX2_wanted ∈ GW := gw_t5 (List.mem_of_getElem? (i := 70) rfl) rfl
theorem ml_L_189 : Cond.methodLink RL 189 yX9_judge ∈ GW := gw_t5 (List.mem_of_getElem? (i := 71) rfl) rfl
theorem im_X9_judge : Cond.instanceMethod yX9_judge ∈ GW := gw_t5 (List.mem_of_getElem? (i := 72) rfl) rfl
theorem se_X9_judge : Cond.selects RX9 yX9_judge yX9_judge ∈ GW := gw_t5 (List.mem_of_getElem? (i := 73) rfl) rfl
theorem co_X9_judge : Cond.code yX9_judge cX9_judge 4 (some .int) ∈ GW := gw_t5 (List.mem_of_getElem? (i := 74) rfl) rfl
theorem ml_X9_333 : Cond.methodLink RX9 333 yX2_firstWrong ∈ GW := gw_t5 (List.mem_of_getElem? (i := 75) rfl) rfl
theorem im_X2_firstWrong : Cond.instanceMethod yX2_firstWrong ∈ GW := gw_t5 (List.mem_of_getElem? (i := 76) rfl) rfl
theorem se_X2_firstWrong : Cond.selects RX2 yX2_firstWrong yX2_firstWrong ∈ GW := gw_t5 (List.mem_of_getElem? (i := 77) rfl) rfl
theorem co_X2_firstWrong : Cond.code yX2_firstWrong cX2_firstWrong 5 (some .int) ∈ GW := gw_t5 (List.mem_of_getElem? (i := 78) rfl) rfl
theorem ml_L_193 : Cond.methodLink RL 193 yX9_paid ∈ GW := gw_t5 (List.mem_of_getElem? (i := 79) rfl) rfl
theorem im_X9_paid : Cond.instanceMethod yX9_paid ∈ GW := gw_t5 (List.mem_of_getElem? (i := 80) rfl) rfl
theorem se_X9_paid : Cond.selects RX9 yX9_paid yX9_paid ∈ GW := gw_t5 (List.mem_of_getElem? (i := 81) rfl) rfl
theorem co_X9_paid : Cond.code yX9_paid cX9_paid 15 (some .long) ∈ GW := gw_t5 (List.mem_of_getElem? (i := 82) rfl) rfl
theorem ml_X9_337 : Cond.methodLink RX9 337 yX6_total ∈ GW := gw_t5 (List.mem_of_getElem? (i := 83) rfl) rfl
theorem im_X6_total : Cond.instanceMethod yX6_total ∈ GW := gw_t5 (List.mem_of_getElem? (i := 84) rfl) rfl
theorem se_X6_total : Cond.selects RX6 yX6_total yX6_total ∈ GW := gw_t5 (List.mem_of_getElem? (i := 85) rfl) rfl
theorem co_X6_total : Cond.code yX6_total cX6_total 4 (some .long) ∈ GW := gw_t5 (List.mem_of_getElem? (i := 86) rfl) rfl
theorem ml_X9_344 : Cond.methodLink RX9 344 yJ9_max_f86c9 ∈ GW := gw_t5 (List.mem_of_getElem? (i := 87) rfl) rfl
theorem st_J9_max_f86c9 : Cond.static yJ9_max_f86c9 ∈ GW := gw_t5 (List.mem_of_getElem? (i := 88) rfl) rfl
theorem co_J9_max_f86c9 : Cond.code yJ9_max_f86c9 cJ9_max_f86c9 4 (some .long) ∈ GW := gw_t5 (List.mem_of_getElem? (i := 89) rfl) rfl
theorem ml_L_197 : Cond.methodLink RL 197 yX9_years ∈ GW := gw_t5 (List.mem_of_getElem? (i := 90) rfl) rfl
theorem im_X9_years : Cond.instanceMethod yX9_years ∈ GW := gw_t5 (List.mem_of_getElem? (i := 91) rfl) rfl
theorem se_X9_years : Cond.selects RX9 yX9_years yX9_years ∈ GW := gw_t5 (List.mem_of_getElem? (i := 92) rfl) rfl
theorem co_X9_years : Cond.code yX9_years cX9_years 11 (some .int) ∈ GW := gw_t5 (List.mem_of_getElem? (i := 93) rfl) rfl
theorem ml_L_202 : Cond.methodLink RL 202 yX9_count ∈ GW := gw_t5 (List.mem_of_getElem? (i := 94) rfl) rfl
theorem im_X9_count : Cond.instanceMethod yX9_count ∈ GW := gw_t5 (List.mem_of_getElem? (i := 95) rfl) rfl
theorem se_X9_count : Cond.selects RX9 yX9_count yX9_count ∈ GW := gw_t5 (List.mem_of_getElem? (i := 96) rfl) rfl
theorem co_X9_count : Cond.code yX9_count cX9_count 2 (some .int) ∈ GW := gw_t5 (List.mem_of_getElem? (i := 97) rfl) rfl
theorem ml_X9_355 : Cond.methodLink RX9 355 yX9_slotsInUse ∈ GW := gw_t5 (List.mem_of_getElem? (i := 98) rfl) rfl
theorem im_X9_slotsInUse : Cond.instanceMethod yX9_slotsInUse ∈ GW := gw_t5 (List.mem_of_getElem? (i := 100) rfl) rfl
theorem co_X9_slotsInUse : Cond.code yX9_slotsInUse cX9_slotsInUse 3 (some .int) ∈ GW := gw_t5 (List.mem_of_getElem? (i := 101) rfl) rfl
theorem ml_L_206 : Cond.methodLink RL 206 yX9_keep ∈ GW := gw_t5 (List.mem_of_getElem? (i := 102) rfl) rfl
theorem im_X9_keep : Cond.instanceMethod yX9_keep ∈ GW := gw_t5 (List.mem_of_getElem? (i := 103) rfl) rfl
theorem se_X9_keep : Cond.selects RX9 yX9_keep yX9_keep ∈ GW := gw_t5 (List.mem_of_getElem? (i := 104) rfl) rfl
theorem co_X9_keep : Cond.code yX9_keep cX9_keep 2 (some .int) ∈ GW := gw_t5 (List.mem_of_getElem? (i := 105) rfl) rfl
theorem ins_X1 : Cond.instantiable RX1 2 ∈ GW := gw_t5 (List.mem_of_getElem? (i := 106) rfl) rfl
theorem ml_X9_359 : Cond.methodLink RX9 359 yX1_init ∈ GW := gw_t5 (List.mem_of_getElem? (i := 107) rfl) rfl
theorem im_X1_init : Cond.instanceMethod yX1_init ∈ GW := gw_t5 (List.mem_of_getElem? (i := 108) rfl) rfl
theorem co_X1_init : Cond.code yX1_init cX1_init 3 none ∈ GW := gw_t5 (List.mem_of_getElem? (i := 109) rfl) rfl
theorem ml_X1_1 : Cond.methodLink RX1 1 ⟨"java/lang/Object", "<init>", "()V"⟩ ∈ GW := gw_t5 (List.mem_of_getElem? (i := 110) rfl) rfl
theorem fl_X1_7 : Cond.fieldLink RX1 7 "RoadShut$Image" "land" "LRoadShut$Land;" ∈ GW := gw_t5 (List.mem_of_getElem? (i := 111) rfl) rfl
theorem fl_X9_362 : Cond.fieldLink RX9 362 "RoadShut$Image" "land" "LRoadShut$Land;" ∈ GW := gw_t5 (List.mem_of_getElem? (i := 112) rfl) rfl
theorem fl_X1_13 : Cond.fieldLink RX1 13 "RoadShut$Image" "year" "[I" ∈ GW := gw_t5 (List.mem_of_getElem? (i := 113) rfl) rfl
theorem fl_X9_363 : Cond.fieldLink RX9 363 "RoadShut$Image" "year" "[I" ∈ GW := gw_t5 (List.mem_of_getElem? (i := 114) rfl) rfl
theorem ly_X1_land : Cond.laysFinal RX1 "RoadShut$Image" "land" "LRoadShut$Land;" ∈ GW := gw_t5 (List.mem_of_getElem? (i := 115) rfl) rfl
theorem ly_X1_year : Cond.laysFinal RX1 "RoadShut$Image" "year" "[I" ∈ GW := gw_t5 (List.mem_of_getElem? (i := 117) rfl) rfl
theorem ml_L_210 : Cond.methodLink RL 210 yX9_back ∈ GW := gw_t5 (List.mem_of_getElem? (i := 120) rfl) rfl
theorem im_X9_back : Cond.instanceMethod yX9_back ∈ GW := gw_t5 (List.mem_of_getElem? (i := 121) rfl) rfl
theorem se_X9_back : Cond.selects RX9 yX9_back yX9_back ∈ GW := gw_t5 (List.mem_of_getElem? (i := 122) rfl) rfl
theorem co_X9_back : Cond.code yX9_back cX9_back 3 (some .int) ∈ GW := gw_t5 (List.mem_of_getElem? (i := 123) rfl) rfl
theorem ml_L_214 : Cond.methodLink RL 214 yX9_row ∈ GW := gw_t5 (List.mem_of_getElem? (i := 124) rfl) rfl
theorem im_X9_row : Cond.instanceMethod yX9_row ∈ GW := gw_t5 (List.mem_of_getElem? (i := 125) rfl) rfl
theorem se_X9_row : Cond.selects RX9 yX9_row yX9_row ∈ GW := gw_t5 (List.mem_of_getElem? (i := 126) rfl) rfl
theorem co_X9_row : Cond.code yX9_row cX9_row 4 (some .int) ∈ GW := gw_t5 (List.mem_of_getElem? (i := 127) rfl) rfl
theorem ins_X6 : Cond.instantiable RX6 2 ∈ GW := gw_t5 (List.mem_of_getElem? (i := 128) rfl) rfl
theorem ml_X9_364 : Cond.methodLink RX9 364 yX6_init ∈ GW := gw_t5 (List.mem_of_getElem? (i := 129) rfl) rfl
theorem im_X6_init : Cond.instanceMethod yX6_init ∈ GW := gw_t5 (List.mem_of_getElem? (i := 130) rfl) rfl
theorem co_X6_init : Cond.code yX6_init cX6_init 3 none ∈ GW := gw_t5 (List.mem_of_getElem? (i := 131) rfl) rfl
theorem ml_X6_1 : Cond.methodLink RX6 1 ⟨"java/lang/Object", "<init>", "()V"⟩ ∈ GW := gw_t5 (List.mem_of_getElem? (i := 132) rfl) rfl
theorem ml_X6_13 : Cond.methodLink RX6 13 yJ9_max_7cf53 ∈ GW := gw_t5 (List.mem_of_getElem? (i := 133) rfl) rfl
theorem fl_X6_7 : Cond.fieldLink RX6 7 "RoadShut$Row" "width" "I" ∈ GW := gw_t5 (List.mem_of_getElem? (i := 134) rfl) rfl
theorem fl_X9_371 : Cond.fieldLink RX9 371 "RoadShut$Row" "width" "I" ∈ GW := gw_t5 (List.mem_of_getElem? (i := 135) rfl) rfl
theorem fl_X6_19 : Cond.fieldLink RX6 19 "RoadShut$Row" "numbers" "[J" ∈ GW := gw_t5 (List.mem_of_getElem? (i := 136) rfl) rfl
theorem fl_X9_315 : Cond.fieldLink RX9 315 "RoadShut$Row" "numbers" "[J" ∈ GW := gw_t5 (List.mem_of_getElem? (i := 137) rfl) rfl
theorem ly_X6_width : Cond.laysFinal RX6 "RoadShut$Row" "width" "I" ∈ GW := gw_t5 (List.mem_of_getElem? (i := 138) rfl) rfl
theorem ly_X6_numbers : Cond.laysFinal RX6 "RoadShut$Row" "numbers" "[J" ∈ GW := gw_t5 (List.mem_of_getElem? (i := 140) rfl) rfl
theorem ml_L_220 : Cond.methodLink RL 220 yX9_write ∈ GW := gw_t5 (List.mem_of_getElem? (i := 143) rfl) rfl
theorem im_X9_write : Cond.instanceMethod yX9_write ∈ GW := gw_t5 (List.mem_of_getElem? (i := 144) rfl) rfl
theorem se_X9_write : Cond.selects RX9 yX9_write yX9_write ∈ GW := gw_t5 (List.mem_of_getElem? (i := 145) rfl) rfl
theorem co_X9_write : Cond.code yX9_write cX9_write 6 (some .int) ∈ GW := gw_t5 (List.mem_of_getElem? (i := 146) rfl) rfl
theorem ml_X9_367 : Cond.methodLink RX9 367 yX6_narrowed ∈ GW := gw_t5 (List.mem_of_getElem? (i := 147) rfl) rfl
theorem im_X6_narrowed : Cond.instanceMethod yX6_narrowed ∈ GW := gw_t5 (List.mem_of_getElem? (i := 148) rfl) rfl
theorem se_X6_narrowed : Cond.selects RX6 yX6_narrowed yX6_narrowed ∈ GW := gw_t5 (List.mem_of_getElem? (i := 149) rfl) rfl
theorem co_X6_narrowed : Cond.code yX6_narrowed cX6_narrowed 3 (some .long) ∈ GW := gw_t5 (List.mem_of_getElem? (i := 150) rfl) rfl
theorem ml_L_225 : Cond.methodLink RL 225 yX9_paste ∈ GW := gw_t5 (List.mem_of_getElem? (i := 151) rfl) rfl
theorem im_X9_paste : Cond.instanceMethod yX9_paste ∈ GW := gw_t5 (List.mem_of_getElem? (i := 152) rfl) rfl
theorem se_X9_paste : Cond.selects RX9 yX9_paste yX9_paste ∈ GW := gw_t5 (List.mem_of_getElem? (i := 153) rfl) rfl
theorem co_X9_paste : Cond.code yX9_paste cX9_paste 8 (some .int) ∈ GW := gw_t5 (List.mem_of_getElem? (i := 154) rfl) rfl
theorem ml_X9_374 : Cond.methodLink RX9 374 yX6_has ∈ GW := gw_t5 (List.mem_of_getElem? (i := 155) rfl) rfl
theorem im_X6_has : Cond.instanceMethod yX6_has ∈ GW := gw_t5 (List.mem_of_getElem? (i := 156) rfl) rfl
theorem se_X6_has : Cond.selects RX6 yX6_has yX6_has ∈ GW := gw_t5 (List.mem_of_getElem? (i := 157) rfl) rfl
theorem co_X6_has : Cond.code yX6_has cX6_has 3 (some .boolean) ∈ GW := gw_t5 (List.mem_of_getElem? (i := 158) rfl) rfl
theorem ml_X9_377 : Cond.methodLink RX9 377 ⟨"java/lang/System", "arraycopy", "(Ljava/lang/Object;ILjava/lang/Object;II)V"⟩ ∈ GW := gw_t5 (List.mem_of_getElem? (i := 159) rfl) rfl
theorem cl_L_10 : Cond.classLink RL 10 RX10 ∈ GW := gw_t5 (List.mem_of_getElem? (i := 160) rfl) rfl
theorem ins_X10 : Cond.instantiable RX10 43 ∈ GW := gw_t5 (List.mem_of_getElem? (i := 161) rfl) rfl
theorem ml_L_12 : Cond.methodLink RL 12 yX10_init ∈ GW := gw_t5 (List.mem_of_getElem? (i := 162) rfl) rfl
theorem im_X10_init : Cond.instanceMethod yX10_init ∈ GW := gw_t5 (List.mem_of_getElem? (i := 163) rfl) rfl
theorem co_X10_init : Cond.code yX10_init cX10_init 2 none ∈ GW := gw_t5 (List.mem_of_getElem? (i := 164) rfl) rfl
theorem ml_X10_1 : Cond.methodLink RX10 1 ⟨"java/lang/Object", "<init>", "()V"⟩ ∈ GW := gw_t5 (List.mem_of_getElem? (i := 165) rfl) rfl
theorem ki_X10_98 : Cond.constant RX10 98 (75000) ∈ GW := gw_t5 (List.mem_of_getElem? (i := 166) rfl) rfl
theorem fl_X10_111 : Cond.fieldLink RX10 111 "RoadShutModel" "thrown" "I" ∈ GW := gw_t5 (List.mem_of_getElem? (i := 167) rfl) rfl
theorem fl_X10_7 : Cond.fieldLink RX10 7 "RoadShutModel" "width" "[I" ∈ GW := gw_t5 (List.mem_of_getElem? (i := 168) rfl) rfl
theorem fl_X10_13 : Cond.fieldLink RX10 13 "RoadShutModel" "many" "[I" ∈ GW := gw_t5 (List.mem_of_getElem? (i := 169) rfl) rfl
theorem fl_X10_16 : Cond.fieldLink RX10 16 "RoadShutModel" "cells" "[J" ∈ GW := gw_t5 (List.mem_of_getElem? (i := 170) rfl) rfl
theorem fl_X10_20 : Cond.fieldLink RX10 20 "RoadShutModel" "moved" "[J" ∈ GW := gw_t5 (List.mem_of_getElem? (i := 171) rfl) rfl
theorem fl_X10_23 : Cond.fieldLink RX10 23 "RoadShutModel" "tape" "[B" ∈ GW := gw_t5 (List.mem_of_getElem? (i := 172) rfl) rfl
theorem fl_X10_128 : Cond.fieldLink RX10 128 "RoadShutModel" "taped" "I" ∈ GW := gw_t5 (List.mem_of_getElem? (i := 173) rfl) rfl
theorem fl_X10_135 : Cond.fieldLink RX10 135 "RoadShutModel" "at" "I" ∈ GW := gw_t5 (List.mem_of_getElem? (i := 174) rfl) rfl
theorem fl_X10_152 : Cond.fieldLink RX10 152 "RoadShutModel" "token" "I" ∈ GW := gw_t5 (List.mem_of_getElem? (i := 175) rfl) rfl
theorem fl_X10_142 : Cond.fieldLink RX10 142 "RoadShutModel" "place" "I" ∈ GW := gw_t5 (List.mem_of_getElem? (i := 176) rfl) rfl
theorem fl_X10_145 : Cond.fieldLink RX10 145 "RoadShutModel" "value" "I" ∈ GW := gw_t5 (List.mem_of_getElem? (i := 177) rfl) rfl
theorem fl_X10_148 : Cond.fieldLink RX10 148 "RoadShutModel" "word" "J" ∈ GW := gw_t5 (List.mem_of_getElem? (i := 178) rfl) rfl
theorem fl_X10_163 : Cond.fieldLink RX10 163 "RoadShutModel" "bad" "I" ∈ GW := gw_t5 (List.mem_of_getElem? (i := 179) rfl) rfl
theorem fl_X10_166 : Cond.fieldLink RX10 166 "RoadShutModel" "badPlace" "I" ∈ GW := gw_t5 (List.mem_of_getElem? (i := 180) rfl) rfl
theorem fl_X10_190 : Cond.fieldLink RX10 190 "RoadShutModel" "fault" "I" ∈ GW := gw_t5 (List.mem_of_getElem? (i := 181) rfl) rfl
theorem fl_X10_27 : Cond.fieldLink RX10 27 "RoadShutModel" "faultPlace" "I" ∈ GW := gw_t5 (List.mem_of_getElem? (i := 182) rfl) rfl
theorem fl_X10_31 : Cond.fieldLink RX10 31 "RoadShutModel" "lines" "[I" ∈ GW := gw_t5 (List.mem_of_getElem? (i := 183) rfl) rfl
theorem fl_X10_34 : Cond.fieldLink RX10 34 "RoadShutModel" "winter" "[I" ∈ GW := gw_t5 (List.mem_of_getElem? (i := 184) rfl) rfl
theorem fl_X10_37 : Cond.fieldLink RX10 37 "RoadShutModel" "things" "[I" ∈ GW := gw_t5 (List.mem_of_getElem? (i := 185) rfl) rfl
theorem fl_X10_40 : Cond.fieldLink RX10 40 "RoadShutModel" "thing" "[I" ∈ GW := gw_t5 (List.mem_of_getElem? (i := 186) rfl) rfl
theorem fl_X10_43 : Cond.fieldLink RX10 43 "RoadShutModel" "valleys" "[I" ∈ GW := gw_t5 (List.mem_of_getElem? (i := 187) rfl) rfl
theorem fl_X10_46 : Cond.fieldLink RX10 46 "RoadShutModel" "valley" "[I" ∈ GW := gw_t5 (List.mem_of_getElem? (i := 188) rfl) rfl
theorem fl_X10_49 : Cond.fieldLink RX10 49 "RoadShutModel" "paths" "[I" ∈ GW := gw_t5 (List.mem_of_getElem? (i := 189) rfl) rfl
theorem fl_X10_52 : Cond.fieldLink RX10 52 "RoadShutModel" "path" "[I" ∈ GW := gw_t5 (List.mem_of_getElem? (i := 190) rfl) rfl
theorem fl_X10_55 : Cond.fieldLink RX10 55 "RoadShutModel" "set" "[I" ∈ GW := gw_t5 (List.mem_of_getElem? (i := 191) rfl) rfl
theorem fl_X10_58 : Cond.fieldLink RX10 58 "RoadShutModel" "once" "[Z" ∈ GW := gw_t5 (List.mem_of_getElem? (i := 192) rfl) rfl
theorem fl_X10_62 : Cond.fieldLink RX10 62 "RoadShutModel" "hasYear" "[I" ∈ GW := gw_t5 (List.mem_of_getElem? (i := 193) rfl) rfl
theorem fl_X10_65 : Cond.fieldLink RX10 65 "RoadShutModel" "year" "[I" ∈ GW := gw_t5 (List.mem_of_getElem? (i := 194) rfl) rfl
theorem fl_X10_68 : Cond.fieldLink RX10 68 "RoadShutModel" "isKept" "[Z" ∈ GW := gw_t5 (List.mem_of_getElem? (i := 195) rfl) rfl
theorem fl_X10_71 : Cond.fieldLink RX10 71 "RoadShutModel" "shutOn" "[J" ∈ GW := gw_t5 (List.mem_of_getElem? (i := 196) rfl) rfl
theorem fl_X10_74 : Cond.fieldLink RX10 74 "RoadShutModel" "twoSnow" "[J" ∈ GW := gw_t5 (List.mem_of_getElem? (i := 197) rfl) rfl
theorem fl_X10_77 : Cond.fieldLink RX10 77 "RoadShutModel" "twoClear" "[J" ∈ GW := gw_t5 (List.mem_of_getElem? (i := 198) rfl) rfl
theorem fl_X10_80 : Cond.fieldLink RX10 80 "RoadShutModel" "snowing" "[J" ∈ GW := gw_t5 (List.mem_of_getElem? (i := 199) rfl) rfl
theorem fl_X10_83 : Cond.fieldLink RX10 83 "RoadShutModel" "setSnow" "[J" ∈ GW := gw_t5 (List.mem_of_getElem? (i := 200) rfl) rfl
theorem fl_X10_86 : Cond.fieldLink RX10 86 "RoadShutModel" "setClear" "[J" ∈ GW := gw_t5 (List.mem_of_getElem? (i := 201) rfl) rfl
theorem fl_X10_89 : Cond.fieldLink RX10 89 "RoadShutModel" "split" "[J" ∈ GW := gw_t5 (List.mem_of_getElem? (i := 202) rfl) rfl
theorem fl_X10_92 : Cond.fieldLink RX10 92 "RoadShutModel" "costs" "[J" ∈ GW := gw_t5 (List.mem_of_getElem? (i := 203) rfl) rfl
theorem fl_X10_95 : Cond.fieldLink RX10 95 "RoadShutModel" "leastFrom" "[J" ∈ GW := gw_t5 (List.mem_of_getElem? (i := 204) rfl) rfl
theorem fl_X10_99 : Cond.fieldLink RX10 99 "RoadShutModel" "toCome" "[J" ∈ GW := gw_t5 (List.mem_of_getElem? (i := 205) rfl) rfl
theorem fl_X10_102 : Cond.fieldLink RX10 102 "RoadShutModel" "byWants" "[J" ∈ GW := gw_t5 (List.mem_of_getElem? (i := 206) rfl) rfl
theorem fl_X10_105 : Cond.fieldLink RX10 105 "RoadShutModel" "asked" "[I" ∈ GW := gw_t5 (List.mem_of_getElem? (i := 207) rfl) rfl
theorem fl_X10_108 : Cond.fieldLink RX10 108 "RoadShutModel" "drawnYear" "[I" ∈ GW := gw_t5 (List.mem_of_getElem? (i := 208) rfl) rfl
theorem fl_X10_478 : Cond.fieldLink RX10 478 "RoadShutModel" "x" "J" ∈ GW := gw_t5 (List.mem_of_getElem? (i := 209) rfl) rfl
theorem ly_X10_thrown : Cond.lays RX10 "RoadShutModel" "thrown" "I" ∈ GW := gw_t5 (List.mem_of_getElem? (i := 210) rfl) rfl
theorem ly_X10_width : Cond.laysFinal RX10 "RoadShutModel" "width" "[I" ∈ GW := gw_t5 (List.mem_of_getElem? (i := 212) rfl) rfl
theorem ly_X10_many : Cond.laysFinal RX10 "RoadShutModel" "many" "[I" ∈ GW := gw_t5 (List.mem_of_getElem? (i := 214) rfl) rfl
theorem ly_X10_cells : Cond.laysFinal RX10 "RoadShutModel" "cells" "[J" ∈ GW := gw_t5 (List.mem_of_getElem? (i := 216) rfl) rfl
theorem ly_X10_moved : Cond.laysFinal RX10 "RoadShutModel" "moved" "[J" ∈ GW := gw_t5 (List.mem_of_getElem? (i := 218) rfl) rfl
theorem ly_X10_tape : Cond.laysFinal RX10 "RoadShutModel" "tape" "[B" ∈ GW := gw_t5 (List.mem_of_getElem? (i := 220) rfl) rfl
theorem ly_X10_taped : Cond.lays RX10 "RoadShutModel" "taped" "I" ∈ GW := gw_t5 (List.mem_of_getElem? (i := 222) rfl) rfl
theorem ly_X10_at : Cond.lays RX10 "RoadShutModel" "at" "I" ∈ GW := gw_t5 (List.mem_of_getElem? (i := 224) rfl) rfl
theorem ly_X10_token : Cond.lays RX10 "RoadShutModel" "token" "I" ∈ GW := gw_t5 (List.mem_of_getElem? (i := 226) rfl) rfl
theorem ly_X10_place : Cond.lays RX10 "RoadShutModel" "place" "I" ∈ GW := gw_t5 (List.mem_of_getElem? (i := 228) rfl) rfl
theorem ly_X10_value : Cond.lays RX10 "RoadShutModel" "value" "I" ∈ GW := gw_t5 (List.mem_of_getElem? (i := 230) rfl) rfl
theorem ly_X10_word : Cond.lays RX10 "RoadShutModel" "word" "J" ∈ GW := gw_t5 (List.mem_of_getElem? (i := 232) rfl) rfl
theorem ly_X10_bad : Cond.lays RX10 "RoadShutModel" "bad" "I" ∈ GW := gw_t5 (List.mem_of_getElem? (i := 234) rfl) rfl
theorem ly_X10_badPlace : Cond.lays RX10 "RoadShutModel" "badPlace" "I" ∈ GW := gw_t5 (List.mem_of_getElem? (i := 236) rfl) rfl
theorem ly_X10_fault : Cond.lays RX10 "RoadShutModel" "fault" "I" ∈ GW := gw_t5 (List.mem_of_getElem? (i := 238) rfl) rfl
theorem ly_X10_faultPlace : Cond.lays RX10 "RoadShutModel" "faultPlace" "I" ∈ GW := gw_t6 (List.mem_of_getElem? (i := 0) rfl) rfl
theorem ly_X10_lines : Cond.laysFinal RX10 "RoadShutModel" "lines" "[I" ∈ GW := gw_t6 (List.mem_of_getElem? (i := 2) rfl) rfl
theorem ly_X10_winter : Cond.laysFinal RX10 "RoadShutModel" "winter" "[I" ∈ GW := gw_t6 (List.mem_of_getElem? (i := 4) rfl) rfl
theorem ly_X10_things : Cond.laysFinal RX10 "RoadShutModel" "things" "[I" ∈ GW := gw_t6 (List.mem_of_getElem? (i := 6) rfl) rfl
theorem ly_X10_thing : Cond.laysFinal RX10 "RoadShutModel" "thing" "[I" ∈ GW := gw_t6 (List.mem_of_getElem? (i := 8) rfl) rfl
theorem ly_X10_valleys : Cond.laysFinal RX10 "RoadShutModel" "valleys" "[I" ∈ GW := gw_t6 (List.mem_of_getElem? (i := 10) rfl) rfl
theorem ly_X10_valley : Cond.laysFinal RX10 "RoadShutModel" "valley" "[I" ∈ GW := gw_t6 (List.mem_of_getElem? (i := 12) rfl) rfl
theorem ly_X10_paths : Cond.laysFinal RX10 "RoadShutModel" "paths" "[I" ∈ GW := gw_t6 (List.mem_of_getElem? (i := 14) rfl) rfl
theorem ly_X10_path : Cond.laysFinal RX10 "RoadShutModel" "path" "[I" ∈ GW := gw_t6 (List.mem_of_getElem? (i := 16) rfl) rfl
theorem ly_X10_set : Cond.laysFinal RX10 "RoadShutModel" "set" "[I" ∈ GW := gw_t6 (List.mem_of_getElem? (i := 18) rfl) rfl
theorem ly_X10_once : Cond.laysFinal RX10 "RoadShutModel" "once" "[Z" ∈ GW := gw_t6 (List.mem_of_getElem? (i := 20) rfl) rfl
theorem ly_X10_hasYear : Cond.laysFinal RX10 "RoadShutModel" "hasYear" "[I" ∈ GW := gw_t6 (List.mem_of_getElem? (i := 22) rfl) rfl
theorem ly_X10_year : Cond.laysFinal RX10 "RoadShutModel" "year" "[I" ∈ GW := gw_t6 (List.mem_of_getElem? (i := 24) rfl) rfl
theorem ly_X10_isKept : Cond.laysFinal RX10 "RoadShutModel" "isKept" "[Z" ∈ GW := gw_t6 (List.mem_of_getElem? (i := 26) rfl) rfl
theorem ly_X10_shutOn : Cond.laysFinal RX10 "RoadShutModel" "shutOn" "[J" ∈ GW := gw_t6 (List.mem_of_getElem? (i := 28) rfl) rfl
theorem ly_X10_twoSnow : Cond.laysFinal RX10 "RoadShutModel" "twoSnow" "[J" ∈ GW := gw_t6 (List.mem_of_getElem? (i := 30) rfl) rfl
theorem ly_X10_twoClear : Cond.laysFinal RX10 "RoadShutModel" "twoClear" "[J" ∈ GW := gw_t6 (List.mem_of_getElem? (i := 32) rfl) rfl
theorem ly_X10_snowing : Cond.laysFinal RX10 "RoadShutModel" "snowing" "[J" ∈ GW := gw_t6 (List.mem_of_getElem? (i := 34) rfl) rfl
theorem ly_X10_setSnow : Cond.laysFinal RX10 "RoadShutModel" "setSnow" "[J" ∈ GW := gw_t6 (List.mem_of_getElem? (i := 36) rfl) rfl
theorem ly_X10_setClear : Cond.laysFinal RX10 "RoadShutModel" "setClear" "[J" ∈ GW := gw_t6 (List.mem_of_getElem? (i := 38) rfl) rfl
theorem ly_X10_split : Cond.laysFinal RX10 "RoadShutModel" "split" "[J" ∈ GW := gw_t6 (List.mem_of_getElem? (i := 40) rfl) rfl
theorem ly_X10_costs : Cond.laysFinal RX10 "RoadShutModel" "costs" "[J" ∈ GW := gw_t6 (List.mem_of_getElem? (i := 42) rfl) rfl
theorem ly_X10_leastFrom : Cond.laysFinal RX10 "RoadShutModel" "leastFrom" "[J" ∈ GW := gw_t6 (List.mem_of_getElem? (i := 44) rfl) rfl
theorem ly_X10_toCome : Cond.laysFinal RX10 "RoadShutModel" "toCome" "[J" ∈ GW := gw_t6 (List.mem_of_getElem? (i := 46) rfl) rfl
theorem ly_X10_byWants : Cond.laysFinal RX10 "RoadShutModel" "byWants" "[J" ∈ GW := gw_t6 (List.mem_of_getElem? (i := 48) rfl) rfl
theorem ly_X10_asked : Cond.laysFinal RX10 "RoadShutModel" "asked" "[I" ∈ GW := gw_t6 (List.mem_of_getElem? (i := 50) rfl) rfl
theorem ly_X10_drawnYear : Cond.laysFinal RX10 "RoadShutModel" "drawnYear" "[I" ∈ GW := gw_t6 (List.mem_of_getElem? (i := 52) rfl) rfl
theorem ly_X10_x : Cond.lays RX10 "RoadShutModel" "x" "J" ∈ GW := gw_t6 (List.mem_of_getElem? (i := 54) rfl) rfl
theorem ac_boolean : Cond.arrayClass .boolean ∈ GW := gw_t6 (List.mem_of_getElem? (i := 57) rfl) rfl
theorem ml_L_217 : Cond.methodLink RL 217 yX10_row ∈ GW := gw_t6 (List.mem_of_getElem? (i := 58) rfl) rfl
theorem im_X10_row : Cond.instanceMethod yX10_row ∈ GW := gw_t6 (List.mem_of_getElem? (i := 59) rfl) rfl
theorem se_X10_row : Cond.selects RX10 yX10_row yX10_row ∈ GW := gw_t6 (List.mem_of_getElem? (i := 60) rfl) rfl
theorem co_X10_row : Cond.code yX10_row cX10_row 5 (some .int) ∈ GW := gw_t6 (List.mem_of_getElem? (i := 61) rfl) rfl
theorem ml_X10_120 : Cond.methodLink RX10 120 yX10_isSlot ∈ GW := gw_t6 (List.mem_of_getElem? (i := 62) rfl) rfl
theorem st_X10_isSlot : Cond.static yX10_isSlot ∈ GW := gw_t6 (List.mem_of_getElem? (i := 63) rfl) rfl
theorem co_X10_isSlot : Cond.code yX10_isSlot cX10_isSlot 1 (some .boolean) ∈ GW := gw_t6 (List.mem_of_getElem? (i := 64) rfl) rfl
theorem kl_X10_114 : Cond.constantLong RX10 114 (3) ∈ GW := gw_t6 (List.mem_of_getElem? (i := 65) rfl) rfl
theorem ml_X10_116 : Cond.methodLink RX10 116 yX10_in ∈ GW := gw_t6 (List.mem_of_getElem? (i := 66) rfl) rfl
theorem st_X10_in : Cond.static yX10_in ∈ GW := gw_t6 (List.mem_of_getElem? (i := 67) rfl) rfl
theorem co_X10_in : Cond.code yX10_in cX10_in 6 (some .boolean) ∈ GW := gw_t6 (List.mem_of_getElem? (i := 68) rfl) rfl
theorem ml_L_224 : Cond.methodLink RL 224 yX10_write ∈ GW := gw_t6 (List.mem_of_getElem? (i := 69) rfl) rfl
theorem im_X10_write : Cond.instanceMethod yX10_write ∈ GW := gw_t6 (List.mem_of_getElem? (i := 70) rfl) rfl
theorem se_X10_write : Cond.selects RX10 yX10_write yX10_write ∈ GW := gw_t6 (List.mem_of_getElem? (i := 71) rfl) rfl
theorem co_X10_write : Cond.code yX10_write cX10_write 5 (some .int) ∈ GW := gw_t6 (List.mem_of_getElem? (i := 72) rfl) rfl
theorem ml_X10_124 : Cond.methodLink RX10 124 yX10_cut ∈ GW := gw_t6 (List.mem_of_getElem? (i := 73) rfl) rfl
theorem st_X10_cut : Cond.static yX10_cut ∈ GW := gw_t6 (List.mem_of_getElem? (i := 74) rfl) rfl
theorem co_X10_cut : Cond.code yX10_cut cX10_cut 3 (some .long) ∈ GW := gw_t6 (List.mem_of_getElem? (i := 75) rfl) rfl
theorem ml_L_228 : Cond.methodLink RL 228 yX10_paste ∈ GW := gw_t6 (List.mem_of_getElem? (i := 76) rfl) rfl
theorem im_X10_paste : Cond.instanceMethod yX10_paste ∈ GW := gw_t6 (List.mem_of_getElem? (i := 77) rfl) rfl
theorem se_X10_paste : Cond.selects RX10 yX10_paste yX10_paste ∈ GW := gw_t6 (List.mem_of_getElem? (i := 78) rfl) rfl
theorem co_X10_paste : Cond.code yX10_paste cX10_paste 7 (some .int) ∈ GW := gw_t6 (List.mem_of_getElem? (i := 79) rfl) rfl
theorem ml_L_17 : Cond.methodLink RL 17 yX10_feed ∈ GW := gw_t6 (List.mem_of_getElem? (i := 80) rfl) rfl
theorem im_X10_feed : Cond.instanceMethod yX10_feed ∈ GW := gw_t6 (List.mem_of_getElem? (i := 81) rfl) rfl
theorem se_X10_feed : Cond.selects RX10 yX10_feed yX10_feed ∈ GW := gw_t6 (List.mem_of_getElem? (i := 82) rfl) rfl
theorem co_X10_feed : Cond.code yX10_feed cX10_feed 6 (some .int) ∈ GW := gw_t6 (List.mem_of_getElem? (i := 83) rfl) rfl
theorem ml_X10_131 : Cond.methodLink RX10 131 yX10_four ∈ GW := gw_t6 (List.mem_of_getElem? (i := 84) rfl) rfl
theorem im_X10_four : Cond.instanceMethod yX10_four ∈ GW := gw_t6 (List.mem_of_getElem? (i := 86) rfl) rfl
theorem co_X10_four : Cond.code yX10_four cX10_four 3 none ∈ GW := gw_t6 (List.mem_of_getElem? (i := 87) rfl) rfl
theorem ml_L_22 : Cond.methodLink RL 22 yX10_end ∈ GW := gw_t6 (List.mem_of_getElem? (i := 88) rfl) rfl
theorem im_X10_end : Cond.instanceMethod yX10_end ∈ GW := gw_t6 (List.mem_of_getElem? (i := 89) rfl) rfl
theorem se_X10_end : Cond.selects RX10 yX10_end yX10_end ∈ GW := gw_t6 (List.mem_of_getElem? (i := 90) rfl) rfl
theorem co_X10_end : Cond.code yX10_end cX10_end 2 (some .int) ∈ GW := gw_t6 (List.mem_of_getElem? (i := 91) rfl) rfl
theorem ml_L_31 : Cond.methodLink RL 31 yX10_fault ∈ GW := gw_t6 (List.mem_of_getElem? (i := 92) rfl) rfl
theorem im_X10_fault : Cond.instanceMethod yX10_fault ∈ GW := gw_t6 (List.mem_of_getElem? (i := 93) rfl) rfl
theorem se_X10_fault : Cond.selects RX10 yX10_fault yX10_fault ∈ GW := gw_t6 (List.mem_of_getElem? (i := 94) rfl) rfl
theorem co_X10_fault : Cond.code yX10_fault cX10_fault 2 (some .int) ∈ GW := gw_t6 (List.mem_of_getElem? (i := 95) rfl) rfl
theorem ml_L_27 : Cond.methodLink RL 27 yX10_land ∈ GW := gw_t6 (List.mem_of_getElem? (i := 96) rfl) rfl
theorem im_X10_land : Cond.instanceMethod yX10_land ∈ GW := gw_t6 (List.mem_of_getElem? (i := 97) rfl) rfl
theorem se_X10_land : Cond.selects RX10 yX10_land yX10_land ∈ GW := gw_t6 (List.mem_of_getElem? (i := 98) rfl) rfl
theorem co_X10_land : Cond.code yX10_land cX10_land 1 (some .int) ∈ GW := gw_t6 (List.mem_of_getElem? (i := 99) rfl) rfl
theorem ml_X10_248 : Cond.methodLink RX10 248 yX10_clears ∈ GW := gw_t6 (List.mem_of_getElem? (i := 100) rfl) rfl
theorem im_X10_clears : Cond.instanceMethod yX10_clears ∈ GW := gw_t6 (List.mem_of_getElem? (i := 102) rfl) rfl
theorem co_X10_clears : Cond.code yX10_clears cX10_clears 2 none ∈ GW := gw_t6 (List.mem_of_getElem? (i := 103) rfl) rfl
theorem ml_X10_251 : Cond.methodLink RX10 251 yX10_begins ∈ GW := gw_t6 (List.mem_of_getElem? (i := 104) rfl) rfl
theorem im_X10_begins : Cond.instanceMethod yX10_begins ∈ GW := gw_t6 (List.mem_of_getElem? (i := 106) rfl) rfl
theorem co_X10_begins : Cond.code yX10_begins cX10_begins 1 none ∈ GW := gw_t6 (List.mem_of_getElem? (i := 107) rfl) rfl
theorem ml_X10_173 : Cond.methodLink RX10 173 yX10_next ∈ GW := gw_t6 (List.mem_of_getElem? (i := 108) rfl) rfl
theorem im_X10_next : Cond.instanceMethod yX10_next ∈ GW := gw_t6 (List.mem_of_getElem? (i := 110) rfl) rfl
theorem co_X10_next : Cond.code yX10_next cX10_next 2 none ∈ GW := gw_t6 (List.mem_of_getElem? (i := 111) rfl) rfl
theorem ml_X10_138 : Cond.methodLink RX10 138 yX10_isByte ∈ GW := gw_t6 (List.mem_of_getElem? (i := 112) rfl) rfl
theorem im_X10_isByte : Cond.instanceMethod yX10_isByte ∈ GW := gw_t6 (List.mem_of_getElem? (i := 114) rfl) rfl
theorem co_X10_isByte : Cond.code yX10_isByte cX10_isByte 4 (some .boolean) ∈ GW := gw_t6 (List.mem_of_getElem? (i := 115) rfl) rfl
theorem kl_X10_155 : Cond.constantLong RX10 155 (-1) ∈ GW := gw_t6 (List.mem_of_getElem? (i := 116) rfl) rfl
theorem kl_X10_157 : Cond.constantLong RX10 157 (27) ∈ GW := gw_t6 (List.mem_of_getElem? (i := 117) rfl) rfl
theorem kl_X10_159 : Cond.constantLong RX10 159 (96) ∈ GW := gw_t6 (List.mem_of_getElem? (i := 118) rfl) rfl
theorem ki_X10_161 : Cond.constant RX10 161 (100000) ∈ GW := gw_t6 (List.mem_of_getElem? (i := 119) rfl) rfl
theorem ki_X10_162 : Cond.constant RX10 162 (1000000) ∈ GW := gw_t6 (List.mem_of_getElem? (i := 120) rfl) rfl
theorem ml_X10_254 : Cond.methodLink RX10 254 yX10_isGood ∈ GW := gw_t6 (List.mem_of_getElem? (i := 121) rfl) rfl
theorem im_X10_isGood : Cond.instanceMethod yX10_isGood ∈ GW := gw_t6 (List.mem_of_getElem? (i := 123) rfl) rfl
theorem co_X10_isGood : Cond.code yX10_isGood cX10_isGood 1 (some .boolean) ∈ GW := gw_t6 (List.mem_of_getElem? (i := 124) rfl) rfl
theorem ml_X10_258 : Cond.methodLink RX10 258 yX10_winterLine ∈ GW := gw_t6 (List.mem_of_getElem? (i := 125) rfl) rfl
theorem im_X10_winterLine : Cond.instanceMethod yX10_winterLine ∈ GW := gw_t6 (List.mem_of_getElem? (i := 127) rfl) rfl
theorem co_X10_winterLine : Cond.code yX10_winterLine cX10_winterLine 2 none ∈ GW := gw_t6 (List.mem_of_getElem? (i := 128) rfl) rfl
theorem kl_X10_193 : Cond.constantLong RX10 193 (335098125) ∈ GW := gw_t6 (List.mem_of_getElem? (i := 129) rfl) rfl
theorem ml_X10_182 : Cond.methodLink RX10 182 yX10_asks ∈ GW := gw_t6 (List.mem_of_getElem? (i := 130) rfl) rfl
theorem im_X10_asks : Cond.instanceMethod yX10_asks ∈ GW := gw_t6 (List.mem_of_getElem? (i := 132) rfl) rfl
theorem co_X10_asks : Cond.code yX10_asks cX10_asks 3 none ∈ GW := gw_t6 (List.mem_of_getElem? (i := 133) rfl) rfl
theorem ml_X10_176 : Cond.methodLink RX10 176 yX10_takes ∈ GW := gw_t6 (List.mem_of_getElem? (i := 134) rfl) rfl
theorem im_X10_takes : Cond.instanceMethod yX10_takes ∈ GW := gw_t6 (List.mem_of_getElem? (i := 136) rfl) rfl
theorem co_X10_takes : Cond.code yX10_takes cX10_takes 3 (some .boolean) ∈ GW := gw_t6 (List.mem_of_getElem? (i := 137) rfl) rfl
theorem ml_X10_169 : Cond.methodLink RX10 169 yX10_is ∈ GW := gw_t6 (List.mem_of_getElem? (i := 138) rfl) rfl
theorem im_X10_is : Cond.instanceMethod yX10_is ∈ GW := gw_t6 (List.mem_of_getElem? (i := 140) rfl) rfl
theorem co_X10_is : Cond.code yX10_is cX10_is 3 (some .boolean) ∈ GW := gw_t6 (List.mem_of_getElem? (i := 141) rfl) rfl
theorem ml_X10_179 : Cond.methodLink RX10 179 yX10_fails ∈ GW := gw_t6 (List.mem_of_getElem? (i := 142) rfl) rfl
theorem im_X10_fails : Cond.instanceMethod yX10_fails ∈ GW := gw_t6 (List.mem_of_getElem? (i := 144) rfl) rfl
theorem co_X10_fails : Cond.code yX10_fails cX10_fails 2 none ∈ GW := gw_t6 (List.mem_of_getElem? (i := 145) rfl) rfl
theorem kl_X10_195 : Cond.constantLong RX10 195 (80155) ∈ GW := gw_t6 (List.mem_of_getElem? (i := 146) rfl) rfl
theorem ml_X10_197 : Cond.methodLink RX10 197 yX10_number_ ∈ GW := gw_t6 (List.mem_of_getElem? (i := 147) rfl) rfl
theorem im_X10_number_ : Cond.instanceMethod yX10_number_ ∈ GW := gw_t6 (List.mem_of_getElem? (i := 149) rfl) rfl
theorem co_X10_number_ : Cond.code yX10_number_ cX10_number_ 5 (some .int) ∈ GW := gw_t6 (List.mem_of_getElem? (i := 150) rfl) rfl
theorem ml_X10_186 : Cond.methodLink RX10 186 yX10_number ∈ GW := gw_t6 (List.mem_of_getElem? (i := 151) rfl) rfl
theorem im_X10_number : Cond.instanceMethod yX10_number ∈ GW := gw_t6 (List.mem_of_getElem? (i := 153) rfl) rfl
theorem co_X10_number : Cond.code yX10_number cX10_number 4 (some .int) ∈ GW := gw_t6 (List.mem_of_getElem? (i := 154) rfl) rfl
theorem kl_X10_200 : Cond.constantLong RX10 200 (3379448) ∈ GW := gw_t6 (List.mem_of_getElem? (i := 155) rfl) rfl
theorem kl_X10_202 : Cond.constantLong RX10 202 (384611) ∈ GW := gw_t6 (List.mem_of_getElem? (i := 156) rfl) rfl
theorem kl_X10_204 : Cond.constantLong RX10 204 (1834209) ∈ GW := gw_t6 (List.mem_of_getElem? (i := 157) rfl) rfl
theorem ml_X10_261 : Cond.methodLink RX10 261 yX10_line ∈ GW := gw_t6 (List.mem_of_getElem? (i := 158) rfl) rfl
theorem im_X10_line : Cond.instanceMethod yX10_line ∈ GW := gw_t6 (List.mem_of_getElem? (i := 160) rfl) rfl
theorem co_X10_line : Cond.code yX10_line cX10_line 4 none ∈ GW := gw_t6 (List.mem_of_getElem? (i := 161) rfl) rfl
theorem kl_X10_224 : Cond.constantLong RX10 224 (6686170) ∈ GW := gw_t6 (List.mem_of_getElem? (i := 162) rfl) rfl
theorem kl_X10_226 : Cond.constantLong RX10 226 (8740364) ∈ GW := gw_t6 (List.mem_of_getElem? (i := 163) rfl) rfl
theorem kl_X10_228 : Cond.constantLong RX10 228 (271517) ∈ GW := gw_t6 (List.mem_of_getElem? (i := 164) rfl) rfl
theorem ml_X10_230 : Cond.methodLink RX10 230 yX10_onceLine ∈ GW := gw_t6 (List.mem_of_getElem? (i := 165) rfl) rfl
theorem im_X10_onceLine : Cond.instanceMethod yX10_onceLine ∈ GW := gw_t6 (List.mem_of_getElem? (i := 167) rfl) rfl
theorem co_X10_onceLine : Cond.code yX10_onceLine cX10_onceLine 3 none ∈ GW := gw_t6 (List.mem_of_getElem? (i := 168) rfl) rfl
theorem kl_X10_218 : Cond.constantLong RX10 218 (257011) ∈ GW := gw_t6 (List.mem_of_getElem? (i := 169) rfl) rfl
theorem kl_X10_220 : Cond.constantLong RX10 220 (1627639) ∈ GW := gw_t6 (List.mem_of_getElem? (i := 170) rfl) rfl
theorem kl_X10_222 : Cond.constantLong RX10 222 (70517) ∈ GW := gw_t6 (List.mem_of_getElem? (i := 171) rfl) rfl
theorem kl_X10_233 : Cond.constantLong RX10 233 (10793230) ∈ GW := gw_t6 (List.mem_of_getElem? (i := 172) rfl) rfl
theorem kl_X10_235 : Cond.constantLong RX10 235 (316452499) ∈ GW := gw_t6 (List.mem_of_getElem? (i := 173) rfl) rfl
theorem kl_X10_237 : Cond.constantLong RX10 237 (316205) ∈ GW := gw_t6 (List.mem_of_getElem? (i := 174) rfl) rfl
theorem ml_X10_239 : Cond.methodLink RX10 239 yX10_thingLine ∈ GW := gw_t6 (List.mem_of_getElem? (i := 175) rfl) rfl
theorem im_X10_thingLine : Cond.instanceMethod yX10_thingLine ∈ GW := gw_t6 (List.mem_of_getElem? (i := 177) rfl) rfl
theorem co_X10_thingLine : Cond.code yX10_thingLine cX10_thingLine 2 none ∈ GW := gw_t6 (List.mem_of_getElem? (i := 178) rfl) rfl
theorem kl_X10_206 : Cond.constantLong RX10 206 (8863997) ∈ GW := gw_t6 (List.mem_of_getElem? (i := 179) rfl) rfl
theorem kl_X10_208 : Cond.constantLong RX10 208 (158692) ∈ GW := gw_t6 (List.mem_of_getElem? (i := 180) rfl) rfl
theorem kl_X10_210 : Cond.constantLong RX10 210 (40187) ∈ GW := gw_t6 (List.mem_of_getElem? (i := 181) rfl) rfl
theorem ml_X10_242 : Cond.methodLink RX10 242 yX10_valleyLine ∈ GW := gw_t6 (List.mem_of_getElem? (i := 182) rfl) rfl
theorem im_X10_valleyLine : Cond.instanceMethod yX10_valleyLine ∈ GW := gw_t6 (List.mem_of_getElem? (i := 184) rfl) rfl
theorem co_X10_valleyLine : Cond.code yX10_valleyLine cX10_valleyLine 3 none ∈ GW := gw_t6 (List.mem_of_getElem? (i := 185) rfl) rfl
theorem kl_X10_212 : Cond.constantLong RX10 212 (380396) ∈ GW := gw_t6 (List.mem_of_getElem? (i := 186) rfl) rfl
theorem kl_X10_214 : Cond.constantLong RX10 214 (365647) ∈ GW := gw_t6 (List.mem_of_getElem? (i := 187) rfl) rfl
theorem kl_X10_216 : Cond.constantLong RX10 216 (12253591) ∈ GW := gw_t6 (List.mem_of_getElem? (i := 188) rfl) rfl
theorem ml_X10_245 : Cond.methodLink RX10 245 yX10_pathLine ∈ GW := gw_t6 (List.mem_of_getElem? (i := 189) rfl) rfl
theorem im_X10_pathLine : Cond.instanceMethod yX10_pathLine ∈ GW := gw_t6 (List.mem_of_getElem? (i := 191) rfl) rfl
theorem co_X10_pathLine : Cond.code yX10_pathLine cX10_pathLine 6 none ∈ GW := gw_t6 (List.mem_of_getElem? (i := 192) rfl) rfl
theorem ml_X10_264 : Cond.methodLink RX10 264 yX10_ends ∈ GW := gw_t6 (List.mem_of_getElem? (i := 193) rfl) rfl
theorem im_X10_ends : Cond.instanceMethod yX10_ends ∈ GW := gw_t6 (List.mem_of_getElem? (i := 195) rfl) rfl
theorem co_X10_ends : Cond.code yX10_ends cX10_ends 1 none ∈ GW := gw_t6 (List.mem_of_getElem? (i := 196) rfl) rfl
theorem ml_X10_267 : Cond.methodLink RX10 267 yX10_isOver ∈ GW := gw_t6 (List.mem_of_getElem? (i := 197) rfl) rfl
theorem im_X10_isOver : Cond.instanceMethod yX10_isOver ∈ GW := gw_t6 (List.mem_of_getElem? (i := 199) rfl) rfl
theorem co_X10_isOver : Cond.code yX10_isOver cX10_isOver 1 none ∈ GW := gw_t6 (List.mem_of_getElem? (i := 200) rfl) rfl
theorem ml_X10_270 : Cond.methodLink RX10 270 yX10_copyLand ∈ GW := gw_t6 (List.mem_of_getElem? (i := 201) rfl) rfl
theorem im_X10_copyLand : Cond.instanceMethod yX10_copyLand ∈ GW := gw_t6 (List.mem_of_getElem? (i := 203) rfl) rfl
theorem co_X10_copyLand : Cond.code yX10_copyLand cX10_copyLand 3 none ∈ GW := gw_t6 (List.mem_of_getElem? (i := 204) rfl) rfl
theorem ml_X10_274 : Cond.methodLink RX10 274 yX10_copyRow ∈ GW := gw_t6 (List.mem_of_getElem? (i := 205) rfl) rfl
theorem st_X10_copyRow : Cond.static yX10_copyRow ∈ GW := gw_t6 (List.mem_of_getElem? (i := 206) rfl) rfl
theorem co_X10_copyRow : Cond.code yX10_copyRow cX10_copyRow 5 none ∈ GW := gw_t6 (List.mem_of_getElem? (i := 207) rfl) rfl
theorem ml_L_36 : Cond.methodLink RL 36 yX10_shuts ∈ GW := gw_t6 (List.mem_of_getElem? (i := 208) rfl) rfl
theorem im_X10_shuts : Cond.instanceMethod yX10_shuts ∈ GW := gw_t6 (List.mem_of_getElem? (i := 209) rfl) rfl
theorem se_X10_shuts : Cond.selects RX10 yX10_shuts yX10_shuts ∈ GW := gw_t6 (List.mem_of_getElem? (i := 210) rfl) rfl
theorem co_X10_shuts : Cond.code yX10_shuts cX10_shuts 3 (some .long) ∈ GW := gw_t6 (List.mem_of_getElem? (i := 211) rfl) rfl
theorem ml_X10_297 : Cond.methodLink RX10 297 yX10_isValley ∈ GW := gw_t6 (List.mem_of_getElem? (i := 212) rfl) rfl
theorem im_X10_isValley : Cond.instanceMethod yX10_isValley ∈ GW := gw_t6 (List.mem_of_getElem? (i := 214) rfl) rfl
theorem co_X10_isValley : Cond.code yX10_isValley cX10_isValley 2 (some .boolean) ∈ GW := gw_t6 (List.mem_of_getElem? (i := 215) rfl) rfl
theorem ml_X10_278 : Cond.methodLink RX10 278 yX10_lastDay ∈ GW := gw_t6 (List.mem_of_getElem? (i := 216) rfl) rfl
theorem im_X10_lastDay : Cond.instanceMethod yX10_lastDay ∈ GW := gw_t6 (List.mem_of_getElem? (i := 218) rfl) rfl
theorem co_X10_lastDay : Cond.code yX10_lastDay cX10_lastDay 1 (some .int) ∈ GW := gw_t6 (List.mem_of_getElem? (i := 219) rfl) rfl
theorem kl_X10_300 : Cond.constantLong RX10 300 (-2) ∈ GW := gw_t6 (List.mem_of_getElem? (i := 220) rfl) rfl
theorem ml_X10_302 : Cond.methodLink RX10 302 yX10_splits ∈ GW := gw_t6 (List.mem_of_getElem? (i := 221) rfl) rfl
theorem im_X10_splits : Cond.instanceMethod yX10_splits ∈ GW := gw_t6 (List.mem_of_getElem? (i := 223) rfl) rfl
theorem co_X10_splits : Cond.code yX10_splits cX10_splits 11 none ∈ GW := gw_t6 (List.mem_of_getElem? (i := 224) rfl) rfl
theorem kl_X10_284 : Cond.constantLong RX10 284 (1000000000000) ∈ GW := gw_t6 (List.mem_of_getElem? (i := 225) rfl) rfl
theorem ml_X10_286 : Cond.methodLink RX10 286 yX10_chance ∈ GW := gw_t6 (List.mem_of_getElem? (i := 226) rfl) rfl
theorem im_X10_chance : Cond.instanceMethod yX10_chance ∈ GW := gw_t6 (List.mem_of_getElem? (i := 228) rfl) rfl
theorem co_X10_chance : Cond.code yX10_chance cX10_chance 3 (some .int) ∈ GW := gw_t6 (List.mem_of_getElem? (i := 229) rfl) rfl
theorem ml_X10_290 : Cond.methodLink RX10 290 yX10_hundredths ∈ GW := gw_t6 (List.mem_of_getElem? (i := 230) rfl) rfl
theorem st_X10_hundredths : Cond.static yX10_hundredths ∈ GW := gw_t6 (List.mem_of_getElem? (i := 231) rfl) rfl
theorem co_X10_hundredths : Cond.code yX10_hundredths cX10_hundredths 3 (some .long) ∈ GW := gw_t6 (List.mem_of_getElem? (i := 232) rfl) rfl
theorem kl_X10_282 : Cond.constantLong RX10 282 (100) ∈ GW := gw_t6 (List.mem_of_getElem? (i := 233) rfl) rfl
theorem ml_X10_293 : Cond.methodLink RX10 293 yX10_shutOf ∈ GW := gw_t6 (List.mem_of_getElem? (i := 234) rfl) rfl
theorem im_X10_shutOf : Cond.instanceMethod yX10_shutOf ∈ GW := gw_t6 (List.mem_of_getElem? (i := 236) rfl) rfl
theorem co_X10_shutOf : Cond.code yX10_shutOf cX10_shutOf 2 (some .int) ∈ GW := gw_t6 (List.mem_of_getElem? (i := 237) rfl) rfl
theorem ml_L_40 : Cond.methodLink RL 40 yX10_by ∈ GW := gw_t6 (List.mem_of_getElem? (i := 238) rfl) rfl
theorem im_X10_by : Cond.instanceMethod yX10_by ∈ GW := gw_t6 (List.mem_of_getElem? (i := 239) rfl) rfl
theorem se_X10_by : Cond.selects RX10 yX10_by yX10_by ∈ GW := gw_t7 (List.mem_of_getElem? (i := 0) rfl) rfl
theorem co_X10_by : Cond.code yX10_by cX10_by 3 (some .long) ∈ GW := gw_t7 (List.mem_of_getElem? (i := 1) rfl) rfl
theorem ml_X10_305 : Cond.methodLink RX10 305 yX10_isDay ∈ GW := gw_t7 (List.mem_of_getElem? (i := 2) rfl) rfl
theorem im_X10_isDay : Cond.instanceMethod yX10_isDay ∈ GW := gw_t7 (List.mem_of_getElem? (i := 4) rfl) rfl
theorem co_X10_isDay : Cond.code yX10_isDay cX10_isDay 2 (some .boolean) ∈ GW := gw_t7 (List.mem_of_getElem? (i := 5) rfl) rfl
theorem ml_X10_308 : Cond.methodLink RX10 308 yX10_byDay ∈ GW := gw_t7 (List.mem_of_getElem? (i := 6) rfl) rfl
theorem im_X10_byDay : Cond.instanceMethod yX10_byDay ∈ GW := gw_t7 (List.mem_of_getElem? (i := 8) rfl) rfl
theorem co_X10_byDay : Cond.code yX10_byDay cX10_byDay 5 (some .long) ∈ GW := gw_t7 (List.mem_of_getElem? (i := 9) rfl) rfl
theorem ml_L_45 : Cond.methodLink RL 45 yX10_both ∈ GW := gw_t7 (List.mem_of_getElem? (i := 10) rfl) rfl
theorem im_X10_both : Cond.instanceMethod yX10_both ∈ GW := gw_t7 (List.mem_of_getElem? (i := 11) rfl) rfl
theorem se_X10_both : Cond.selects RX10 yX10_both yX10_both ∈ GW := gw_t7 (List.mem_of_getElem? (i := 12) rfl) rfl
theorem co_X10_both : Cond.code yX10_both cX10_both 5 (some .long) ∈ GW := gw_t7 (List.mem_of_getElem? (i := 13) rfl) rfl
theorem ml_X10_323 : Cond.methodLink RX10 323 yX10_areTwo ∈ GW := gw_t7 (List.mem_of_getElem? (i := 14) rfl) rfl
theorem im_X10_areTwo : Cond.instanceMethod yX10_areTwo ∈ GW := gw_t7 (List.mem_of_getElem? (i := 16) rfl) rfl
theorem co_X10_areTwo : Cond.code yX10_areTwo cX10_areTwo 3 (some .boolean) ∈ GW := gw_t7 (List.mem_of_getElem? (i := 17) rfl) rfl
theorem ml_X10_327 : Cond.methodLink RX10 327 yX10_splitsTwo ∈ GW := gw_t7 (List.mem_of_getElem? (i := 18) rfl) rfl
theorem im_X10_splitsTwo : Cond.instanceMethod yX10_splitsTwo ∈ GW := gw_t7 (List.mem_of_getElem? (i := 20) rfl) rfl
theorem co_X10_splitsTwo : Cond.code yX10_splitsTwo cX10_splitsTwo 11 none ∈ GW := gw_t7 (List.mem_of_getElem? (i := 21) rfl) rfl
theorem ml_X10_312 : Cond.methodLink RX10 312 yX10_at2 ∈ GW := gw_t7 (List.mem_of_getElem? (i := 22) rfl) rfl
theorem st_X10_at2 : Cond.static yX10_at2 ∈ GW := gw_t7 (List.mem_of_getElem? (i := 23) rfl) rfl
theorem co_X10_at2 : Cond.code yX10_at2 cX10_at2 2 (some .int) ∈ GW := gw_t7 (List.mem_of_getElem? (i := 24) rfl) rfl
theorem ml_X10_315 : Cond.methodLink RX10 315 yX10_falls ∈ GW := gw_t7 (List.mem_of_getElem? (i := 25) rfl) rfl
theorem im_X10_falls : Cond.instanceMethod yX10_falls ∈ GW := gw_t7 (List.mem_of_getElem? (i := 27) rfl) rfl
theorem co_X10_falls : Cond.code yX10_falls cX10_falls 10 none ∈ GW := gw_t7 (List.mem_of_getElem? (i := 28) rfl) rfl
theorem ml_X10_319 : Cond.methodLink RX10 319 yX10_fallsOther ∈ GW := gw_t7 (List.mem_of_getElem? (i := 29) rfl) rfl
theorem im_X10_fallsOther : Cond.instanceMethod yX10_fallsOther ∈ GW := gw_t7 (List.mem_of_getElem? (i := 31) rfl) rfl
theorem co_X10_fallsOther : Cond.code yX10_fallsOther cX10_fallsOther 9 none ∈ GW := gw_t7 (List.mem_of_getElem? (i := 32) rfl) rfl
theorem ml_X10_330 : Cond.methodLink RX10 330 yX10_two ∈ GW := gw_t7 (List.mem_of_getElem? (i := 33) rfl) rfl
theorem im_X10_two : Cond.instanceMethod yX10_two ∈ GW := gw_t7 (List.mem_of_getElem? (i := 35) rfl) rfl
theorem co_X10_two : Cond.code yX10_two cX10_two 3 (some .long) ∈ GW := gw_t7 (List.mem_of_getElem? (i := 36) rfl) rfl
theorem ml_L_49 : Cond.methodLink RL 49 yX10_together ∈ GW := gw_t7 (List.mem_of_getElem? (i := 37) rfl) rfl
theorem im_X10_together : Cond.instanceMethod yX10_together ∈ GW := gw_t7 (List.mem_of_getElem? (i := 38) rfl) rfl
theorem se_X10_together : Cond.selects RX10 yX10_together yX10_together ∈ GW := gw_t7 (List.mem_of_getElem? (i := 39) rfl) rfl
theorem co_X10_together : Cond.code yX10_together cX10_together 6 (some .long) ∈ GW := gw_t7 (List.mem_of_getElem? (i := 40) rfl) rfl
theorem ml_X10_337 : Cond.methodLink RX10 337 yX10_splitsAll ∈ GW := gw_t7 (List.mem_of_getElem? (i := 41) rfl) rfl
theorem im_X10_splitsAll : Cond.instanceMethod yX10_splitsAll ∈ GW := gw_t7 (List.mem_of_getElem? (i := 43) rfl) rfl
theorem co_X10_splitsAll : Cond.code yX10_splitsAll cX10_splitsAll 9 none ∈ GW := gw_t7 (List.mem_of_getElem? (i := 44) rfl) rfl
theorem ml_X10_334 : Cond.methodLink RX10 334 yX10_fallsOn ∈ GW := gw_t7 (List.mem_of_getElem? (i := 45) rfl) rfl
theorem im_X10_fallsOn : Cond.instanceMethod yX10_fallsOn ∈ GW := gw_t7 (List.mem_of_getElem? (i := 47) rfl) rfl
theorem co_X10_fallsOn : Cond.code yX10_fallsOn cX10_fallsOn 7 none ∈ GW := gw_t7 (List.mem_of_getElem? (i := 48) rfl) rfl
theorem ml_X10_340 : Cond.methodLink RX10 340 yX10_sizeOf ∈ GW := gw_t7 (List.mem_of_getElem? (i := 49) rfl) rfl
theorem st_X10_sizeOf : Cond.static yX10_sizeOf ∈ GW := gw_t7 (List.mem_of_getElem? (i := 50) rfl) rfl
theorem co_X10_sizeOf : Cond.code yX10_sizeOf cX10_sizeOf 3 (some .int) ∈ GW := gw_t7 (List.mem_of_getElem? (i := 51) rfl) rfl
theorem ml_L_53 : Cond.methodLink RL 53 yX10_set ∈ GW := gw_t7 (List.mem_of_getElem? (i := 52) rfl) rfl
theorem im_X10_set : Cond.instanceMethod yX10_set ∈ GW := gw_t7 (List.mem_of_getElem? (i := 53) rfl) rfl
theorem se_X10_set : Cond.selects RX10 yX10_set yX10_set ∈ GW := gw_t7 (List.mem_of_getElem? (i := 54) rfl) rfl
theorem co_X10_set : Cond.code yX10_set cX10_set 3 (some .long) ∈ GW := gw_t7 (List.mem_of_getElem? (i := 55) rfl) rfl
theorem ml_L_58 : Cond.methodLink RL 58 yX10_when ∈ GW := gw_t7 (List.mem_of_getElem? (i := 56) rfl) rfl
theorem im_X10_when : Cond.instanceMethod yX10_when ∈ GW := gw_t7 (List.mem_of_getElem? (i := 57) rfl) rfl
theorem se_X10_when : Cond.selects RX10 yX10_when yX10_when ∈ GW := gw_t7 (List.mem_of_getElem? (i := 58) rfl) rfl
theorem co_X10_when : Cond.code yX10_when cX10_when 4 (some .int) ∈ GW := gw_t7 (List.mem_of_getElem? (i := 59) rfl) rfl
theorem kl_X10_343 : Cond.constantLong RX10 343 (1000) ∈ GW := gw_t7 (List.mem_of_getElem? (i := 60) rfl) rfl
theorem kl_X10_345 : Cond.constantLong RX10 345 (1000000000) ∈ GW := gw_t7 (List.mem_of_getElem? (i := 61) rfl) rfl
theorem ml_L_63 : Cond.methodLink RL 63 yX10_wants ∈ GW := gw_t7 (List.mem_of_getElem? (i := 62) rfl) rfl
theorem im_X10_wants : Cond.instanceMethod yX10_wants ∈ GW := gw_t7 (List.mem_of_getElem? (i := 63) rfl) rfl
theorem se_X10_wants : Cond.selects RX10 yX10_wants yX10_wants ∈ GW := gw_t7 (List.mem_of_getElem? (i := 64) rfl) rfl
theorem co_X10_wants : Cond.code yX10_wants cX10_wants 4 (some .int) ∈ GW := gw_t7 (List.mem_of_getElem? (i := 65) rfl) rfl
theorem ml_X10_350 : Cond.methodLink RX10 350 yX10_isThing ∈ GW := gw_t7 (List.mem_of_getElem? (i := 66) rfl) rfl
theorem im_X10_isThing : Cond.instanceMethod yX10_isThing ∈ GW := gw_t7 (List.mem_of_getElem? (i := 68) rfl) rfl
theorem co_X10_isThing : Cond.code yX10_isThing cX10_isThing 2 (some .boolean) ∈ GW := gw_t7 (List.mem_of_getElem? (i := 69) rfl) rfl
theorem ml_X10_353 : Cond.methodLink RX10 353 yX10_wantsOf ∈ GW := gw_t7 (List.mem_of_getElem? (i := 70) rfl) rfl
theorem im_X10_wantsOf : Cond.instanceMethod yX10_wantsOf ∈ GW := gw_t7 (List.mem_of_getElem? (i := 72) rfl) rfl
theorem co_X10_wantsOf : Cond.code yX10_wantsOf cX10_wantsOf 4 (some .int) ∈ GW := gw_t7 (List.mem_of_getElem? (i := 73) rfl) rfl
theorem ml_X10_347 : Cond.methodLink RX10 347 yX10_wantOf ∈ GW := gw_t7 (List.mem_of_getElem? (i := 74) rfl) rfl
theorem im_X10_wantOf : Cond.instanceMethod yX10_wantOf ∈ GW := gw_t7 (List.mem_of_getElem? (i := 76) rfl) rfl
theorem co_X10_wantOf : Cond.code yX10_wantOf cX10_wantOf 3 (some .int) ∈ GW := gw_t7 (List.mem_of_getElem? (i := 77) rfl) rfl
theorem ml_L_68 : Cond.methodLink RL 68 yX10_cost ∈ GW := gw_t7 (List.mem_of_getElem? (i := 78) rfl) rfl
theorem im_X10_cost : Cond.instanceMethod yX10_cost ∈ GW := gw_t7 (List.mem_of_getElem? (i := 79) rfl) rfl
theorem se_X10_cost : Cond.selects RX10 yX10_cost yX10_cost ∈ GW := gw_t7 (List.mem_of_getElem? (i := 80) rfl) rfl
theorem co_X10_cost : Cond.code yX10_cost cX10_cost 4 (some .long) ∈ GW := gw_t7 (List.mem_of_getElem? (i := 81) rfl) rfl
theorem ml_X10_375 : Cond.methodLink RX10 375 yX10_isStore ∈ GW := gw_t7 (List.mem_of_getElem? (i := 82) rfl) rfl
theorem im_X10_isStore : Cond.instanceMethod yX10_isStore ∈ GW := gw_t7 (List.mem_of_getElem? (i := 84) rfl) rfl
theorem co_X10_isStore : Cond.code yX10_isStore cX10_isStore 4 (some .boolean) ∈ GW := gw_t7 (List.mem_of_getElem? (i := 85) rfl) rfl
theorem ml_X10_372 : Cond.methodLink RX10 372 yX10_areSacks ∈ GW := gw_t7 (List.mem_of_getElem? (i := 86) rfl) rfl
theorem im_X10_areSacks : Cond.instanceMethod yX10_areSacks ∈ GW := gw_t7 (List.mem_of_getElem? (i := 88) rfl) rfl
theorem co_X10_areSacks : Cond.code yX10_areSacks cX10_areSacks 2 (some .boolean) ∈ GW := gw_t7 (List.mem_of_getElem? (i := 89) rfl) rfl
theorem kl_X10_370 : Cond.constantLong RX10 370 (999) ∈ GW := gw_t7 (List.mem_of_getElem? (i := 90) rfl) rfl
theorem ml_X10_378 : Cond.methodLink RX10 378 yX10_costOf ∈ GW := gw_t7 (List.mem_of_getElem? (i := 91) rfl) rfl
theorem im_X10_costOf : Cond.instanceMethod yX10_costOf ∈ GW := gw_t7 (List.mem_of_getElem? (i := 93) rfl) rfl
theorem co_X10_costOf : Cond.code yX10_costOf cX10_costOf 7 (some .long) ∈ GW := gw_t7 (List.mem_of_getElem? (i := 94) rfl) rfl
theorem ml_X10_363 : Cond.methodLink RX10 363 yX10_priceOf ∈ GW := gw_t7 (List.mem_of_getElem? (i := 95) rfl) rfl
theorem im_X10_priceOf : Cond.instanceMethod yX10_priceOf ∈ GW := gw_t7 (List.mem_of_getElem? (i := 97) rfl) rfl
theorem co_X10_priceOf : Cond.code yX10_priceOf cX10_priceOf 2 (some .int) ∈ GW := gw_t7 (List.mem_of_getElem? (i := 98) rfl) rfl
theorem ml_X10_366 : Cond.methodLink RX10 366 yX10_outcome ∈ GW := gw_t7 (List.mem_of_getElem? (i := 99) rfl) rfl
theorem im_X10_outcome : Cond.instanceMethod yX10_outcome ∈ GW := gw_t7 (List.mem_of_getElem? (i := 101) rfl) rfl
theorem co_X10_outcome : Cond.code yX10_outcome cX10_outcome 4 (some .long) ∈ GW := gw_t7 (List.mem_of_getElem? (i := 102) rfl) rfl
theorem ml_X10_357 : Cond.methodLink RX10 357 yX10_harmOf ∈ GW := gw_t7 (List.mem_of_getElem? (i := 103) rfl) rfl
theorem im_X10_harmOf : Cond.instanceMethod yX10_harmOf ∈ GW := gw_t7 (List.mem_of_getElem? (i := 105) rfl) rfl
theorem co_X10_harmOf : Cond.code yX10_harmOf cX10_harmOf 2 (some .int) ∈ GW := gw_t7 (List.mem_of_getElem? (i := 106) rfl) rfl
theorem ml_X10_360 : Cond.methodLink RX10 360 yX10_backOf ∈ GW := gw_t7 (List.mem_of_getElem? (i := 107) rfl) rfl
theorem im_X10_backOf : Cond.instanceMethod yX10_backOf ∈ GW := gw_t7 (List.mem_of_getElem? (i := 109) rfl) rfl
theorem co_X10_backOf : Cond.code yX10_backOf cX10_backOf 2 (some .int) ∈ GW := gw_t7 (List.mem_of_getElem? (i := 110) rfl) rfl
theorem ml_L_72 : Cond.methodLink RL 72 yX10_worth ∈ GW := gw_t7 (List.mem_of_getElem? (i := 111) rfl) rfl
theorem im_X10_worth : Cond.instanceMethod yX10_worth ∈ GW := gw_t7 (List.mem_of_getElem? (i := 112) rfl) rfl
theorem se_X10_worth : Cond.selects RX10 yX10_worth yX10_worth ∈ GW := gw_t7 (List.mem_of_getElem? (i := 113) rfl) rfl
theorem co_X10_worth : Cond.code yX10_worth cX10_worth 4 (some .long) ∈ GW := gw_t7 (List.mem_of_getElem? (i := 114) rfl) rfl
theorem kl_X10_381 : Cond.constantLong RX10 381 (-1000000000000) ∈ GW := gw_t7 (List.mem_of_getElem? (i := 115) rfl) rfl
theorem ml_L_76 : Cond.methodLink RL 76 yX10_best ∈ GW := gw_t7 (List.mem_of_getElem? (i := 116) rfl) rfl
theorem im_X10_best : Cond.instanceMethod yX10_best ∈ GW := gw_t7 (List.mem_of_getElem? (i := 117) rfl) rfl
theorem se_X10_best : Cond.selects RX10 yX10_best yX10_best ∈ GW := gw_t7 (List.mem_of_getElem? (i := 118) rfl) rfl
theorem co_X10_best : Cond.code yX10_best cX10_best 3 (some .int) ∈ GW := gw_t7 (List.mem_of_getElem? (i := 119) rfl) rfl
theorem ml_X10_383 : Cond.methodLink RX10 383 yX10_bestOf ∈ GW := gw_t7 (List.mem_of_getElem? (i := 120) rfl) rfl
theorem im_X10_bestOf : Cond.instanceMethod yX10_bestOf ∈ GW := gw_t7 (List.mem_of_getElem? (i := 122) rfl) rfl
theorem co_X10_bestOf : Cond.code yX10_bestOf cX10_bestOf 9 (some .int) ∈ GW := gw_t7 (List.mem_of_getElem? (i := 123) rfl) rfl
theorem ml_L_80 : Cond.methodLink RL 80 yX10_sure ∈ GW := gw_t7 (List.mem_of_getElem? (i := 124) rfl) rfl
theorem im_X10_sure : Cond.instanceMethod yX10_sure ∈ GW := gw_t7 (List.mem_of_getElem? (i := 125) rfl) rfl
theorem se_X10_sure : Cond.selects RX10 yX10_sure yX10_sure ∈ GW := gw_t7 (List.mem_of_getElem? (i := 126) rfl) rfl
theorem co_X10_sure : Cond.code yX10_sure cX10_sure 4 (some .long) ∈ GW := gw_t7 (List.mem_of_getElem? (i := 127) rfl) rfl
theorem ml_X10_386 : Cond.methodLink RX10 386 yX10_lacking ∈ GW := gw_t7 (List.mem_of_getElem? (i := 128) rfl) rfl
theorem im_X10_lacking : Cond.instanceMethod yX10_lacking ∈ GW := gw_t7 (List.mem_of_getElem? (i := 130) rfl) rfl
theorem co_X10_lacking : Cond.code yX10_lacking cX10_lacking 7 (some .long) ∈ GW := gw_t7 (List.mem_of_getElem? (i := 131) rfl) rfl
theorem ml_L_84 : Cond.methodLink RL 84 yX10_need ∈ GW := gw_t7 (List.mem_of_getElem? (i := 132) rfl) rfl
theorem im_X10_need : Cond.instanceMethod yX10_need ∈ GW := gw_t7 (List.mem_of_getElem? (i := 133) rfl) rfl
theorem se_X10_need : Cond.selects RX10 yX10_need yX10_need ∈ GW := gw_t7 (List.mem_of_getElem? (i := 134) rfl) rfl
theorem co_X10_need : Cond.code yX10_need cX10_need 5 (some .int) ∈ GW := gw_t7 (List.mem_of_getElem? (i := 135) rfl) rfl
theorem ml_L_89 : Cond.methodLink RL 89 yX10_packed ∈ GW := gw_t7 (List.mem_of_getElem? (i := 136) rfl) rfl
theorem im_X10_packed : Cond.instanceMethod yX10_packed ∈ GW := gw_t7 (List.mem_of_getElem? (i := 137) rfl) rfl
theorem se_X10_packed : Cond.selects RX10 yX10_packed yX10_packed ∈ GW := gw_t7 (List.mem_of_getElem? (i := 138) rfl) rfl
theorem co_X10_packed : Cond.code yX10_packed cX10_packed 2 (some .long) ∈ GW := gw_t7 (List.mem_of_getElem? (i := 139) rfl) rfl
theorem ml_X10_389 : Cond.methodLink RX10 389 yX10_packs ∈ GW := gw_t7 (List.mem_of_getElem? (i := 140) rfl) rfl
theorem im_X10_packs : Cond.instanceMethod yX10_packs ∈ GW := gw_t7 (List.mem_of_getElem? (i := 142) rfl) rfl
theorem co_X10_packs : Cond.code yX10_packs cX10_packs 10 none ∈ GW := gw_t7 (List.mem_of_getElem? (i := 143) rfl) rfl
theorem ml_L_93 : Cond.methodLink RL 93 yX10_pack ∈ GW := gw_t7 (List.mem_of_getElem? (i := 144) rfl) rfl
theorem im_X10_pack : Cond.instanceMethod yX10_pack ∈ GW := gw_t7 (List.mem_of_getElem? (i := 145) rfl) rfl
theorem se_X10_pack : Cond.selects RX10 yX10_pack yX10_pack ∈ GW := gw_t7 (List.mem_of_getElem? (i := 146) rfl) rfl
theorem co_X10_pack : Cond.code yX10_pack cX10_pack 6 (some .int) ∈ GW := gw_t7 (List.mem_of_getElem? (i := 147) rfl) rfl
theorem ml_L_97 : Cond.methodLink RL 97 yX10_gap ∈ GW := gw_t7 (List.mem_of_getElem? (i := 148) rfl) rfl
theorem im_X10_gap : Cond.instanceMethod yX10_gap ∈ GW := gw_t7 (List.mem_of_getElem? (i := 149) rfl) rfl
theorem se_X10_gap : Cond.selects RX10 yX10_gap yX10_gap ∈ GW := gw_t7 (List.mem_of_getElem? (i := 150) rfl) rfl
theorem co_X10_gap : Cond.code yX10_gap cX10_gap 5 (some .long) ∈ GW := gw_t7 (List.mem_of_getElem? (i := 151) rfl) rfl
theorem ml_L_101 : Cond.methodLink RL 101 yX10_late ∈ GW := gw_t7 (List.mem_of_getElem? (i := 152) rfl) rfl
theorem im_X10_late : Cond.instanceMethod yX10_late ∈ GW := gw_t7 (List.mem_of_getElem? (i := 153) rfl) rfl
theorem se_X10_late : Cond.selects RX10 yX10_late yX10_late ∈ GW := gw_t7 (List.mem_of_getElem? (i := 154) rfl) rfl
theorem co_X10_late : Cond.code yX10_late cX10_late 3 (some .long) ∈ GW := gw_t7 (List.mem_of_getElem? (i := 155) rfl) rfl
theorem ml_X10_410 : Cond.methodLink RX10 410 yX10_lateOf ∈ GW := gw_t7 (List.mem_of_getElem? (i := 156) rfl) rfl
theorem im_X10_lateOf : Cond.instanceMethod yX10_lateOf ∈ GW := gw_t7 (List.mem_of_getElem? (i := 158) rfl) rfl
theorem co_X10_lateOf : Cond.code yX10_lateOf cX10_lateOf 3 (some .long) ∈ GW := gw_t7 (List.mem_of_getElem? (i := 159) rfl) rfl
theorem ml_X10_407 : Cond.methodLink RX10 407 yX10_comes ∈ GW := gw_t7 (List.mem_of_getElem? (i := 160) rfl) rfl
theorem im_X10_comes : Cond.instanceMethod yX10_comes ∈ GW := gw_t7 (List.mem_of_getElem? (i := 162) rfl) rfl
theorem co_X10_comes : Cond.code yX10_comes cX10_comes 6 none ∈ GW := gw_t7 (List.mem_of_getElem? (i := 163) rfl) rfl
theorem ml_X10_392 : Cond.methodLink RX10 392 yX10_at3 ∈ GW := gw_t7 (List.mem_of_getElem? (i := 164) rfl) rfl
theorem st_X10_at3 : Cond.static yX10_at3 ∈ GW := gw_t7 (List.mem_of_getElem? (i := 165) rfl) rfl
theorem co_X10_at3 : Cond.code yX10_at3 cX10_at3 3 (some .int) ∈ GW := gw_t7 (List.mem_of_getElem? (i := 166) rfl) rfl
theorem ml_X10_403 : Cond.methodLink RX10 403 yX10_fewest ∈ GW := gw_t7 (List.mem_of_getElem? (i := 167) rfl) rfl
theorem im_X10_fewest : Cond.instanceMethod yX10_fewest ∈ GW := gw_t7 (List.mem_of_getElem? (i := 169) rfl) rfl
theorem co_X10_fewest : Cond.code yX10_fewest cX10_fewest 12 (some .int) ∈ GW := gw_t7 (List.mem_of_getElem? (i := 170) rfl) rfl
theorem ml_X10_396 : Cond.methodLink RX10 396 yX10_sends ∈ GW := gw_t7 (List.mem_of_getElem? (i := 171) rfl) rfl
theorem im_X10_sends : Cond.instanceMethod yX10_sends ∈ GW := gw_t7 (List.mem_of_getElem? (i := 173) rfl) rfl
theorem co_X10_sends : Cond.code yX10_sends cX10_sends 15 (some .long) ∈ GW := gw_t7 (List.mem_of_getElem? (i := 174) rfl) rfl
theorem ml_X10_400 : Cond.methodLink RX10 400 yX10_canSend ∈ GW := gw_t7 (List.mem_of_getElem? (i := 175) rfl) rfl
theorem im_X10_canSend : Cond.instanceMethod yX10_canSend ∈ GW := gw_t7 (List.mem_of_getElem? (i := 177) rfl) rfl
theorem co_X10_canSend : Cond.code yX10_canSend cX10_canSend 3 (some .boolean) ∈ GW := gw_t7 (List.mem_of_getElem? (i := 178) rfl) rfl
theorem ml_L_106 : Cond.methodLink RL 106 yX10_today ∈ GW := gw_t7 (List.mem_of_getElem? (i := 179) rfl) rfl
theorem im_X10_today : Cond.instanceMethod yX10_today ∈ GW := gw_t7 (List.mem_of_getElem? (i := 180) rfl) rfl
theorem se_X10_today : Cond.selects RX10 yX10_today yX10_today ∈ GW := gw_t7 (List.mem_of_getElem? (i := 181) rfl) rfl
theorem co_X10_today : Cond.code yX10_today cX10_today 6 (some .int) ∈ GW := gw_t7 (List.mem_of_getElem? (i := 182) rfl) rfl
theorem kl_X10_413 : Cond.constantLong RX10 413 (600) ∈ GW := gw_t7 (List.mem_of_getElem? (i := 183) rfl) rfl
theorem ml_L_110 : Cond.methodLink RL 110 yX10_last ∈ GW := gw_t7 (List.mem_of_getElem? (i := 184) rfl) rfl
theorem im_X10_last : Cond.instanceMethod yX10_last ∈ GW := gw_t7 (List.mem_of_getElem? (i := 185) rfl) rfl
theorem se_X10_last : Cond.selects RX10 yX10_last yX10_last ∈ GW := gw_t7 (List.mem_of_getElem? (i := 186) rfl) rfl
theorem co_X10_last : Cond.code yX10_last cX10_last 7 (some .int) ∈ GW := gw_t7 (List.mem_of_getElem? (i := 187) rfl) rfl
theorem ml_L_114 : Cond.methodLink RL 114 yX10_signs ∈ GW := gw_t7 (List.mem_of_getElem? (i := 188) rfl) rfl
theorem im_X10_signs : Cond.instanceMethod yX10_signs ∈ GW := gw_t7 (List.mem_of_getElem? (i := 189) rfl) rfl
theorem se_X10_signs : Cond.selects RX10 yX10_signs yX10_signs ∈ GW := gw_t7 (List.mem_of_getElem? (i := 190) rfl) rfl
theorem co_X10_signs : Cond.code yX10_signs cX10_signs 8 (some .long) ∈ GW := gw_t7 (List.mem_of_getElem? (i := 191) rfl) rfl
theorem ml_L_118 : Cond.methodLink RL 118 yX10_fork ∈ GW := gw_t7 (List.mem_of_getElem? (i := 192) rfl) rfl
theorem im_X10_fork : Cond.instanceMethod yX10_fork ∈ GW := gw_t7 (List.mem_of_getElem? (i := 193) rfl) rfl
theorem se_X10_fork : Cond.selects RX10 yX10_fork yX10_fork ∈ GW := gw_t7 (List.mem_of_getElem? (i := 194) rfl) rfl
theorem co_X10_fork : Cond.code yX10_fork cX10_fork 5 (some .long) ∈ GW := gw_t7 (List.mem_of_getElem? (i := 195) rfl) rfl
theorem ml_X10_418 : Cond.methodLink RX10 418 yX10_forks ∈ GW := gw_t7 (List.mem_of_getElem? (i := 196) rfl) rfl
theorem im_X10_forks : Cond.instanceMethod yX10_forks ∈ GW := gw_t7 (List.mem_of_getElem? (i := 198) rfl) rfl
theorem co_X10_forks : Cond.code yX10_forks cX10_forks 6 none ∈ GW := gw_t7 (List.mem_of_getElem? (i := 199) rfl) rfl
theorem ml_X10_415 : Cond.methodLink RX10 415 yX10_forkOf ∈ GW := gw_t7 (List.mem_of_getElem? (i := 200) rfl) rfl
theorem im_X10_forkOf : Cond.instanceMethod yX10_forkOf ∈ GW := gw_t7 (List.mem_of_getElem? (i := 202) rfl) rfl
theorem co_X10_forkOf : Cond.code yX10_forkOf cX10_forkOf 6 (some .long) ∈ GW := gw_t7 (List.mem_of_getElem? (i := 203) rfl) rfl
theorem ml_L_122 : Cond.methodLink RL 122 yX10_middle ∈ GW := gw_t7 (List.mem_of_getElem? (i := 204) rfl) rfl
theorem im_X10_middle : Cond.instanceMethod yX10_middle ∈ GW := gw_t7 (List.mem_of_getElem? (i := 205) rfl) rfl
theorem se_X10_middle : Cond.selects RX10 yX10_middle yX10_middle ∈ GW := gw_t7 (List.mem_of_getElem? (i := 206) rfl) rfl
theorem co_X10_middle : Cond.code yX10_middle cX10_middle 4 (some .int) ∈ GW := gw_t7 (List.mem_of_getElem? (i := 207) rfl) rfl
theorem ml_X10_422 : Cond.methodLink RX10 422 yX10_middleOf ∈ GW := gw_t7 (List.mem_of_getElem? (i := 208) rfl) rfl
theorem im_X10_middleOf : Cond.instanceMethod yX10_middleOf ∈ GW := gw_t7 (List.mem_of_getElem? (i := 210) rfl) rfl
theorem co_X10_middleOf : Cond.code yX10_middleOf cX10_middleOf 8 (some .int) ∈ GW := gw_t7 (List.mem_of_getElem? (i := 211) rfl) rfl
theorem ml_L_126 : Cond.methodLink RL 126 yX10_shares ∈ GW := gw_t7 (List.mem_of_getElem? (i := 212) rfl) rfl
theorem im_X10_shares : Cond.instanceMethod yX10_shares ∈ GW := gw_t7 (List.mem_of_getElem? (i := 213) rfl) rfl
theorem se_X10_shares : Cond.selects RX10 yX10_shares yX10_shares ∈ GW := gw_t7 (List.mem_of_getElem? (i := 214) rfl) rfl
theorem co_X10_shares : Cond.code yX10_shares cX10_shares 6 (some .long) ∈ GW := gw_t7 (List.mem_of_getElem? (i := 215) rfl) rfl
theorem ml_L_130 : Cond.methodLink RL 130 yX10_flown ∈ GW := gw_t7 (List.mem_of_getElem? (i := 216) rfl) rfl
theorem im_X10_flown : Cond.instanceMethod yX10_flown ∈ GW := gw_t7 (List.mem_of_getElem? (i := 217) rfl) rfl
theorem se_X10_flown : Cond.selects RX10 yX10_flown yX10_flown ∈ GW := gw_t7 (List.mem_of_getElem? (i := 218) rfl) rfl
theorem co_X10_flown : Cond.code yX10_flown cX10_flown 4 (some .long) ∈ GW := gw_t7 (List.mem_of_getElem? (i := 219) rfl) rfl
theorem ml_X10_432 : Cond.methodLink RX10 432 yX10_flownOf ∈ GW := gw_t7 (List.mem_of_getElem? (i := 220) rfl) rfl
theorem im_X10_flownOf : Cond.instanceMethod yX10_flownOf ∈ GW := gw_t7 (List.mem_of_getElem? (i := 222) rfl) rfl
theorem co_X10_flownOf : Cond.code yX10_flownOf cX10_flownOf 7 (some .long) ∈ GW := gw_t7 (List.mem_of_getElem? (i := 223) rfl) rfl
theorem ml_X10_429 : Cond.methodLink RX10 429 yX10_byPlane ∈ GW := gw_t7 (List.mem_of_getElem? (i := 224) rfl) rfl
theorem im_X10_byPlane : Cond.instanceMethod yX10_byPlane ∈ GW := gw_t7 (List.mem_of_getElem? (i := 226) rfl) rfl
theorem co_X10_byPlane : Cond.code yX10_byPlane cX10_byPlane 5 (some .long) ∈ GW := gw_t7 (List.mem_of_getElem? (i := 227) rfl) rfl
theorem ml_X10_425 : Cond.methodLink RX10 425 yX10_lesser ∈ GW := gw_t7 (List.mem_of_getElem? (i := 228) rfl) rfl
theorem st_X10_lesser : Cond.static yX10_lesser ∈ GW := gw_t7 (List.mem_of_getElem? (i := 229) rfl) rfl
theorem co_X10_lesser : Cond.code yX10_lesser cX10_lesser 4 (some .long) ∈ GW := gw_t7 (List.mem_of_getElem? (i := 230) rfl) rfl
theorem ml_L_134 : Cond.methodLink RL 134 yX10_plane ∈ GW := gw_t7 (List.mem_of_getElem? (i := 231) rfl) rfl
theorem im_X10_plane : Cond.instanceMethod yX10_plane ∈ GW := gw_t7 (List.mem_of_getElem? (i := 232) rfl) rfl
theorem se_X10_plane : Cond.selects RX10 yX10_plane yX10_plane ∈ GW := gw_t7 (List.mem_of_getElem? (i := 233) rfl) rfl
theorem co_X10_plane : Cond.code yX10_plane cX10_plane 9 (some .int) ∈ GW := gw_t7 (List.mem_of_getElem? (i := 234) rfl) rfl
theorem ml_L_138 : Cond.methodLink RL 138 yX10_edge ∈ GW := gw_t7 (List.mem_of_getElem? (i := 235) rfl) rfl
theorem im_X10_edge : Cond.instanceMethod yX10_edge ∈ GW := gw_t7 (List.mem_of_getElem? (i := 236) rfl) rfl
theorem se_X10_edge : Cond.selects RX10 yX10_edge yX10_edge ∈ GW := gw_t7 (List.mem_of_getElem? (i := 237) rfl) rfl
theorem co_X10_edge : Cond.code yX10_edge cX10_edge 3 (some .int) ∈ GW := gw_t7 (List.mem_of_getElem? (i := 238) rfl) rfl
theorem ml_L_142 : Cond.methodLink RL 142 yX10_path ∈ GW := gw_t7 (List.mem_of_getElem? (i := 239) rfl) rfl
theorem im_X10_path : Cond.instanceMethod yX10_path ∈ GW := gw_t8 (List.mem_of_getElem? (i := 0) rfl) rfl
theorem se_X10_path : Cond.selects RX10 yX10_path yX10_path ∈ GW := gw_t8 (List.mem_of_getElem? (i := 1) rfl) rfl
theorem co_X10_path : Cond.code yX10_path cX10_path 10 (some .long) ∈ GW := gw_t8 (List.mem_of_getElem? (i := 2) rfl) rfl
theorem ml_X10_435 : Cond.methodLink RX10 435 yX10_pathOf ∈ GW := gw_t8 (List.mem_of_getElem? (i := 3) rfl) rfl
theorem im_X10_pathOf : Cond.instanceMethod yX10_pathOf ∈ GW := gw_t8 (List.mem_of_getElem? (i := 5) rfl) rfl
theorem co_X10_pathOf : Cond.code yX10_pathOf cX10_pathOf 4 (some .int) ∈ GW := gw_t8 (List.mem_of_getElem? (i := 6) rfl) rfl
theorem ml_X10_438 : Cond.methodLink RX10 438 yX10_fedBy ∈ GW := gw_t8 (List.mem_of_getElem? (i := 7) rfl) rfl
theorem im_X10_fedBy : Cond.instanceMethod yX10_fedBy ∈ GW := gw_t8 (List.mem_of_getElem? (i := 9) rfl) rfl
theorem co_X10_fedBy : Cond.code yX10_fedBy cX10_fedBy 5 (some .int) ∈ GW := gw_t8 (List.mem_of_getElem? (i := 10) rfl) rfl
theorem ml_L_146 : Cond.methodLink RL 146 yX10_fed ∈ GW := gw_t8 (List.mem_of_getElem? (i := 11) rfl) rfl
theorem im_X10_fed : Cond.instanceMethod yX10_fed ∈ GW := gw_t8 (List.mem_of_getElem? (i := 12) rfl) rfl
theorem se_X10_fed : Cond.selects RX10 yX10_fed yX10_fed ∈ GW := gw_t8 (List.mem_of_getElem? (i := 13) rfl) rfl
theorem co_X10_fed : Cond.code yX10_fed cX10_fed 8 (some .int) ∈ GW := gw_t8 (List.mem_of_getElem? (i := 14) rfl) rfl
theorem kl_X10_441 : Cond.constantLong RX10 441 (10000000000) ∈ GW := gw_t8 (List.mem_of_getElem? (i := 15) rfl) rfl
theorem ml_L_151 : Cond.methodLink RL 151 yX10_given ∈ GW := gw_t8 (List.mem_of_getElem? (i := 16) rfl) rfl
theorem im_X10_given : Cond.instanceMethod yX10_given ∈ GW := gw_t8 (List.mem_of_getElem? (i := 17) rfl) rfl
theorem se_X10_given : Cond.selects RX10 yX10_given yX10_given ∈ GW := gw_t8 (List.mem_of_getElem? (i := 18) rfl) rfl
theorem co_X10_given : Cond.code yX10_given cX10_given 6 (some .int) ∈ GW := gw_t8 (List.mem_of_getElem? (i := 19) rfl) rfl
theorem ml_X10_451 : Cond.methodLink RX10 451 yX10_whyNot ∈ GW := gw_t8 (List.mem_of_getElem? (i := 20) rfl) rfl
theorem im_X10_whyNot : Cond.instanceMethod yX10_whyNot ∈ GW := gw_t8 (List.mem_of_getElem? (i := 22) rfl) rfl
theorem co_X10_whyNot : Cond.code yX10_whyNot cX10_whyNot 5 (some .int) ∈ GW := gw_t8 (List.mem_of_getElem? (i := 23) rfl) rfl
theorem kl_X10_446 : Cond.constantLong RX10 446 (99999) ∈ GW := gw_t8 (List.mem_of_getElem? (i := 24) rfl) rfl
theorem ml_X10_448 : Cond.methodLink RX10 448 yX10_isAsking ∈ GW := gw_t8 (List.mem_of_getElem? (i := 25) rfl) rfl
theorem im_X10_isAsking : Cond.instanceMethod yX10_isAsking ∈ GW := gw_t8 (List.mem_of_getElem? (i := 27) rfl) rfl
theorem co_X10_isAsking : Cond.code yX10_isAsking cX10_isAsking 3 (some .boolean) ∈ GW := gw_t8 (List.mem_of_getElem? (i := 28) rfl) rfl
theorem ml_X10_455 : Cond.methodLink RX10 455 yX10_givenBy ∈ GW := gw_t8 (List.mem_of_getElem? (i := 29) rfl) rfl
theorem im_X10_givenBy : Cond.instanceMethod yX10_givenBy ∈ GW := gw_t8 (List.mem_of_getElem? (i := 31) rfl) rfl
theorem co_X10_givenBy : Cond.code yX10_givenBy cX10_givenBy 5 (some .int) ∈ GW := gw_t8 (List.mem_of_getElem? (i := 32) rfl) rfl
theorem ml_X10_443 : Cond.methodLink RX10 443 yX10_askedBy ∈ GW := gw_t8 (List.mem_of_getElem? (i := 33) rfl) rfl
theorem im_X10_askedBy : Cond.instanceMethod yX10_askedBy ∈ GW := gw_t8 (List.mem_of_getElem? (i := 35) rfl) rfl
theorem co_X10_askedBy : Cond.code yX10_askedBy cX10_askedBy 4 (some .int) ∈ GW := gw_t8 (List.mem_of_getElem? (i := 36) rfl) rfl
theorem ml_L_155 : Cond.methodLink RL 155 yX10_asks_ ∈ GW := gw_t8 (List.mem_of_getElem? (i := 37) rfl) rfl
theorem im_X10_asks_ : Cond.instanceMethod yX10_asks_ ∈ GW := gw_t8 (List.mem_of_getElem? (i := 38) rfl) rfl
theorem se_X10_asks_ : Cond.selects RX10 yX10_asks_ yX10_asks_ ∈ GW := gw_t8 (List.mem_of_getElem? (i := 39) rfl) rfl
theorem co_X10_asks_ : Cond.code yX10_asks_ cX10_asks_ 7 (some .int) ∈ GW := gw_t8 (List.mem_of_getElem? (i := 40) rfl) rfl
theorem ml_X10_461 : Cond.methodLink RX10 461 yX10_bestAsk ∈ GW := gw_t8 (List.mem_of_getElem? (i := 41) rfl) rfl
theorem im_X10_bestAsk : Cond.instanceMethod yX10_bestAsk ∈ GW := gw_t8 (List.mem_of_getElem? (i := 43) rfl) rfl
theorem co_X10_bestAsk : Cond.code yX10_bestAsk cX10_bestAsk 11 (some .int) ∈ GW := gw_t8 (List.mem_of_getElem? (i := 44) rfl) rfl
theorem ml_X10_458 : Cond.methodLink RX10 458 yX10_lossOf ∈ GW := gw_t8 (List.mem_of_getElem? (i := 45) rfl) rfl
theorem im_X10_lossOf : Cond.instanceMethod yX10_lossOf ∈ GW := gw_t8 (List.mem_of_getElem? (i := 47) rfl) rfl
theorem co_X10_lossOf : Cond.code yX10_lossOf cX10_lossOf 8 (some .long) ∈ GW := gw_t8 (List.mem_of_getElem? (i := 48) rfl) rfl
theorem ml_L_160 : Cond.methodLink RL 160 yX10_pays ∈ GW := gw_t8 (List.mem_of_getElem? (i := 49) rfl) rfl
theorem im_X10_pays : Cond.instanceMethod yX10_pays ∈ GW := gw_t8 (List.mem_of_getElem? (i := 50) rfl) rfl
theorem se_X10_pays : Cond.selects RX10 yX10_pays yX10_pays ∈ GW := gw_t8 (List.mem_of_getElem? (i := 51) rfl) rfl
theorem co_X10_pays : Cond.code yX10_pays cX10_pays 9 (some .long) ∈ GW := gw_t8 (List.mem_of_getElem? (i := 52) rfl) rfl
theorem ml_L_164 : Cond.methodLink RL 164 yX10_burnt ∈ GW := gw_t8 (List.mem_of_getElem? (i := 53) rfl) rfl
theorem im_X10_burnt : Cond.instanceMethod yX10_burnt ∈ GW := gw_t8 (List.mem_of_getElem? (i := 54) rfl) rfl
theorem se_X10_burnt : Cond.selects RX10 yX10_burnt yX10_burnt ∈ GW := gw_t8 (List.mem_of_getElem? (i := 55) rfl) rfl
theorem co_X10_burnt : Cond.code yX10_burnt cX10_burnt 5 (some .long) ∈ GW := gw_t8 (List.mem_of_getElem? (i := 56) rfl) rfl
theorem ml_X10_464 : Cond.methodLink RX10 464 yX10_areHundredths ∈ GW := gw_t8 (List.mem_of_getElem? (i := 57) rfl) rfl
theorem st_X10_areHundredths : Cond.static yX10_areHundredths ∈ GW := gw_t8 (List.mem_of_getElem? (i := 58) rfl) rfl
theorem co_X10_areHundredths : Cond.code yX10_areHundredths cX10_areHundredths 1 (some .boolean) ∈ GW := gw_t8 (List.mem_of_getElem? (i := 59) rfl) rfl
theorem ml_X10_467 : Cond.methodLink RX10 467 yX10_standing ∈ GW := gw_t8 (List.mem_of_getElem? (i := 60) rfl) rfl
theorem im_X10_standing : Cond.instanceMethod yX10_standing ∈ GW := gw_t8 (List.mem_of_getElem? (i := 62) rfl) rfl
theorem co_X10_standing : Cond.code yX10_standing cX10_standing 5 (some .long) ∈ GW := gw_t8 (List.mem_of_getElem? (i := 63) rfl) rfl
theorem ml_L_168 : Cond.methodLink RL 168 yX10_spread ∈ GW := gw_t8 (List.mem_of_getElem? (i := 64) rfl) rfl
theorem im_X10_spread : Cond.instanceMethod yX10_spread ∈ GW := gw_t8 (List.mem_of_getElem? (i := 65) rfl) rfl
theorem se_X10_spread : Cond.selects RX10 yX10_spread yX10_spread ∈ GW := gw_t8 (List.mem_of_getElem? (i := 66) rfl) rfl
theorem co_X10_spread : Cond.code yX10_spread cX10_spread 5 (some .long) ∈ GW := gw_t8 (List.mem_of_getElem? (i := 67) rfl) rfl
theorem ml_X10_473 : Cond.methodLink RX10 473 yX10_spreadOf ∈ GW := gw_t8 (List.mem_of_getElem? (i := 68) rfl) rfl
theorem im_X10_spreadOf : Cond.instanceMethod yX10_spreadOf ∈ GW := gw_t8 (List.mem_of_getElem? (i := 70) rfl) rfl
theorem co_X10_spreadOf : Cond.code yX10_spreadOf cX10_spreadOf 10 (some .long) ∈ GW := gw_t8 (List.mem_of_getElem? (i := 71) rfl) rfl
theorem kl_X10_471 : Cond.constantLong RX10 471 (10000) ∈ GW := gw_t8 (List.mem_of_getElem? (i := 72) rfl) rfl
theorem ml_L_172 : Cond.methodLink RL 172 yX10_bear ∈ GW := gw_t8 (List.mem_of_getElem? (i := 73) rfl) rfl
theorem im_X10_bear : Cond.instanceMethod yX10_bear ∈ GW := gw_t8 (List.mem_of_getElem? (i := 74) rfl) rfl
theorem se_X10_bear : Cond.selects RX10 yX10_bear yX10_bear ∈ GW := gw_t8 (List.mem_of_getElem? (i := 75) rfl) rfl
theorem co_X10_bear : Cond.code yX10_bear cX10_bear 10 (some .int) ∈ GW := gw_t8 (List.mem_of_getElem? (i := 76) rfl) rfl
theorem ml_L_176 : Cond.methodLink RL 176 yX10_run ∈ GW := gw_t8 (List.mem_of_getElem? (i := 77) rfl) rfl
theorem im_X10_run : Cond.instanceMethod yX10_run ∈ GW := gw_t8 (List.mem_of_getElem? (i := 78) rfl) rfl
theorem se_X10_run : Cond.selects RX10 yX10_run yX10_run ∈ GW := gw_t8 (List.mem_of_getElem? (i := 79) rfl) rfl
theorem co_X10_run : Cond.code yX10_run cX10_run 3 (some .int) ∈ GW := gw_t8 (List.mem_of_getElem? (i := 80) rfl) rfl
theorem ml_X10_492 : Cond.methodLink RX10 492 yX10_isSeed ∈ GW := gw_t8 (List.mem_of_getElem? (i := 81) rfl) rfl
theorem st_X10_isSeed : Cond.static yX10_isSeed ∈ GW := gw_t8 (List.mem_of_getElem? (i := 82) rfl) rfl
theorem co_X10_isSeed : Cond.code yX10_isSeed cX10_isSeed 1 (some .boolean) ∈ GW := gw_t8 (List.mem_of_getElem? (i := 83) rfl) rfl
theorem kl_X10_490 : Cond.constantLong RX10 490 (2000000000) ∈ GW := gw_t8 (List.mem_of_getElem? (i := 84) rfl) rfl
theorem ml_X10_495 : Cond.methodLink RX10 495 yX10_draws ∈ GW := gw_t8 (List.mem_of_getElem? (i := 85) rfl) rfl
theorem im_X10_draws : Cond.instanceMethod yX10_draws ∈ GW := gw_t8 (List.mem_of_getElem? (i := 87) rfl) rfl
theorem co_X10_draws : Cond.code yX10_draws cX10_draws 7 (some .int) ∈ GW := gw_t8 (List.mem_of_getElem? (i := 88) rfl) rfl
theorem ml_X10_487 : Cond.methodLink RX10 487 yX10_drawn ∈ GW := gw_t8 (List.mem_of_getElem? (i := 89) rfl) rfl
theorem im_X10_drawn : Cond.instanceMethod yX10_drawn ∈ GW := gw_t8 (List.mem_of_getElem? (i := 91) rfl) rfl
theorem co_X10_drawn : Cond.code yX10_drawn cX10_drawn 1 (some .int) ∈ GW := gw_t8 (List.mem_of_getElem? (i := 92) rfl) rfl
theorem kl_X10_476 : Cond.constantLong RX10 476 (1103515245) ∈ GW := gw_t8 (List.mem_of_getElem? (i := 93) rfl) rfl
theorem kl_X10_481 : Cond.constantLong RX10 481 (12345) ∈ GW := gw_t8 (List.mem_of_getElem? (i := 94) rfl) rfl
theorem kl_X10_483 : Cond.constantLong RX10 483 (2147483648) ∈ GW := gw_t8 (List.mem_of_getElem? (i := 95) rfl) rfl
theorem kl_X10_485 : Cond.constantLong RX10 485 (65536) ∈ GW := gw_t8 (List.mem_of_getElem? (i := 96) rfl) rfl
theorem ml_X10_499 : Cond.methodLink RX10 499 yX10_tellsYear ∈ GW := gw_t8 (List.mem_of_getElem? (i := 97) rfl) rfl
theorem im_X10_tellsYear : Cond.instanceMethod yX10_tellsYear ∈ GW := gw_t8 (List.mem_of_getElem? (i := 99) rfl) rfl
theorem co_X10_tellsYear : Cond.code yX10_tellsYear cX10_tellsYear 2 none ∈ GW := gw_t8 (List.mem_of_getElem? (i := 100) rfl) rfl
theorem ml_L_180 : Cond.methodLink RL 180 yX10_told ∈ GW := gw_t8 (List.mem_of_getElem? (i := 101) rfl) rfl
theorem im_X10_told : Cond.instanceMethod yX10_told ∈ GW := gw_t8 (List.mem_of_getElem? (i := 102) rfl) rfl
theorem se_X10_told : Cond.selects RX10 yX10_told yX10_told ∈ GW := gw_t8 (List.mem_of_getElem? (i := 103) rfl) rfl
theorem co_X10_told : Cond.code yX10_told cX10_told 5 (some .int) ∈ GW := gw_t8 (List.mem_of_getElem? (i := 104) rfl) rfl
theorem ml_L_184 : Cond.methodLink RL 184 yX10_shut ∈ GW := gw_t8 (List.mem_of_getElem? (i := 105) rfl) rfl
theorem im_X10_shut : Cond.instanceMethod yX10_shut ∈ GW := gw_t8 (List.mem_of_getElem? (i := 106) rfl) rfl
theorem se_X10_shut : Cond.selects RX10 yX10_shut yX10_shut ∈ GW := gw_t8 (List.mem_of_getElem? (i := 107) rfl) rfl
theorem co_X10_shut : Cond.code yX10_shut cX10_shut 2 (some .int) ∈ GW := gw_t8 (List.mem_of_getElem? (i := 108) rfl) rfl
theorem ml_L_188 : Cond.methodLink RL 188 yX10_lacks ∈ GW := gw_t8 (List.mem_of_getElem? (i := 109) rfl) rfl
theorem im_X10_lacks : Cond.instanceMethod yX10_lacks ∈ GW := gw_t8 (List.mem_of_getElem? (i := 110) rfl) rfl
theorem se_X10_lacks : Cond.selects RX10 yX10_lacks yX10_lacks ∈ GW := gw_t8 (List.mem_of_getElem? (i := 111) rfl) rfl
theorem co_X10_lacks : Cond.code yX10_lacks cX10_lacks 6 (some .int) ∈ GW := gw_t8 (List.mem_of_getElem? (i := 112) rfl) rfl
theorem kl_X10_502 : Cond.constantLong RX10 502 (2) ∈ GW := gw_t8 (List.mem_of_getElem? (i := 113) rfl) rfl
theorem ml_X10_504 : Cond.methodLink RX10 504 yX10_above ∈ GW := gw_t8 (List.mem_of_getElem? (i := 114) rfl) rfl
theorem st_X10_above : Cond.static yX10_above ∈ GW := gw_t8 (List.mem_of_getElem? (i := 115) rfl) rfl
theorem co_X10_above : Cond.code yX10_above cX10_above 2 (some .int) ∈ GW := gw_t8 (List.mem_of_getElem? (i := 116) rfl) rfl
theorem ml_X10_507 : Cond.methodLink RX10 507 yX10_firstLack ∈ GW := gw_t8 (List.mem_of_getElem? (i := 117) rfl) rfl
theorem im_X10_firstLack : Cond.instanceMethod yX10_firstLack ∈ GW := gw_t8 (List.mem_of_getElem? (i := 119) rfl) rfl
theorem co_X10_firstLack : Cond.code yX10_firstLack cX10_firstLack 6 (some .int) ∈ GW := gw_t8 (List.mem_of_getElem? (i := 120) rfl) rfl
theorem ml_L_192 : Cond.methodLink RL 192 yX10_judge ∈ GW := gw_t8 (List.mem_of_getElem? (i := 121) rfl) rfl
theorem im_X10_judge : Cond.instanceMethod yX10_judge ∈ GW := gw_t8 (List.mem_of_getElem? (i := 122) rfl) rfl
theorem se_X10_judge : Cond.selects RX10 yX10_judge yX10_judge ∈ GW := gw_t8 (List.mem_of_getElem? (i := 123) rfl) rfl
theorem co_X10_judge : Cond.code yX10_judge cX10_judge 4 (some .int) ∈ GW := gw_t8 (List.mem_of_getElem? (i := 124) rfl) rfl
theorem ml_X10_510 : Cond.methodLink RX10 510 yX10_whyNotJudged ∈ GW := gw_t8 (List.mem_of_getElem? (i := 125) rfl) rfl
theorem im_X10_whyNotJudged : Cond.instanceMethod yX10_whyNotJudged ∈ GW := gw_t8 (List.mem_of_getElem? (i := 127) rfl) rfl
theorem co_X10_whyNotJudged : Cond.code yX10_whyNotJudged cX10_whyNotJudged 3 (some .int) ∈ GW := gw_t8 (List.mem_of_getElem? (i := 128) rfl) rfl
theorem ml_X10_513 : Cond.methodLink RX10 513 yX10_judged ∈ GW := gw_t8 (List.mem_of_getElem? (i := 129) rfl) rfl
theorem im_X10_judged : Cond.instanceMethod yX10_judged ∈ GW := gw_t8 (List.mem_of_getElem? (i := 131) rfl) rfl
theorem co_X10_judged : Cond.code yX10_judged cX10_judged 6 (some .int) ∈ GW := gw_t8 (List.mem_of_getElem? (i := 132) rfl) rfl
theorem ml_L_196 : Cond.methodLink RL 196 yX10_paid ∈ GW := gw_t8 (List.mem_of_getElem? (i := 133) rfl) rfl
theorem im_X10_paid : Cond.instanceMethod yX10_paid ∈ GW := gw_t8 (List.mem_of_getElem? (i := 134) rfl) rfl
theorem se_X10_paid : Cond.selects RX10 yX10_paid yX10_paid ∈ GW := gw_t8 (List.mem_of_getElem? (i := 135) rfl) rfl
theorem co_X10_paid : Cond.code yX10_paid cX10_paid 6 (some .long) ∈ GW := gw_t8 (List.mem_of_getElem? (i := 136) rfl) rfl
theorem ml_L_201 : Cond.methodLink RL 201 yX10_years ∈ GW := gw_t8 (List.mem_of_getElem? (i := 137) rfl) rfl
theorem im_X10_years : Cond.instanceMethod yX10_years ∈ GW := gw_t8 (List.mem_of_getElem? (i := 138) rfl) rfl
theorem se_X10_years : Cond.selects RX10 yX10_years yX10_years ∈ GW := gw_t8 (List.mem_of_getElem? (i := 139) rfl) rfl
theorem co_X10_years : Cond.code yX10_years cX10_years 11 (some .int) ∈ GW := gw_t8 (List.mem_of_getElem? (i := 140) rfl) rfl
theorem ml_L_205 : Cond.methodLink RL 205 yX10_count ∈ GW := gw_t8 (List.mem_of_getElem? (i := 141) rfl) rfl
theorem im_X10_count : Cond.instanceMethod yX10_count ∈ GW := gw_t8 (List.mem_of_getElem? (i := 142) rfl) rfl
theorem se_X10_count : Cond.selects RX10 yX10_count yX10_count ∈ GW := gw_t8 (List.mem_of_getElem? (i := 143) rfl) rfl
theorem co_X10_count : Cond.code yX10_count cX10_count 4 (some .int) ∈ GW := gw_t8 (List.mem_of_getElem? (i := 144) rfl) rfl
theorem ml_L_209 : Cond.methodLink RL 209 yX10_keep ∈ GW := gw_t8 (List.mem_of_getElem? (i := 145) rfl) rfl
theorem im_X10_keep : Cond.instanceMethod yX10_keep ∈ GW := gw_t8 (List.mem_of_getElem? (i := 146) rfl) rfl
theorem se_X10_keep : Cond.selects RX10 yX10_keep yX10_keep ∈ GW := gw_t8 (List.mem_of_getElem? (i := 147) rfl) rfl
theorem co_X10_keep : Cond.code yX10_keep cX10_keep 2 (some .int) ∈ GW := gw_t8 (List.mem_of_getElem? (i := 148) rfl) rfl
theorem ml_X10_516 : Cond.methodLink RX10 516 yX10_copyAll ∈ GW := gw_t8 (List.mem_of_getElem? (i := 149) rfl) rfl
theorem im_X10_copyAll : Cond.instanceMethod yX10_copyAll ∈ GW := gw_t8 (List.mem_of_getElem? (i := 151) rfl) rfl
theorem co_X10_copyAll : Cond.code yX10_copyAll cX10_copyAll 3 none ∈ GW := gw_t8 (List.mem_of_getElem? (i := 152) rfl) rfl
theorem ml_L_213 : Cond.methodLink RL 213 yX10_back ∈ GW := gw_t8 (List.mem_of_getElem? (i := 153) rfl) rfl
theorem im_X10_back : Cond.instanceMethod yX10_back ∈ GW := gw_t8 (List.mem_of_getElem? (i := 154) rfl) rfl
theorem se_X10_back : Cond.selects RX10 yX10_back yX10_back ∈ GW := gw_t8 (List.mem_of_getElem? (i := 155) rfl) rfl
theorem co_X10_back : Cond.code yX10_back cX10_back 2 (some .int) ∈ GW := gw_t8 (List.mem_of_getElem? (i := 156) rfl) rfl
theorem kl_L_218 : Cond.constantLong RL 218 (4294967295) ∈ GW := gw_t8 (List.mem_of_getElem? (i := 157) rfl) rfl
theorem fl_J0_9 : Cond.fieldLink RJ0 9 "java/lang/String" "value" "[B" ∈ GW := gw_t8 (List.mem_of_getElem? (i := 158) rfl) rfl
theorem fl_J0_15 : Cond.fieldLink RJ0 15 "java/lang/String" "coder" "B" ∈ GW := gw_t8 (List.mem_of_getElem? (i := 159) rfl) rfl
theorem se_X9_tapeFour : Cond.selects RX9 yX9_tapeFour yX9_tapeFour ∈ GW := gw_p1 (q := (yX9_tapeFour, 14)) (List.mem_of_getElem? (i := 0) rfl) rfl
theorem se_X4_begin : Cond.selects RX4 yX4_begin yX4_begin ∈ GW := gw_p1 (q := (yX4_begin, 12)) (List.mem_of_getElem? (i := 1) rfl) rfl
theorem se_X4_step : Cond.selects RX4 yX4_step yX4_step ∈ GW := gw_p1 (q := (yX4_step, 12)) (List.mem_of_getElem? (i := 2) rfl) rfl
theorem se_X4_kindAt : Cond.selects RX4 yX4_kindAt yX4_kindAt ∈ GW := gw_p1 (q := (yX4_kindAt, 12)) (List.mem_of_getElem? (i := 3) rfl) rfl
theorem se_X4_signAt : Cond.selects RX4 yX4_signAt yX4_signAt ∈ GW := gw_p1 (q := (yX4_signAt, 12)) (List.mem_of_getElem? (i := 4) rfl) rfl
theorem se_X4_readWinter : Cond.selects RX4 yX4_readWinter yX4_readWinter ∈ GW := gw_p1 (q := (yX4_readWinter, 12)) (List.mem_of_getElem? (i := 5) rfl) rfl
theorem se_X4_takeWord : Cond.selects RX4 yX4_takeWord yX4_takeWord ∈ GW := gw_p1 (q := (yX4_takeWord, 12)) (List.mem_of_getElem? (i := 6) rfl) rfl
theorem se_X4_isWord : Cond.selects RX4 yX4_isWord yX4_isWord ∈ GW := gw_p1 (q := (yX4_isWord, 12)) (List.mem_of_getElem? (i := 7) rfl) rfl
theorem se_X4_refuse : Cond.selects RX4 yX4_refuse yX4_refuse ∈ GW := gw_p1 (q := (yX4_refuse, 12)) (List.mem_of_getElem? (i := 8) rfl) rfl
theorem se_X4_takeNamed : Cond.selects RX4 yX4_takeNamed yX4_takeNamed ∈ GW := gw_p1 (q := (yX4_takeNamed, 12)) (List.mem_of_getElem? (i := 9) rfl) rfl
theorem se_X4_takeNumber : Cond.selects RX4 yX4_takeNumber yX4_takeNumber ∈ GW := gw_p1 (q := (yX4_takeNumber, 12)) (List.mem_of_getElem? (i := 10) rfl) rfl
theorem se_X4_readThing : Cond.selects RX4 yX4_readThing yX4_readThing ∈ GW := gw_p1 (q := (yX4_readThing, 12)) (List.mem_of_getElem? (i := 11) rfl) rfl
theorem se_X4_readValley : Cond.selects RX4 yX4_readValley yX4_readValley ∈ GW := gw_p1 (q := (yX4_readValley, 12)) (List.mem_of_getElem? (i := 12) rfl) rfl
theorem se_X4_readLorry : Cond.selects RX4 yX4_readLorry yX4_readLorry ∈ GW := gw_p1 (q := (yX4_readLorry, 12)) (List.mem_of_getElem? (i := 13) rfl) rfl
theorem se_X4_readPlane : Cond.selects RX4 yX4_readPlane yX4_readPlane ∈ GW := gw_p1 (q := (yX4_readPlane, 12)) (List.mem_of_getElem? (i := 14) rfl) rfl
theorem se_X4_readMule : Cond.selects RX4 yX4_readMule yX4_readMule ∈ GW := gw_p1 (q := (yX4_readMule, 12)) (List.mem_of_getElem? (i := 15) rfl) rfl
theorem se_X4_readPath : Cond.selects RX4 yX4_readPath yX4_readPath ∈ GW := gw_p2 (q := (yX4_readPath, 12)) (List.mem_of_getElem? (i := 0) rfl) rfl
theorem se_X4_takeStop : Cond.selects RX4 yX4_takeStop yX4_takeStop ∈ GW := gw_p2 (q := (yX4_takeStop, 12)) (List.mem_of_getElem? (i := 1) rfl) rfl
theorem se_X5_shutSecond : Cond.selects RX5 yX5_shutSecond yX5_shutSecond ∈ GW := gw_p2 (q := (yX5_shutSecond, 7)) (List.mem_of_getElem? (i := 2) rfl) rfl
theorem se_X5_skyOfTwo : Cond.selects RX5 yX5_skyOfTwo yX5_skyOfTwo ∈ GW := gw_p2 (q := (yX5_skyOfTwo, 7)) (List.mem_of_getElem? (i := 3) rfl) rfl
theorem se_X5_splitBothOpen : Cond.selects RX5 yX5_splitBothOpen yX5_splitBothOpen ∈ GW := gw_p2 (q := (yX5_splitBothOpen, 7)) (List.mem_of_getElem? (i := 4) rfl) rfl
theorem se_X5_splitFrom : Cond.selects RX5 yX5_splitFrom yX5_splitFrom ∈ GW := gw_p2 (q := (yX5_splitFrom, 7)) (List.mem_of_getElem? (i := 5) rfl) rfl
theorem se_X8_forget : Cond.selects RX8 yX8_forget yX8_forget ∈ GW := gw_p2 (q := (yX8_forget, 5)) (List.mem_of_getElem? (i := 6) rfl) rfl
theorem se_X8_gather : Cond.selects RX8 yX8_gather yX8_gather ∈ GW := gw_p2 (q := (yX8_gather, 5)) (List.mem_of_getElem? (i := 7) rfl) rfl
theorem se_X8_sumUp : Cond.selects RX8 yX8_sumUp yX8_sumUp ∈ GW := gw_p2 (q := (yX8_sumUp, 5)) (List.mem_of_getElem? (i := 8) rfl) rfl
theorem se_X8_savingMost : Cond.selects RX8 yX8_savingMost yX8_savingMost ∈ GW := gw_p2 (q := (yX8_savingMost, 5)) (List.mem_of_getElem? (i := 9) rfl) rfl
theorem se_X3_settle : Cond.selects RX3 yX3_settle yX3_settle ∈ GW := gw_p2 (q := (yX3_settle, 10)) (List.mem_of_getElem? (i := 10) rfl) rfl
theorem se_X3_weigh : Cond.selects RX3 yX3_weigh yX3_weigh ∈ GW := gw_p2 (q := (yX3_weigh, 10)) (List.mem_of_getElem? (i := 11) rfl) rfl
theorem se_X3_fewestOf : Cond.selects RX3 yX3_fewestOf yX3_fewestOf ∈ GW := gw_p2 (q := (yX3_fewestOf, 10)) (List.mem_of_getElem? (i := 12) rfl) rfl
theorem se_X9_shareState : Cond.selects RX9 yX9_shareState yX9_shareState ∈ GW := gw_p2 (q := (yX9_shareState, 14)) (List.mem_of_getElem? (i := 13) rfl) rfl
theorem se_X7_byParts : Cond.selects RX7 yX7_byParts yX7_byParts ∈ GW := gw_p2 (q := (yX7_byParts, 1)) (List.mem_of_getElem? (i := 14) rfl) rfl
theorem se_X7_sumUpTo : Cond.selects RX7 yX7_sumUpTo yX7_sumUpTo ∈ GW := gw_p2 (q := (yX7_sumUpTo, 1)) (List.mem_of_getElem? (i := 15) rfl) rfl
theorem se_X7_level : Cond.selects RX7 yX7_level yX7_level ∈ GW := gw_p3 (q := (yX7_level, 1)) (List.mem_of_getElem? (i := 0) rfl) rfl
theorem se_X9_bestAsked : Cond.selects RX9 yX9_bestAsked yX9_bestAsked ∈ GW := gw_p3 (q := (yX9_bestAsked, 14)) (List.mem_of_getElem? (i := 1) rfl) rfl
theorem se_X9_lossIfAsked : Cond.selects RX9 yX9_lossIfAsked yX9_lossIfAsked ∈ GW := gw_p3 (q := (yX9_lossIfAsked, 14)) (List.mem_of_getElem? (i := 2) rfl) rfl
theorem se_X9_costOfHeld : Cond.selects RX9 yX9_costOfHeld yX9_costOfHeld ∈ GW := gw_p3 (q := (yX9_costOfHeld, 14)) (List.mem_of_getElem? (i := 3) rfl) rfl
theorem se_X9_costOfTwoStores : Cond.selects RX9 yX9_costOfTwoStores yX9_costOfTwoStores ∈ GW := gw_p3 (q := (yX9_costOfTwoStores, 14)) (List.mem_of_getElem? (i := 4) rfl) rfl
theorem se_X0_draw : Cond.selects RX0 yX0_draw yX0_draw ∈ GW := gw_p3 (q := (yX0_draw, 1)) (List.mem_of_getElem? (i := 5) rfl) rfl
theorem se_X9_slotsInUse : Cond.selects RX9 yX9_slotsInUse yX9_slotsInUse ∈ GW := gw_p3 (q := (yX9_slotsInUse, 14)) (List.mem_of_getElem? (i := 6) rfl) rfl
theorem se_X10_four : Cond.selects RX10 yX10_four yX10_four ∈ GW := gw_p3 (q := (yX10_four, 43)) (List.mem_of_getElem? (i := 7) rfl) rfl
theorem se_X10_clears : Cond.selects RX10 yX10_clears yX10_clears ∈ GW := gw_p3 (q := (yX10_clears, 43)) (List.mem_of_getElem? (i := 8) rfl) rfl
theorem se_X10_begins : Cond.selects RX10 yX10_begins yX10_begins ∈ GW := gw_p3 (q := (yX10_begins, 43)) (List.mem_of_getElem? (i := 9) rfl) rfl
theorem se_X10_next : Cond.selects RX10 yX10_next yX10_next ∈ GW := gw_p3 (q := (yX10_next, 43)) (List.mem_of_getElem? (i := 10) rfl) rfl
theorem se_X10_isByte : Cond.selects RX10 yX10_isByte yX10_isByte ∈ GW := gw_p3 (q := (yX10_isByte, 43)) (List.mem_of_getElem? (i := 11) rfl) rfl
theorem se_X10_isGood : Cond.selects RX10 yX10_isGood yX10_isGood ∈ GW := gw_p3 (q := (yX10_isGood, 43)) (List.mem_of_getElem? (i := 12) rfl) rfl
theorem se_X10_winterLine : Cond.selects RX10 yX10_winterLine yX10_winterLine ∈ GW := gw_p3 (q := (yX10_winterLine, 43)) (List.mem_of_getElem? (i := 13) rfl) rfl
theorem se_X10_asks : Cond.selects RX10 yX10_asks yX10_asks ∈ GW := gw_p3 (q := (yX10_asks, 43)) (List.mem_of_getElem? (i := 14) rfl) rfl
theorem se_X10_takes : Cond.selects RX10 yX10_takes yX10_takes ∈ GW := gw_p3 (q := (yX10_takes, 43)) (List.mem_of_getElem? (i := 15) rfl) rfl
theorem se_X10_is : Cond.selects RX10 yX10_is yX10_is ∈ GW := gw_p4 (q := (yX10_is, 43)) (List.mem_of_getElem? (i := 0) rfl) rfl
theorem se_X10_fails : Cond.selects RX10 yX10_fails yX10_fails ∈ GW := gw_p4 (q := (yX10_fails, 43)) (List.mem_of_getElem? (i := 1) rfl) rfl
theorem se_X10_number_ : Cond.selects RX10 yX10_number_ yX10_number_ ∈ GW := gw_p4 (q := (yX10_number_, 43)) (List.mem_of_getElem? (i := 2) rfl) rfl
theorem se_X10_number : Cond.selects RX10 yX10_number yX10_number ∈ GW := gw_p4 (q := (yX10_number, 43)) (List.mem_of_getElem? (i := 3) rfl) rfl
theorem se_X10_line : Cond.selects RX10 yX10_line yX10_line ∈ GW := gw_p4 (q := (yX10_line, 43)) (List.mem_of_getElem? (i := 4) rfl) rfl
theorem se_X10_onceLine : Cond.selects RX10 yX10_onceLine yX10_onceLine ∈ GW := gw_p4 (q := (yX10_onceLine, 43)) (List.mem_of_getElem? (i := 5) rfl) rfl
theorem se_X10_thingLine : Cond.selects RX10 yX10_thingLine yX10_thingLine ∈ GW := gw_p4 (q := (yX10_thingLine, 43)) (List.mem_of_getElem? (i := 6) rfl) rfl
theorem se_X10_valleyLine : Cond.selects RX10 yX10_valleyLine yX10_valleyLine ∈ GW := gw_p4 (q := (yX10_valleyLine, 43)) (List.mem_of_getElem? (i := 7) rfl) rfl
theorem se_X10_pathLine : Cond.selects RX10 yX10_pathLine yX10_pathLine ∈ GW := gw_p4 (q := (yX10_pathLine, 43)) (List.mem_of_getElem? (i := 8) rfl) rfl
theorem se_X10_ends : Cond.selects RX10 yX10_ends yX10_ends ∈ GW := gw_p4 (q := (yX10_ends, 43)) (List.mem_of_getElem? (i := 9) rfl) rfl
theorem se_X10_isOver : Cond.selects RX10 yX10_isOver yX10_isOver ∈ GW := gw_p4 (q := (yX10_isOver, 43)) (List.mem_of_getElem? (i := 10) rfl) rfl
theorem se_X10_copyLand : Cond.selects RX10 yX10_copyLand yX10_copyLand ∈ GW := gw_p4 (q := (yX10_copyLand, 43)) (List.mem_of_getElem? (i := 11) rfl) rfl
theorem se_X10_isValley : Cond.selects RX10 yX10_isValley yX10_isValley ∈ GW := gw_p4 (q := (yX10_isValley, 43)) (List.mem_of_getElem? (i := 12) rfl) rfl
theorem se_X10_lastDay : Cond.selects RX10 yX10_lastDay yX10_lastDay ∈ GW := gw_p4 (q := (yX10_lastDay, 43)) (List.mem_of_getElem? (i := 13) rfl) rfl
theorem se_X10_splits : Cond.selects RX10 yX10_splits yX10_splits ∈ GW := gw_p4 (q := (yX10_splits, 43)) (List.mem_of_getElem? (i := 14) rfl) rfl
theorem se_X10_chance : Cond.selects RX10 yX10_chance yX10_chance ∈ GW := gw_p4 (q := (yX10_chance, 43)) (List.mem_of_getElem? (i := 15) rfl) rfl
theorem se_X10_shutOf : Cond.selects RX10 yX10_shutOf yX10_shutOf ∈ GW := gw_p5 (q := (yX10_shutOf, 43)) (List.mem_of_getElem? (i := 0) rfl) rfl
theorem se_X10_isDay : Cond.selects RX10 yX10_isDay yX10_isDay ∈ GW := gw_p5 (q := (yX10_isDay, 43)) (List.mem_of_getElem? (i := 1) rfl) rfl
theorem se_X10_byDay : Cond.selects RX10 yX10_byDay yX10_byDay ∈ GW := gw_p5 (q := (yX10_byDay, 43)) (List.mem_of_getElem? (i := 2) rfl) rfl
theorem se_X10_areTwo : Cond.selects RX10 yX10_areTwo yX10_areTwo ∈ GW := gw_p5 (q := (yX10_areTwo, 43)) (List.mem_of_getElem? (i := 3) rfl) rfl
theorem se_X10_splitsTwo : Cond.selects RX10 yX10_splitsTwo yX10_splitsTwo ∈ GW := gw_p5 (q := (yX10_splitsTwo, 43)) (List.mem_of_getElem? (i := 4) rfl) rfl
theorem se_X10_falls : Cond.selects RX10 yX10_falls yX10_falls ∈ GW := gw_p5 (q := (yX10_falls, 43)) (List.mem_of_getElem? (i := 5) rfl) rfl
theorem se_X10_fallsOther : Cond.selects RX10 yX10_fallsOther yX10_fallsOther ∈ GW := gw_p5 (q := (yX10_fallsOther, 43)) (List.mem_of_getElem? (i := 6) rfl) rfl
theorem se_X10_two : Cond.selects RX10 yX10_two yX10_two ∈ GW := gw_p5 (q := (yX10_two, 43)) (List.mem_of_getElem? (i := 7) rfl) rfl
theorem se_X10_splitsAll : Cond.selects RX10 yX10_splitsAll yX10_splitsAll ∈ GW := gw_p5 (q := (yX10_splitsAll, 43)) (List.mem_of_getElem? (i := 8) rfl) rfl
theorem se_X10_fallsOn : Cond.selects RX10 yX10_fallsOn yX10_fallsOn ∈ GW := gw_p5 (q := (yX10_fallsOn, 43)) (List.mem_of_getElem? (i := 9) rfl) rfl
theorem se_X10_isThing : Cond.selects RX10 yX10_isThing yX10_isThing ∈ GW := gw_p5 (q := (yX10_isThing, 43)) (List.mem_of_getElem? (i := 10) rfl) rfl
theorem se_X10_wantsOf : Cond.selects RX10 yX10_wantsOf yX10_wantsOf ∈ GW := gw_p5 (q := (yX10_wantsOf, 43)) (List.mem_of_getElem? (i := 11) rfl) rfl
theorem se_X10_wantOf : Cond.selects RX10 yX10_wantOf yX10_wantOf ∈ GW := gw_p5 (q := (yX10_wantOf, 43)) (List.mem_of_getElem? (i := 12) rfl) rfl
theorem se_X10_isStore : Cond.selects RX10 yX10_isStore yX10_isStore ∈ GW := gw_p5 (q := (yX10_isStore, 43)) (List.mem_of_getElem? (i := 13) rfl) rfl
theorem se_X10_areSacks : Cond.selects RX10 yX10_areSacks yX10_areSacks ∈ GW := gw_p5 (q := (yX10_areSacks, 43)) (List.mem_of_getElem? (i := 14) rfl) rfl
theorem se_X10_costOf : Cond.selects RX10 yX10_costOf yX10_costOf ∈ GW := gw_p5 (q := (yX10_costOf, 43)) (List.mem_of_getElem? (i := 15) rfl) rfl
theorem se_X10_priceOf : Cond.selects RX10 yX10_priceOf yX10_priceOf ∈ GW := gw_p6 (q := (yX10_priceOf, 43)) (List.mem_of_getElem? (i := 0) rfl) rfl
theorem se_X10_outcome : Cond.selects RX10 yX10_outcome yX10_outcome ∈ GW := gw_p6 (q := (yX10_outcome, 43)) (List.mem_of_getElem? (i := 1) rfl) rfl
theorem se_X10_harmOf : Cond.selects RX10 yX10_harmOf yX10_harmOf ∈ GW := gw_p6 (q := (yX10_harmOf, 43)) (List.mem_of_getElem? (i := 2) rfl) rfl
theorem se_X10_backOf : Cond.selects RX10 yX10_backOf yX10_backOf ∈ GW := gw_p6 (q := (yX10_backOf, 43)) (List.mem_of_getElem? (i := 3) rfl) rfl
theorem se_X10_bestOf : Cond.selects RX10 yX10_bestOf yX10_bestOf ∈ GW := gw_p6 (q := (yX10_bestOf, 43)) (List.mem_of_getElem? (i := 4) rfl) rfl
theorem se_X10_lacking : Cond.selects RX10 yX10_lacking yX10_lacking ∈ GW := gw_p6 (q := (yX10_lacking, 43)) (List.mem_of_getElem? (i := 5) rfl) rfl
theorem se_X10_packs : Cond.selects RX10 yX10_packs yX10_packs ∈ GW := gw_p6 (q := (yX10_packs, 43)) (List.mem_of_getElem? (i := 6) rfl) rfl
theorem se_X10_lateOf : Cond.selects RX10 yX10_lateOf yX10_lateOf ∈ GW := gw_p6 (q := (yX10_lateOf, 43)) (List.mem_of_getElem? (i := 7) rfl) rfl
theorem se_X10_comes : Cond.selects RX10 yX10_comes yX10_comes ∈ GW := gw_p6 (q := (yX10_comes, 43)) (List.mem_of_getElem? (i := 8) rfl) rfl
theorem se_X10_fewest : Cond.selects RX10 yX10_fewest yX10_fewest ∈ GW := gw_p6 (q := (yX10_fewest, 43)) (List.mem_of_getElem? (i := 9) rfl) rfl
theorem se_X10_sends : Cond.selects RX10 yX10_sends yX10_sends ∈ GW := gw_p6 (q := (yX10_sends, 43)) (List.mem_of_getElem? (i := 10) rfl) rfl
theorem se_X10_canSend : Cond.selects RX10 yX10_canSend yX10_canSend ∈ GW := gw_p6 (q := (yX10_canSend, 43)) (List.mem_of_getElem? (i := 11) rfl) rfl
theorem se_X10_forks : Cond.selects RX10 yX10_forks yX10_forks ∈ GW := gw_p6 (q := (yX10_forks, 43)) (List.mem_of_getElem? (i := 12) rfl) rfl
theorem se_X10_forkOf : Cond.selects RX10 yX10_forkOf yX10_forkOf ∈ GW := gw_p6 (q := (yX10_forkOf, 43)) (List.mem_of_getElem? (i := 13) rfl) rfl
theorem se_X10_middleOf : Cond.selects RX10 yX10_middleOf yX10_middleOf ∈ GW := gw_p6 (q := (yX10_middleOf, 43)) (List.mem_of_getElem? (i := 14) rfl) rfl
theorem se_X10_flownOf : Cond.selects RX10 yX10_flownOf yX10_flownOf ∈ GW := gw_p6 (q := (yX10_flownOf, 43)) (List.mem_of_getElem? (i := 15) rfl) rfl
theorem se_X10_byPlane : Cond.selects RX10 yX10_byPlane yX10_byPlane ∈ GW := gw_p7 (q := (yX10_byPlane, 43)) (List.mem_of_getElem? (i := 0) rfl) rfl
theorem se_X10_pathOf : Cond.selects RX10 yX10_pathOf yX10_pathOf ∈ GW := gw_p7 (q := (yX10_pathOf, 43)) (List.mem_of_getElem? (i := 1) rfl) rfl
theorem se_X10_fedBy : Cond.selects RX10 yX10_fedBy yX10_fedBy ∈ GW := gw_p7 (q := (yX10_fedBy, 43)) (List.mem_of_getElem? (i := 2) rfl) rfl
theorem se_X10_whyNot : Cond.selects RX10 yX10_whyNot yX10_whyNot ∈ GW := gw_p7 (q := (yX10_whyNot, 43)) (List.mem_of_getElem? (i := 3) rfl) rfl
theorem se_X10_isAsking : Cond.selects RX10 yX10_isAsking yX10_isAsking ∈ GW := gw_p7 (q := (yX10_isAsking, 43)) (List.mem_of_getElem? (i := 4) rfl) rfl
theorem se_X10_givenBy : Cond.selects RX10 yX10_givenBy yX10_givenBy ∈ GW := gw_p7 (q := (yX10_givenBy, 43)) (List.mem_of_getElem? (i := 5) rfl) rfl
theorem se_X10_askedBy : Cond.selects RX10 yX10_askedBy yX10_askedBy ∈ GW := gw_p7 (q := (yX10_askedBy, 43)) (List.mem_of_getElem? (i := 6) rfl) rfl
theorem se_X10_bestAsk : Cond.selects RX10 yX10_bestAsk yX10_bestAsk ∈ GW := gw_p7 (q := (yX10_bestAsk, 43)) (List.mem_of_getElem? (i := 7) rfl) rfl
theorem se_X10_lossOf : Cond.selects RX10 yX10_lossOf yX10_lossOf ∈ GW := gw_p7 (q := (yX10_lossOf, 43)) (List.mem_of_getElem? (i := 8) rfl) rfl
theorem se_X10_standing : Cond.selects RX10 yX10_standing yX10_standing ∈ GW := gw_p7 (q := (yX10_standing, 43)) (List.mem_of_getElem? (i := 9) rfl) rfl
theorem se_X10_spreadOf : Cond.selects RX10 yX10_spreadOf yX10_spreadOf ∈ GW := gw_p7 (q := (yX10_spreadOf, 43)) (List.mem_of_getElem? (i := 10) rfl) rfl
theorem se_X10_draws : Cond.selects RX10 yX10_draws yX10_draws ∈ GW := gw_p7 (q := (yX10_draws, 43)) (List.mem_of_getElem? (i := 11) rfl) rfl
theorem se_X10_drawn : Cond.selects RX10 yX10_drawn yX10_drawn ∈ GW := gw_p7 (q := (yX10_drawn, 43)) (List.mem_of_getElem? (i := 12) rfl) rfl
theorem se_X10_tellsYear : Cond.selects RX10 yX10_tellsYear yX10_tellsYear ∈ GW := gw_p7 (q := (yX10_tellsYear, 43)) (List.mem_of_getElem? (i := 13) rfl) rfl
theorem se_X10_firstLack : Cond.selects RX10 yX10_firstLack yX10_firstLack ∈ GW := gw_p7 (q := (yX10_firstLack, 43)) (List.mem_of_getElem? (i := 14) rfl) rfl
theorem se_X10_whyNotJudged : Cond.selects RX10 yX10_whyNotJudged yX10_whyNotJudged ∈ GW := gw_p7 (q := (yX10_whyNotJudged, 43)) (List.mem_of_getElem? (i := 15) rfl) rfl
theorem se_X10_judged : Cond.selects RX10 yX10_judged yX10_judged ∈ GW := gw_p8 (q := (yX10_judged, 43)) (List.mem_of_getElem? (i := 0) rfl) rfl
theorem se_X10_copyAll : Cond.selects RX10 yX10_copyAll yX10_copyAll ∈ GW := gw_p8 (q := (yX10_copyAll, 43)) (List.mem_of_getElem? (i := 1) rfl) rfl
theorem lay_X0 : ∀ w ∈ wsX00, w ∈ GW := by
  intro w hw
  obtain ⟨k, hk, rfl⟩ := List.mem_map.mp hw
  have hk := List.mem_range.mp hk
  match k, hk with
  | 0, _ => exact ly_X0_x
  | j + 1, h => exact absurd h (by omega)
theorem lay_X1 : ∀ w ∈ wsX10, w ∈ GW := by
  intro w hw
  obtain ⟨k, hk, rfl⟩ := List.mem_map.mp hw
  have hk := List.mem_range.mp hk
  match k, hk with
  | 0, _ => exact ly_X1_land
  | 1, _ => exact ly_X1_year
  | j + 2, h => exact absurd h (by omega)
theorem lay_X2 : ∀ w ∈ wsX20, w ∈ GW := by
  intro w hw
  obtain ⟨k, hk, rfl⟩ := List.mem_map.mp hw
  have hk := List.mem_range.mp hk
  match k, hk with
  | 0, _ => exact ly_X2_lines
  | 1, _ => exact ly_X2_days
  | 2, _ => exact ly_X2_first
  | 3, _ => exact ly_X2_snow
  | 4, _ => exact ly_X2_clear
  | 5, _ => exact ly_X2_things
  | 6, _ => exact ly_X2_valleys
  | 7, _ => exact ly_X2_paths
  | 8, _ => exact ly_X2_lorries
  | 9, _ => exact ly_X2_load
  | 10, _ => exact ly_X2_fare
  | 11, _ => exact ly_X2_planeLoad
  | 12, _ => exact ly_X2_planeFare
  | 13, _ => exact ly_X2_mule
  | 14, _ => exact ly_X2_price
  | 15, _ => exact ly_X2_harm
  | 16, _ => exact ly_X2_returning
  | 17, _ => exact ly_X2_closing
  | 18, _ => exact ly_X2_room
  | 19, _ => exact ly_X2_eats
  | 20, _ => exact ly_X2_pathDays
  | j + 21, h => exact absurd h (by omega)
theorem lay_X3 : ∀ w ∈ wsX30, w ∈ GW := by
  intro w hw
  obtain ⟨k, hk, rfl⟩ := List.mem_map.mp hw
  have hk := List.mem_range.mp hk
  match k, hk with
  | 0, _ => exact ly_X3_snowy
  | 1, _ => exact ly_X3_clear
  | 2, _ => exact ly_X3_lastSent
  | 3, _ => exact ly_X3_land
  | 4, _ => exact ly_X3_valley
  | 5, _ => exact ly_X3_thing
  | 6, _ => exact ly_X3_lying
  | 7, _ => exact ly_X3_fullest
  | 8, _ => exact ly_X3_load
  | 9, _ => exact ly_X3_fare
  | j + 10, h => exact absurd h (by omega)
theorem lay_X4 : ∀ w ∈ wsX40, w ∈ GW := by
  intro w hw
  obtain ⟨k, hk, rfl⟩ := List.mem_map.mp hw
  have hk := List.mem_range.mp hk
  match k, hk with
  | 0, _ => exact ly_X4_fault
  | 1, _ => exact ly_X4_faultPlace
  | 2, _ => exact ly_X4_tape
  | 3, _ => exact ly_X4_length
  | 4, _ => exact ly_X4_kind
  | 5, _ => exact ly_X4_start
  | 6, _ => exact ly_X4_stop
  | 7, _ => exact ly_X4_number
  | 8, _ => exact ly_X4_land
  | 9, _ => exact ly_X4_lorryTold
  | 10, _ => exact ly_X4_planeTold
  | 11, _ => exact ly_X4_muleTold
  | j + 12, h => exact absurd h (by omega)
theorem lay_X5 : ∀ w ∈ wsX50, w ∈ GW := by
  intro w hw
  obtain ⟨k, hk, rfl⟩ := List.mem_map.mp hw
  have hk := List.mem_range.mp hk
  match k, hk with
  | 0, _ => exact ly_X5_one
  | 1, _ => exact ly_X5_two
  | 2, _ => exact ly_X5_snowyTwo
  | 3, _ => exact ly_X5_clearTwo
  | 4, _ => exact ly_X5_snowyAll
  | 5, _ => exact ly_X5_clearAll
  | 6, _ => exact ly_X5_splitAll
  | j + 7, h => exact absurd h (by omega)
theorem lay_X6 : ∀ w ∈ wsX60, w ∈ GW := by
  intro w hw
  obtain ⟨k, hk, rfl⟩ := List.mem_map.mp hw
  have hk := List.mem_range.mp hk
  match k, hk with
  | 0, _ => exact ly_X6_width
  | 1, _ => exact ly_X6_numbers
  | j + 2, h => exact absurd h (by omega)
theorem lay_X7 : ∀ w ∈ wsX70, w ∈ GW := by
  intro w hw
  obtain ⟨k, hk, rfl⟩ := List.mem_map.mp hw
  have hk := List.mem_range.mp hk
  match k, hk with
  | 0, _ => exact ly_X7_asked
  | j + 1, h => exact absurd h (by omega)
theorem lay_X8 : ∀ w ∈ wsX80, w ∈ GW := by
  intro w hw
  obtain ⟨k, hk, rfl⟩ := List.mem_map.mp hw
  have hk := List.mem_range.mp hk
  match k, hk with
  | 0, _ => exact ly_X8_roads
  | 1, _ => exact ly_X8_parts
  | 2, _ => exact ly_X8_wantedMost
  | 3, _ => exact ly_X8_wholes
  | 4, _ => exact ly_X8_packing
  | j + 5, h => exact absurd h (by omega)
theorem lay_X9 : ∀ w ∈ wsX90, w ∈ GW := by
  intro w hw
  obtain ⟨k, hk, rfl⟩ := List.mem_map.mp hw
  have hk := List.mem_range.mp hk
  match k, hk with
  | 0, _ => exact ly_X9_tape
  | 1, _ => exact ly_X9_reader
  | 2, _ => exact ly_X9_stores
  | 3, _ => exact ly_X9_planner
  | 4, _ => exact ly_X9_sharing
  | 5, _ => exact ly_X9_dice
  | 6, _ => exact ly_X9_drawn
  | 7, _ => exact ly_X9_slots
  | 8, _ => exact ly_X9_images
  | 9, _ => exact ly_X9_taped
  | 10, _ => exact ly_X9_land
  | 11, _ => exact ly_X9_year
  | 12, _ => exact ly_X9_faultKind
  | 13, _ => exact ly_X9_faultPlace
  | j + 14, h => exact absurd h (by omega)
theorem lay_X10 : ∀ w ∈ wsX100, w ∈ GW := by
  intro w hw
  obtain ⟨k, hk, rfl⟩ := List.mem_map.mp hw
  have hk := List.mem_range.mp hk
  match k, hk with
  | 0, _ => exact ly_X10_thrown
  | 1, _ => exact ly_X10_width
  | 2, _ => exact ly_X10_many
  | 3, _ => exact ly_X10_cells
  | 4, _ => exact ly_X10_moved
  | 5, _ => exact ly_X10_tape
  | 6, _ => exact ly_X10_taped
  | 7, _ => exact ly_X10_at
  | 8, _ => exact ly_X10_token
  | 9, _ => exact ly_X10_place
  | 10, _ => exact ly_X10_value
  | 11, _ => exact ly_X10_word
  | 12, _ => exact ly_X10_bad
  | 13, _ => exact ly_X10_badPlace
  | 14, _ => exact ly_X10_fault
  | 15, _ => exact ly_X10_faultPlace
  | 16, _ => exact ly_X10_lines
  | 17, _ => exact ly_X10_winter
  | 18, _ => exact ly_X10_things
  | 19, _ => exact ly_X10_thing
  | 20, _ => exact ly_X10_valleys
  | 21, _ => exact ly_X10_valley
  | 22, _ => exact ly_X10_paths
  | 23, _ => exact ly_X10_path
  | 24, _ => exact ly_X10_set
  | 25, _ => exact ly_X10_once
  | 26, _ => exact ly_X10_hasYear
  | 27, _ => exact ly_X10_year
  | 28, _ => exact ly_X10_isKept
  | 29, _ => exact ly_X10_shutOn
  | 30, _ => exact ly_X10_twoSnow
  | 31, _ => exact ly_X10_twoClear
  | 32, _ => exact ly_X10_snowing
  | 33, _ => exact ly_X10_setSnow
  | 34, _ => exact ly_X10_setClear
  | 35, _ => exact ly_X10_split
  | 36, _ => exact ly_X10_costs
  | 37, _ => exact ly_X10_leastFrom
  | 38, _ => exact ly_X10_toCome
  | 39, _ => exact ly_X10_byWants
  | 40, _ => exact ly_X10_asked
  | 41, _ => exact ly_X10_drawnYear
  | 42, _ => exact ly_X10_x
  | j + 43, h => exact absurd h (by omega)
