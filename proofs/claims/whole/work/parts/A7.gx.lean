/-! The words of the tables that the constructors need. -/
def GX : List Cond := [.methodLink (clR 0) 3 Lib.objectInit, .methodLink (clR 1) 3 Lib.objectInit, .methodLink (clR 2) 3 Lib.objectInit, .methodLink (clR 3) 3 Lib.objectInit, .methodLink (clR 4) 3 Lib.objectInit, .methodLink (clR 5) 3 Lib.objectInit, .methodLink (clR 6) 3 Lib.objectInit, .methodLink (clR 7) 3 Lib.objectInit, .methodLink (clR 8) 3 Lib.objectInit, .methodLink (clR 9) 3 Lib.objectInit, .methodLink (clR 10) 3 Lib.objectInit, .methodLink (clR 11) 1 Lib.objectInit, .instanceMethod Lib.objectInit, .code Lib.objectInit ⟨#[0xb1]⟩ 1 none, .instanceMethod yX0_init, .code yX0_init cX0_init 2 none, .instantiable (clR 0) (nf 0), .instanceMethod yX1_init, .code yX1_init cX1_init 1 none, .instantiable (clR 1) (nf 1), .instanceMethod yX2_init, .code yX2_init cX2_init 1 none, .instantiable (clR 2) (nf 2), .instanceMethod yX3_init, .code yX3_init cX3_init 1 none, .instantiable (clR 3) (nf 3), .instanceMethod yX4_init, .code yX4_init cX4_init 1 none, .instantiable (clR 4) (nf 4), .instanceMethod yX5_init, .code yX5_init cX5_init 1 none, .instantiable (clR 5) (nf 5), .instanceMethod yX6_init, .code yX6_init cX6_init 1 none, .instantiable (clR 6) (nf 6), .instanceMethod yX7_init, .code yX7_init cX7_init 1 none, .instantiable (clR 7) (nf 7), .instanceMethod yX8_init, .code yX8_init cX8_init 1 none, .instantiable (clR 8) (nf 8), .instanceMethod yX9_init, .code yX9_init cX9_init 1 none, .instantiable (clR 9) (nf 9), .instanceMethod yX10_init, .code yX10_init cX10_init 1 none, .instantiable (clR 10) (nf 10), .instanceMethod yX11_init, .code yX11_init cX11_init 1 none, .instantiable (clR 11) (nf 11), .arrayClass .int, .arrayClass .boolean, .arrayClass .long, .classLink (clR 12) 7 (clR 10), .classLink (clR 10) 9 (clR 7), .classLink (clR 10) 16 (clR 5), .classLink (clR 5) 18 (clR 9), .classLink (clR 5) 25 (clR 3), .classLink (clR 3) 46 "[[I", .classLink (clR 3) 54 (clR 6), .classLink (clR 10) 23 (clR 6), .classLink (clR 10) 33 (clR 0), .classLink (clR 0) 15 (clR 6), .classLink (clR 10) 40 (clR 3), .classLink (clR 10) 47 (clR 1), .classLink (clR 1) 9 (clR 8), .classLink (clR 8) 18 "[[I", .classLink (clR 1) 18 (clR 4), .classLink (clR 4) 9 "[[I", .classLink (clR 1) 54 (clR 3), .classLink (clR 1) 61 (clR 6), .classLink (clR 10) 54 (clR 2), .classLink (clR 12) 10 (clR 11), .methodLink (clR 10) 35 yX0_init, .methodLink (clR 12) 9 yX10_init, .methodLink (clR 12) 12 yX11_init, flW (0, 9, 0, 0), flW (0, 17, 0, 1), flW (0, 21, 0, 2), flW (1, 12, 1, 0), flW (1, 21, 1, 1), flW (1, 25, 1, 2), flW (1, 29, 1, 3), flW (1, 32, 1, 4), flW (1, 35, 1, 5), flW (1, 38, 1, 6), flW (1, 41, 1, 7), flW (1, 45, 1, 8), flW (1, 48, 1, 9), flW (1, 51, 1, 10), flW (1, 57, 1, 11), flW (1, 64, 1, 12), flW (1, 68, 1, 13), flW (1, 71, 1, 14), flW (1, 74, 1, 15), flW (1, 77, 1, 16), flW (1, 80, 1, 17), flW (2, 9, 2, 0), flW (2, 15, 2, 1), flW (2, 19, 2, 2), flW (2, 22, 2, 3), flW (2, 26, 2, 4), flW (3, 9, 3, 0), flW (3, 15, 3, 1), flW (3, 18, 3, 2), flW (3, 21, 3, 3), flW (3, 24, 3, 4), flW (3, 28, 3, 5), flW (3, 31, 3, 6), flW (3, 34, 3, 7), flW (3, 37, 3, 8), flW (3, 40, 3, 9), flW (3, 43, 3, 10), flW (3, 48, 3, 11), flW (3, 51, 3, 12), flW (3, 57, 3, 13), flW (4, 11, 4, 0), flW (4, 16, 4, 1), flW (4, 19, 4, 2), flW (4, 22, 4, 3), flW (4, 25, 4, 4), flW (4, 29, 4, 5), flW (5, 9, 5, 0), flW (5, 15, 5, 1), flW (5, 21, 5, 2), flW (5, 28, 5, 3), flW (5, 32, 5, 4), flW (5, 35, 5, 5), flW (6, 9, 6, 0), flW (6, 15, 6, 1), flW (6, 18, 6, 2), flW (6, 21, 6, 3), flW (6, 25, 6, 4), flW (6, 28, 6, 5), flW (6, 31, 6, 6), flW (6, 34, 6, 7), flW (7, 9, 7, 0), flW (7, 15, 7, 1), flW (8, 9, 8, 0), flW (8, 15, 8, 1), flW (8, 20, 8, 2), flW (8, 23, 8, 3), flW (9, 9, 9, 0), flW (9, 15, 9, 1), flW (9, 18, 9, 2), flW (9, 21, 9, 3), flW (9, 25, 9, 4), flW (10, 12, 10, 0), flW (10, 19, 10, 1), flW (10, 26, 10, 2), flW (10, 30, 10, 3), flW (10, 36, 10, 4), flW (10, 43, 10, 5), flW (10, 50, 10, 6), flW (10, 57, 10, 7), flW (10, 61, 10, 8), flW (10, 65, 10, 9), flW (10, 68, 10, 10), flW (10, 72, 10, 11), flW (11, 7, 11, 0), flW (11, 13, 11, 1), flW (11, 17, 11, 2), flW (11, 20, 11, 3), flW (11, 23, 11, 4), flW (11, 26, 11, 5), flW (11, 29, 11, 6), flW (11, 32, 11, 7), flW (11, 36, 11, 8), flW (11, 39, 11, 9), flW (11, 42, 11, 10), flW (11, 45, 11, 11), flW (11, 48, 11, 12), flW (11, 51, 11, 13), flW (11, 54, 11, 14), flW (11, 57, 11, 15), flW (11, 61, 11, 16), flW (11, 64, 11, 17), flW (11, 67, 11, 18), flW (11, 70, 11, 19), flW (11, 73, 11, 20), flW (11, 76, 11, 21), flW (11, 79, 11, 22), flW (11, 82, 11, 23), flW (11, 85, 11, 24), flW (11, 88, 11, 25), flW (11, 91, 11, 26), flW (11, 94, 11, 27), flW (11, 97, 11, 28), flW (11, 100, 11, 29), flW (11, 103, 11, 30), flW (11, 106, 11, 31), flW (11, 109, 11, 32), flW (11, 112, 11, 33), flW (11, 115, 11, 34), flW (11, 118, 11, 35), flW (11, 121, 11, 36), flW (11, 124, 11, 37), flW (11, 127, 11, 38), flW (11, 130, 11, 39), flW (11, 133, 11, 40), flW (11, 136, 11, 41), flW (11, 139, 11, 42), flW (11, 142, 11, 43), flW (11, 145, 11, 44), flW (11, 148, 11, 45), flW (11, 151, 11, 46), flW (11, 154, 11, 47), flW (11, 157, 11, 48), flW (11, 160, 11, 49), flW (11, 163, 11, 50), flW (11, 166, 11, 51), flW (11, 169, 11, 52), flW (11, 172, 11, 53), flW (11, 175, 11, 54), flW (11, 178, 11, 55), flW (11, 181, 11, 56), flW (11, 184, 11, 57), flW (11, 187, 11, 58), flW (11, 190, 11, 59), flW (11, 193, 11, 60), flW (11, 196, 11, 61), flW (11, 199, 11, 62), flW (11, 202, 11, 63), flW (11, 205, 11, 64)]
def GC : List Cond := GX ++ GT
theorem GT_GC {w : Cond} (h : w ∈ GT) : w ∈ GC := List.mem_append_right _ h
set_option maxRecDepth 100000 in
theorem GX_all : GX.all goodWord = true := by decide +kernel
theorem GC_good {w : Cond} (h : w ∈ GC) : ((w.onTables && w.keeps) = true ∨ ∃ ty, w = .arrayClass ty) := (List.mem_append.mp h).elim (fun h => good_of_word (List.all_eq_true.mp GX_all w h)) GT_good
set_option maxRecDepth 100000 in
theorem gx_oi_0 : (.methodLink (clR 0) 3 Lib.objectInit : Cond) ∈ GC := List.mem_append_left _ (List.mem_of_getElem? (i := 0) rfl)
set_option maxRecDepth 100000 in
theorem gx_oi_1 : (.methodLink (clR 1) 3 Lib.objectInit : Cond) ∈ GC := List.mem_append_left _ (List.mem_of_getElem? (i := 1) rfl)
set_option maxRecDepth 100000 in
theorem gx_oi_2 : (.methodLink (clR 2) 3 Lib.objectInit : Cond) ∈ GC := List.mem_append_left _ (List.mem_of_getElem? (i := 2) rfl)
set_option maxRecDepth 100000 in
theorem gx_oi_3 : (.methodLink (clR 3) 3 Lib.objectInit : Cond) ∈ GC := List.mem_append_left _ (List.mem_of_getElem? (i := 3) rfl)
set_option maxRecDepth 100000 in
theorem gx_oi_4 : (.methodLink (clR 4) 3 Lib.objectInit : Cond) ∈ GC := List.mem_append_left _ (List.mem_of_getElem? (i := 4) rfl)
set_option maxRecDepth 100000 in
theorem gx_oi_5 : (.methodLink (clR 5) 3 Lib.objectInit : Cond) ∈ GC := List.mem_append_left _ (List.mem_of_getElem? (i := 5) rfl)
set_option maxRecDepth 100000 in
theorem gx_oi_6 : (.methodLink (clR 6) 3 Lib.objectInit : Cond) ∈ GC := List.mem_append_left _ (List.mem_of_getElem? (i := 6) rfl)
set_option maxRecDepth 100000 in
theorem gx_oi_7 : (.methodLink (clR 7) 3 Lib.objectInit : Cond) ∈ GC := List.mem_append_left _ (List.mem_of_getElem? (i := 7) rfl)
set_option maxRecDepth 100000 in
theorem gx_oi_8 : (.methodLink (clR 8) 3 Lib.objectInit : Cond) ∈ GC := List.mem_append_left _ (List.mem_of_getElem? (i := 8) rfl)
set_option maxRecDepth 100000 in
theorem gx_oi_9 : (.methodLink (clR 9) 3 Lib.objectInit : Cond) ∈ GC := List.mem_append_left _ (List.mem_of_getElem? (i := 9) rfl)
set_option maxRecDepth 100000 in
theorem gx_oi_10 : (.methodLink (clR 10) 3 Lib.objectInit : Cond) ∈ GC := List.mem_append_left _ (List.mem_of_getElem? (i := 10) rfl)
set_option maxRecDepth 100000 in
theorem gx_oi_11 : (.methodLink (clR 11) 1 Lib.objectInit : Cond) ∈ GC := List.mem_append_left _ (List.mem_of_getElem? (i := 11) rfl)
set_option maxRecDepth 100000 in
theorem gx_in : (.instanceMethod Lib.objectInit : Cond) ∈ GC := List.mem_append_left _ (List.mem_of_getElem? (i := 12) rfl)
set_option maxRecDepth 100000 in
theorem gx_co : (.code Lib.objectInit ⟨#[0xb1]⟩ 1 none : Cond) ∈ GC := List.mem_append_left _ (List.mem_of_getElem? (i := 13) rfl)
set_option maxRecDepth 100000 in
theorem gx_ii_0 : (.instanceMethod yX0_init : Cond) ∈ GC := List.mem_append_left _ (List.mem_of_getElem? (i := 14) rfl)
set_option maxRecDepth 100000 in
theorem gx_ic_0 : (.code yX0_init cX0_init 2 none : Cond) ∈ GC := List.mem_append_left _ (List.mem_of_getElem? (i := 15) rfl)
set_option maxRecDepth 100000 in
theorem gx_is_0 : (.instantiable (clR 0) (nf 0) : Cond) ∈ GC := List.mem_append_left _ (List.mem_of_getElem? (i := 16) rfl)
set_option maxRecDepth 100000 in
theorem gx_ii_1 : (.instanceMethod yX1_init : Cond) ∈ GC := List.mem_append_left _ (List.mem_of_getElem? (i := 17) rfl)
set_option maxRecDepth 100000 in
theorem gx_ic_1 : (.code yX1_init cX1_init 1 none : Cond) ∈ GC := List.mem_append_left _ (List.mem_of_getElem? (i := 18) rfl)
set_option maxRecDepth 100000 in
theorem gx_is_1 : (.instantiable (clR 1) (nf 1) : Cond) ∈ GC := List.mem_append_left _ (List.mem_of_getElem? (i := 19) rfl)
set_option maxRecDepth 100000 in
theorem gx_ii_2 : (.instanceMethod yX2_init : Cond) ∈ GC := List.mem_append_left _ (List.mem_of_getElem? (i := 20) rfl)
set_option maxRecDepth 100000 in
theorem gx_ic_2 : (.code yX2_init cX2_init 1 none : Cond) ∈ GC := List.mem_append_left _ (List.mem_of_getElem? (i := 21) rfl)
set_option maxRecDepth 100000 in
theorem gx_is_2 : (.instantiable (clR 2) (nf 2) : Cond) ∈ GC := List.mem_append_left _ (List.mem_of_getElem? (i := 22) rfl)
set_option maxRecDepth 100000 in
theorem gx_ii_3 : (.instanceMethod yX3_init : Cond) ∈ GC := List.mem_append_left _ (List.mem_of_getElem? (i := 23) rfl)
set_option maxRecDepth 100000 in
theorem gx_ic_3 : (.code yX3_init cX3_init 1 none : Cond) ∈ GC := List.mem_append_left _ (List.mem_of_getElem? (i := 24) rfl)
set_option maxRecDepth 100000 in
theorem gx_is_3 : (.instantiable (clR 3) (nf 3) : Cond) ∈ GC := List.mem_append_left _ (List.mem_of_getElem? (i := 25) rfl)
set_option maxRecDepth 100000 in
theorem gx_ii_4 : (.instanceMethod yX4_init : Cond) ∈ GC := List.mem_append_left _ (List.mem_of_getElem? (i := 26) rfl)
set_option maxRecDepth 100000 in
theorem gx_ic_4 : (.code yX4_init cX4_init 1 none : Cond) ∈ GC := List.mem_append_left _ (List.mem_of_getElem? (i := 27) rfl)
set_option maxRecDepth 100000 in
theorem gx_is_4 : (.instantiable (clR 4) (nf 4) : Cond) ∈ GC := List.mem_append_left _ (List.mem_of_getElem? (i := 28) rfl)
set_option maxRecDepth 100000 in
theorem gx_ii_5 : (.instanceMethod yX5_init : Cond) ∈ GC := List.mem_append_left _ (List.mem_of_getElem? (i := 29) rfl)
set_option maxRecDepth 100000 in
theorem gx_ic_5 : (.code yX5_init cX5_init 1 none : Cond) ∈ GC := List.mem_append_left _ (List.mem_of_getElem? (i := 30) rfl)
set_option maxRecDepth 100000 in
theorem gx_is_5 : (.instantiable (clR 5) (nf 5) : Cond) ∈ GC := List.mem_append_left _ (List.mem_of_getElem? (i := 31) rfl)
set_option maxRecDepth 100000 in
theorem gx_ii_6 : (.instanceMethod yX6_init : Cond) ∈ GC := List.mem_append_left _ (List.mem_of_getElem? (i := 32) rfl)
set_option maxRecDepth 100000 in
theorem gx_ic_6 : (.code yX6_init cX6_init 1 none : Cond) ∈ GC := List.mem_append_left _ (List.mem_of_getElem? (i := 33) rfl)
set_option maxRecDepth 100000 in
theorem gx_is_6 : (.instantiable (clR 6) (nf 6) : Cond) ∈ GC := List.mem_append_left _ (List.mem_of_getElem? (i := 34) rfl)
set_option maxRecDepth 100000 in
theorem gx_ii_7 : (.instanceMethod yX7_init : Cond) ∈ GC := List.mem_append_left _ (List.mem_of_getElem? (i := 35) rfl)
set_option maxRecDepth 100000 in
theorem gx_ic_7 : (.code yX7_init cX7_init 1 none : Cond) ∈ GC := List.mem_append_left _ (List.mem_of_getElem? (i := 36) rfl)
set_option maxRecDepth 100000 in
theorem gx_is_7 : (.instantiable (clR 7) (nf 7) : Cond) ∈ GC := List.mem_append_left _ (List.mem_of_getElem? (i := 37) rfl)
set_option maxRecDepth 100000 in
theorem gx_ii_8 : (.instanceMethod yX8_init : Cond) ∈ GC := List.mem_append_left _ (List.mem_of_getElem? (i := 38) rfl)
set_option maxRecDepth 100000 in
theorem gx_ic_8 : (.code yX8_init cX8_init 1 none : Cond) ∈ GC := List.mem_append_left _ (List.mem_of_getElem? (i := 39) rfl)
set_option maxRecDepth 100000 in
theorem gx_is_8 : (.instantiable (clR 8) (nf 8) : Cond) ∈ GC := List.mem_append_left _ (List.mem_of_getElem? (i := 40) rfl)
set_option maxRecDepth 100000 in
theorem gx_ii_9 : (.instanceMethod yX9_init : Cond) ∈ GC := List.mem_append_left _ (List.mem_of_getElem? (i := 41) rfl)
set_option maxRecDepth 100000 in
theorem gx_ic_9 : (.code yX9_init cX9_init 1 none : Cond) ∈ GC := List.mem_append_left _ (List.mem_of_getElem? (i := 42) rfl)
set_option maxRecDepth 100000 in
theorem gx_is_9 : (.instantiable (clR 9) (nf 9) : Cond) ∈ GC := List.mem_append_left _ (List.mem_of_getElem? (i := 43) rfl)
set_option maxRecDepth 100000 in
theorem gx_ii_10 : (.instanceMethod yX10_init : Cond) ∈ GC := List.mem_append_left _ (List.mem_of_getElem? (i := 44) rfl)
set_option maxRecDepth 100000 in
theorem gx_ic_10 : (.code yX10_init cX10_init 1 none : Cond) ∈ GC := List.mem_append_left _ (List.mem_of_getElem? (i := 45) rfl)
set_option maxRecDepth 100000 in
theorem gx_is_10 : (.instantiable (clR 10) (nf 10) : Cond) ∈ GC := List.mem_append_left _ (List.mem_of_getElem? (i := 46) rfl)
set_option maxRecDepth 100000 in
theorem gx_ii_11 : (.instanceMethod yX11_init : Cond) ∈ GC := List.mem_append_left _ (List.mem_of_getElem? (i := 47) rfl)
set_option maxRecDepth 100000 in
theorem gx_ic_11 : (.code yX11_init cX11_init 1 none : Cond) ∈ GC := List.mem_append_left _ (List.mem_of_getElem? (i := 48) rfl)
set_option maxRecDepth 100000 in
theorem gx_is_11 : (.instantiable (clR 11) (nf 11) : Cond) ∈ GC := List.mem_append_left _ (List.mem_of_getElem? (i := 49) rfl)
set_option maxRecDepth 100000 in
theorem gx_ai : (.arrayClass .int : Cond) ∈ GC := List.mem_append_left _ (List.mem_of_getElem? (i := 50) rfl)
set_option maxRecDepth 100000 in
theorem gx_az : (.arrayClass .boolean : Cond) ∈ GC := List.mem_append_left _ (List.mem_of_getElem? (i := 51) rfl)
set_option maxRecDepth 100000 in
theorem gx_aj : (.arrayClass .long : Cond) ∈ GC := List.mem_append_left _ (List.mem_of_getElem? (i := 52) rfl)
set_option maxRecDepth 100000 in
theorem gx_cl_12_7 : (.classLink (clR 12) 7 (clR 10) : Cond) ∈ GC := List.mem_append_left _ (List.mem_of_getElem? (i := 53) rfl)
set_option maxRecDepth 100000 in
theorem gx_cl_10_9 : (.classLink (clR 10) 9 (clR 7) : Cond) ∈ GC := List.mem_append_left _ (List.mem_of_getElem? (i := 54) rfl)
set_option maxRecDepth 100000 in
theorem gx_cl_10_16 : (.classLink (clR 10) 16 (clR 5) : Cond) ∈ GC := List.mem_append_left _ (List.mem_of_getElem? (i := 55) rfl)
set_option maxRecDepth 100000 in
theorem gx_cl_5_18 : (.classLink (clR 5) 18 (clR 9) : Cond) ∈ GC := List.mem_append_left _ (List.mem_of_getElem? (i := 56) rfl)
set_option maxRecDepth 100000 in
theorem gx_cl_5_25 : (.classLink (clR 5) 25 (clR 3) : Cond) ∈ GC := List.mem_append_left _ (List.mem_of_getElem? (i := 57) rfl)
set_option maxRecDepth 100000 in
theorem gx_ca_3 : (.classLink (clR 3) 46 "[[I" : Cond) ∈ GC := List.mem_append_left _ (List.mem_of_getElem? (i := 58) rfl)
set_option maxRecDepth 100000 in
theorem gx_cl_3_54 : (.classLink (clR 3) 54 (clR 6) : Cond) ∈ GC := List.mem_append_left _ (List.mem_of_getElem? (i := 59) rfl)
set_option maxRecDepth 100000 in
theorem gx_cl_10_23 : (.classLink (clR 10) 23 (clR 6) : Cond) ∈ GC := List.mem_append_left _ (List.mem_of_getElem? (i := 60) rfl)
set_option maxRecDepth 100000 in
theorem gx_cl_10_33 : (.classLink (clR 10) 33 (clR 0) : Cond) ∈ GC := List.mem_append_left _ (List.mem_of_getElem? (i := 61) rfl)
set_option maxRecDepth 100000 in
theorem gx_cl_0_15 : (.classLink (clR 0) 15 (clR 6) : Cond) ∈ GC := List.mem_append_left _ (List.mem_of_getElem? (i := 62) rfl)
set_option maxRecDepth 100000 in
theorem gx_cl_10_40 : (.classLink (clR 10) 40 (clR 3) : Cond) ∈ GC := List.mem_append_left _ (List.mem_of_getElem? (i := 63) rfl)
set_option maxRecDepth 100000 in
theorem gx_cl_10_47 : (.classLink (clR 10) 47 (clR 1) : Cond) ∈ GC := List.mem_append_left _ (List.mem_of_getElem? (i := 64) rfl)
set_option maxRecDepth 100000 in
theorem gx_cl_1_9 : (.classLink (clR 1) 9 (clR 8) : Cond) ∈ GC := List.mem_append_left _ (List.mem_of_getElem? (i := 65) rfl)
set_option maxRecDepth 100000 in
theorem gx_ca_8 : (.classLink (clR 8) 18 "[[I" : Cond) ∈ GC := List.mem_append_left _ (List.mem_of_getElem? (i := 66) rfl)
set_option maxRecDepth 100000 in
theorem gx_cl_1_18 : (.classLink (clR 1) 18 (clR 4) : Cond) ∈ GC := List.mem_append_left _ (List.mem_of_getElem? (i := 67) rfl)
set_option maxRecDepth 100000 in
theorem gx_ca_4 : (.classLink (clR 4) 9 "[[I" : Cond) ∈ GC := List.mem_append_left _ (List.mem_of_getElem? (i := 68) rfl)
set_option maxRecDepth 100000 in
theorem gx_cl_1_54 : (.classLink (clR 1) 54 (clR 3) : Cond) ∈ GC := List.mem_append_left _ (List.mem_of_getElem? (i := 69) rfl)
set_option maxRecDepth 100000 in
theorem gx_cl_1_61 : (.classLink (clR 1) 61 (clR 6) : Cond) ∈ GC := List.mem_append_left _ (List.mem_of_getElem? (i := 70) rfl)
set_option maxRecDepth 100000 in
theorem gx_cl_10_54 : (.classLink (clR 10) 54 (clR 2) : Cond) ∈ GC := List.mem_append_left _ (List.mem_of_getElem? (i := 71) rfl)
set_option maxRecDepth 100000 in
theorem gx_cl_12_10 : (.classLink (clR 12) 10 (clR 11) : Cond) ∈ GC := List.mem_append_left _ (List.mem_of_getElem? (i := 72) rfl)
set_option maxRecDepth 100000 in
theorem gx_mA : (.methodLink (clR 10) 35 yX0_init : Cond) ∈ GC := List.mem_append_left _ (List.mem_of_getElem? (i := 73) rfl)
set_option maxRecDepth 100000 in
theorem gx_mB : (.methodLink (clR 12) 9 yX10_init : Cond) ∈ GC := List.mem_append_left _ (List.mem_of_getElem? (i := 74) rfl)
set_option maxRecDepth 100000 in
theorem gx_mM : (.methodLink (clR 12) 12 yX11_init : Cond) ∈ GC := List.mem_append_left _ (List.mem_of_getElem? (i := 75) rfl)
set_option maxRecDepth 100000 in
theorem gx_f_0_0 : (flW (0, 9, 0, 0) : Cond) ∈ GC := List.mem_append_left _ (List.mem_of_getElem? (i := 76) rfl)
set_option maxRecDepth 100000 in
theorem gx_f_0_1 : (flW (0, 17, 0, 1) : Cond) ∈ GC := List.mem_append_left _ (List.mem_of_getElem? (i := 77) rfl)
set_option maxRecDepth 100000 in
theorem gx_f_0_2 : (flW (0, 21, 0, 2) : Cond) ∈ GC := List.mem_append_left _ (List.mem_of_getElem? (i := 78) rfl)
set_option maxRecDepth 100000 in
theorem gx_f_1_0 : (flW (1, 12, 1, 0) : Cond) ∈ GC := List.mem_append_left _ (List.mem_of_getElem? (i := 79) rfl)
set_option maxRecDepth 100000 in
theorem gx_f_1_1 : (flW (1, 21, 1, 1) : Cond) ∈ GC := List.mem_append_left _ (List.mem_of_getElem? (i := 80) rfl)
set_option maxRecDepth 100000 in
theorem gx_f_1_2 : (flW (1, 25, 1, 2) : Cond) ∈ GC := List.mem_append_left _ (List.mem_of_getElem? (i := 81) rfl)
set_option maxRecDepth 100000 in
theorem gx_f_1_3 : (flW (1, 29, 1, 3) : Cond) ∈ GC := List.mem_append_left _ (List.mem_of_getElem? (i := 82) rfl)
set_option maxRecDepth 100000 in
theorem gx_f_1_4 : (flW (1, 32, 1, 4) : Cond) ∈ GC := List.mem_append_left _ (List.mem_of_getElem? (i := 83) rfl)
set_option maxRecDepth 100000 in
theorem gx_f_1_5 : (flW (1, 35, 1, 5) : Cond) ∈ GC := List.mem_append_left _ (List.mem_of_getElem? (i := 84) rfl)
set_option maxRecDepth 100000 in
theorem gx_f_1_6 : (flW (1, 38, 1, 6) : Cond) ∈ GC := List.mem_append_left _ (List.mem_of_getElem? (i := 85) rfl)
set_option maxRecDepth 100000 in
theorem gx_f_1_7 : (flW (1, 41, 1, 7) : Cond) ∈ GC := List.mem_append_left _ (List.mem_of_getElem? (i := 86) rfl)
set_option maxRecDepth 100000 in
theorem gx_f_1_8 : (flW (1, 45, 1, 8) : Cond) ∈ GC := List.mem_append_left _ (List.mem_of_getElem? (i := 87) rfl)
set_option maxRecDepth 100000 in
theorem gx_f_1_9 : (flW (1, 48, 1, 9) : Cond) ∈ GC := List.mem_append_left _ (List.mem_of_getElem? (i := 88) rfl)
set_option maxRecDepth 100000 in
theorem gx_f_1_10 : (flW (1, 51, 1, 10) : Cond) ∈ GC := List.mem_append_left _ (List.mem_of_getElem? (i := 89) rfl)
set_option maxRecDepth 100000 in
theorem gx_f_1_11 : (flW (1, 57, 1, 11) : Cond) ∈ GC := List.mem_append_left _ (List.mem_of_getElem? (i := 90) rfl)
set_option maxRecDepth 100000 in
theorem gx_f_1_12 : (flW (1, 64, 1, 12) : Cond) ∈ GC := List.mem_append_left _ (List.mem_of_getElem? (i := 91) rfl)
set_option maxRecDepth 100000 in
theorem gx_f_1_13 : (flW (1, 68, 1, 13) : Cond) ∈ GC := List.mem_append_left _ (List.mem_of_getElem? (i := 92) rfl)
set_option maxRecDepth 100000 in
theorem gx_f_1_14 : (flW (1, 71, 1, 14) : Cond) ∈ GC := List.mem_append_left _ (List.mem_of_getElem? (i := 93) rfl)
set_option maxRecDepth 100000 in
theorem gx_f_1_15 : (flW (1, 74, 1, 15) : Cond) ∈ GC := List.mem_append_left _ (List.mem_of_getElem? (i := 94) rfl)
set_option maxRecDepth 100000 in
theorem gx_f_1_16 : (flW (1, 77, 1, 16) : Cond) ∈ GC := List.mem_append_left _ (List.mem_of_getElem? (i := 95) rfl)
set_option maxRecDepth 100000 in
theorem gx_f_1_17 : (flW (1, 80, 1, 17) : Cond) ∈ GC := List.mem_append_left _ (List.mem_of_getElem? (i := 96) rfl)
set_option maxRecDepth 100000 in
theorem gx_f_2_0 : (flW (2, 9, 2, 0) : Cond) ∈ GC := List.mem_append_left _ (List.mem_of_getElem? (i := 97) rfl)
set_option maxRecDepth 100000 in
theorem gx_f_2_1 : (flW (2, 15, 2, 1) : Cond) ∈ GC := List.mem_append_left _ (List.mem_of_getElem? (i := 98) rfl)
set_option maxRecDepth 100000 in
theorem gx_f_2_2 : (flW (2, 19, 2, 2) : Cond) ∈ GC := List.mem_append_left _ (List.mem_of_getElem? (i := 99) rfl)
set_option maxRecDepth 100000 in
theorem gx_f_2_3 : (flW (2, 22, 2, 3) : Cond) ∈ GC := List.mem_append_left _ (List.mem_of_getElem? (i := 100) rfl)
set_option maxRecDepth 100000 in
theorem gx_f_2_4 : (flW (2, 26, 2, 4) : Cond) ∈ GC := List.mem_append_left _ (List.mem_of_getElem? (i := 101) rfl)
set_option maxRecDepth 100000 in
theorem gx_f_3_0 : (flW (3, 9, 3, 0) : Cond) ∈ GC := List.mem_append_left _ (List.mem_of_getElem? (i := 102) rfl)
set_option maxRecDepth 100000 in
theorem gx_f_3_1 : (flW (3, 15, 3, 1) : Cond) ∈ GC := List.mem_append_left _ (List.mem_of_getElem? (i := 103) rfl)
set_option maxRecDepth 100000 in
theorem gx_f_3_2 : (flW (3, 18, 3, 2) : Cond) ∈ GC := List.mem_append_left _ (List.mem_of_getElem? (i := 104) rfl)
set_option maxRecDepth 100000 in
theorem gx_f_3_3 : (flW (3, 21, 3, 3) : Cond) ∈ GC := List.mem_append_left _ (List.mem_of_getElem? (i := 105) rfl)
set_option maxRecDepth 100000 in
theorem gx_f_3_4 : (flW (3, 24, 3, 4) : Cond) ∈ GC := List.mem_append_left _ (List.mem_of_getElem? (i := 106) rfl)
set_option maxRecDepth 100000 in
theorem gx_f_3_5 : (flW (3, 28, 3, 5) : Cond) ∈ GC := List.mem_append_left _ (List.mem_of_getElem? (i := 107) rfl)
set_option maxRecDepth 100000 in
theorem gx_f_3_6 : (flW (3, 31, 3, 6) : Cond) ∈ GC := List.mem_append_left _ (List.mem_of_getElem? (i := 108) rfl)
set_option maxRecDepth 100000 in
theorem gx_f_3_7 : (flW (3, 34, 3, 7) : Cond) ∈ GC := List.mem_append_left _ (List.mem_of_getElem? (i := 109) rfl)
set_option maxRecDepth 100000 in
theorem gx_f_3_8 : (flW (3, 37, 3, 8) : Cond) ∈ GC := List.mem_append_left _ (List.mem_of_getElem? (i := 110) rfl)
set_option maxRecDepth 100000 in
theorem gx_f_3_9 : (flW (3, 40, 3, 9) : Cond) ∈ GC := List.mem_append_left _ (List.mem_of_getElem? (i := 111) rfl)
set_option maxRecDepth 100000 in
theorem gx_f_3_10 : (flW (3, 43, 3, 10) : Cond) ∈ GC := List.mem_append_left _ (List.mem_of_getElem? (i := 112) rfl)
set_option maxRecDepth 100000 in
theorem gx_f_3_11 : (flW (3, 48, 3, 11) : Cond) ∈ GC := List.mem_append_left _ (List.mem_of_getElem? (i := 113) rfl)
set_option maxRecDepth 100000 in
theorem gx_f_3_12 : (flW (3, 51, 3, 12) : Cond) ∈ GC := List.mem_append_left _ (List.mem_of_getElem? (i := 114) rfl)
set_option maxRecDepth 100000 in
theorem gx_f_3_13 : (flW (3, 57, 3, 13) : Cond) ∈ GC := List.mem_append_left _ (List.mem_of_getElem? (i := 115) rfl)
set_option maxRecDepth 100000 in
theorem gx_f_4_0 : (flW (4, 11, 4, 0) : Cond) ∈ GC := List.mem_append_left _ (List.mem_of_getElem? (i := 116) rfl)
set_option maxRecDepth 100000 in
theorem gx_f_4_1 : (flW (4, 16, 4, 1) : Cond) ∈ GC := List.mem_append_left _ (List.mem_of_getElem? (i := 117) rfl)
set_option maxRecDepth 100000 in
theorem gx_f_4_2 : (flW (4, 19, 4, 2) : Cond) ∈ GC := List.mem_append_left _ (List.mem_of_getElem? (i := 118) rfl)
set_option maxRecDepth 100000 in
theorem gx_f_4_3 : (flW (4, 22, 4, 3) : Cond) ∈ GC := List.mem_append_left _ (List.mem_of_getElem? (i := 119) rfl)
set_option maxRecDepth 100000 in
theorem gx_f_4_4 : (flW (4, 25, 4, 4) : Cond) ∈ GC := List.mem_append_left _ (List.mem_of_getElem? (i := 120) rfl)
set_option maxRecDepth 100000 in
theorem gx_f_4_5 : (flW (4, 29, 4, 5) : Cond) ∈ GC := List.mem_append_left _ (List.mem_of_getElem? (i := 121) rfl)
set_option maxRecDepth 100000 in
theorem gx_f_5_0 : (flW (5, 9, 5, 0) : Cond) ∈ GC := List.mem_append_left _ (List.mem_of_getElem? (i := 122) rfl)
set_option maxRecDepth 100000 in
theorem gx_f_5_1 : (flW (5, 15, 5, 1) : Cond) ∈ GC := List.mem_append_left _ (List.mem_of_getElem? (i := 123) rfl)
set_option maxRecDepth 100000 in
theorem gx_f_5_2 : (flW (5, 21, 5, 2) : Cond) ∈ GC := List.mem_append_left _ (List.mem_of_getElem? (i := 124) rfl)
set_option maxRecDepth 100000 in
theorem gx_f_5_3 : (flW (5, 28, 5, 3) : Cond) ∈ GC := List.mem_append_left _ (List.mem_of_getElem? (i := 125) rfl)
set_option maxRecDepth 100000 in
theorem gx_f_5_4 : (flW (5, 32, 5, 4) : Cond) ∈ GC := List.mem_append_left _ (List.mem_of_getElem? (i := 126) rfl)
set_option maxRecDepth 100000 in
theorem gx_f_5_5 : (flW (5, 35, 5, 5) : Cond) ∈ GC := List.mem_append_left _ (List.mem_of_getElem? (i := 127) rfl)
set_option maxRecDepth 100000 in
theorem gx_f_6_0 : (flW (6, 9, 6, 0) : Cond) ∈ GC := List.mem_append_left _ (List.mem_of_getElem? (i := 128) rfl)
set_option maxRecDepth 100000 in
theorem gx_f_6_1 : (flW (6, 15, 6, 1) : Cond) ∈ GC := List.mem_append_left _ (List.mem_of_getElem? (i := 129) rfl)
set_option maxRecDepth 100000 in
theorem gx_f_6_2 : (flW (6, 18, 6, 2) : Cond) ∈ GC := List.mem_append_left _ (List.mem_of_getElem? (i := 130) rfl)
set_option maxRecDepth 100000 in
theorem gx_f_6_3 : (flW (6, 21, 6, 3) : Cond) ∈ GC := List.mem_append_left _ (List.mem_of_getElem? (i := 131) rfl)
set_option maxRecDepth 100000 in
theorem gx_f_6_4 : (flW (6, 25, 6, 4) : Cond) ∈ GC := List.mem_append_left _ (List.mem_of_getElem? (i := 132) rfl)
set_option maxRecDepth 100000 in
theorem gx_f_6_5 : (flW (6, 28, 6, 5) : Cond) ∈ GC := List.mem_append_left _ (List.mem_of_getElem? (i := 133) rfl)
set_option maxRecDepth 100000 in
theorem gx_f_6_6 : (flW (6, 31, 6, 6) : Cond) ∈ GC := List.mem_append_left _ (List.mem_of_getElem? (i := 134) rfl)
set_option maxRecDepth 100000 in
theorem gx_f_6_7 : (flW (6, 34, 6, 7) : Cond) ∈ GC := List.mem_append_left _ (List.mem_of_getElem? (i := 135) rfl)
set_option maxRecDepth 100000 in
theorem gx_f_7_0 : (flW (7, 9, 7, 0) : Cond) ∈ GC := List.mem_append_left _ (List.mem_of_getElem? (i := 136) rfl)
set_option maxRecDepth 100000 in
theorem gx_f_7_1 : (flW (7, 15, 7, 1) : Cond) ∈ GC := List.mem_append_left _ (List.mem_of_getElem? (i := 137) rfl)
set_option maxRecDepth 100000 in
theorem gx_f_8_0 : (flW (8, 9, 8, 0) : Cond) ∈ GC := List.mem_append_left _ (List.mem_of_getElem? (i := 138) rfl)
set_option maxRecDepth 100000 in
theorem gx_f_8_1 : (flW (8, 15, 8, 1) : Cond) ∈ GC := List.mem_append_left _ (List.mem_of_getElem? (i := 139) rfl)
set_option maxRecDepth 100000 in
theorem gx_f_8_2 : (flW (8, 20, 8, 2) : Cond) ∈ GC := List.mem_append_left _ (List.mem_of_getElem? (i := 140) rfl)
set_option maxRecDepth 100000 in
theorem gx_f_8_3 : (flW (8, 23, 8, 3) : Cond) ∈ GC := List.mem_append_left _ (List.mem_of_getElem? (i := 141) rfl)
set_option maxRecDepth 100000 in
theorem gx_f_9_0 : (flW (9, 9, 9, 0) : Cond) ∈ GC := List.mem_append_left _ (List.mem_of_getElem? (i := 142) rfl)
set_option maxRecDepth 100000 in
theorem gx_f_9_1 : (flW (9, 15, 9, 1) : Cond) ∈ GC := List.mem_append_left _ (List.mem_of_getElem? (i := 143) rfl)
set_option maxRecDepth 100000 in
theorem gx_f_9_2 : (flW (9, 18, 9, 2) : Cond) ∈ GC := List.mem_append_left _ (List.mem_of_getElem? (i := 144) rfl)
set_option maxRecDepth 100000 in
theorem gx_f_9_3 : (flW (9, 21, 9, 3) : Cond) ∈ GC := List.mem_append_left _ (List.mem_of_getElem? (i := 145) rfl)
set_option maxRecDepth 100000 in
theorem gx_f_9_4 : (flW (9, 25, 9, 4) : Cond) ∈ GC := List.mem_append_left _ (List.mem_of_getElem? (i := 146) rfl)
set_option maxRecDepth 100000 in
theorem gx_f_10_0 : (flW (10, 12, 10, 0) : Cond) ∈ GC := List.mem_append_left _ (List.mem_of_getElem? (i := 147) rfl)
set_option maxRecDepth 100000 in
theorem gx_f_10_1 : (flW (10, 19, 10, 1) : Cond) ∈ GC := List.mem_append_left _ (List.mem_of_getElem? (i := 148) rfl)
set_option maxRecDepth 100000 in
theorem gx_f_10_2 : (flW (10, 26, 10, 2) : Cond) ∈ GC := List.mem_append_left _ (List.mem_of_getElem? (i := 149) rfl)
set_option maxRecDepth 100000 in
theorem gx_f_10_3 : (flW (10, 30, 10, 3) : Cond) ∈ GC := List.mem_append_left _ (List.mem_of_getElem? (i := 150) rfl)
set_option maxRecDepth 100000 in
theorem gx_f_10_4 : (flW (10, 36, 10, 4) : Cond) ∈ GC := List.mem_append_left _ (List.mem_of_getElem? (i := 151) rfl)
set_option maxRecDepth 100000 in
theorem gx_f_10_5 : (flW (10, 43, 10, 5) : Cond) ∈ GC := List.mem_append_left _ (List.mem_of_getElem? (i := 152) rfl)
set_option maxRecDepth 100000 in
theorem gx_f_10_6 : (flW (10, 50, 10, 6) : Cond) ∈ GC := List.mem_append_left _ (List.mem_of_getElem? (i := 153) rfl)
set_option maxRecDepth 100000 in
theorem gx_f_10_7 : (flW (10, 57, 10, 7) : Cond) ∈ GC := List.mem_append_left _ (List.mem_of_getElem? (i := 154) rfl)
set_option maxRecDepth 100000 in
theorem gx_f_10_8 : (flW (10, 61, 10, 8) : Cond) ∈ GC := List.mem_append_left _ (List.mem_of_getElem? (i := 155) rfl)
set_option maxRecDepth 100000 in
theorem gx_f_10_9 : (flW (10, 65, 10, 9) : Cond) ∈ GC := List.mem_append_left _ (List.mem_of_getElem? (i := 156) rfl)
set_option maxRecDepth 100000 in
theorem gx_f_10_10 : (flW (10, 68, 10, 10) : Cond) ∈ GC := List.mem_append_left _ (List.mem_of_getElem? (i := 157) rfl)
set_option maxRecDepth 100000 in
theorem gx_f_10_11 : (flW (10, 72, 10, 11) : Cond) ∈ GC := List.mem_append_left _ (List.mem_of_getElem? (i := 158) rfl)
set_option maxRecDepth 100000 in
theorem gx_f_11_0 : (flW (11, 7, 11, 0) : Cond) ∈ GC := List.mem_append_left _ (List.mem_of_getElem? (i := 159) rfl)
set_option maxRecDepth 100000 in
theorem gx_f_11_1 : (flW (11, 13, 11, 1) : Cond) ∈ GC := List.mem_append_left _ (List.mem_of_getElem? (i := 160) rfl)
set_option maxRecDepth 100000 in
theorem gx_f_11_2 : (flW (11, 17, 11, 2) : Cond) ∈ GC := List.mem_append_left _ (List.mem_of_getElem? (i := 161) rfl)
set_option maxRecDepth 100000 in
theorem gx_f_11_3 : (flW (11, 20, 11, 3) : Cond) ∈ GC := List.mem_append_left _ (List.mem_of_getElem? (i := 162) rfl)
set_option maxRecDepth 100000 in
theorem gx_f_11_4 : (flW (11, 23, 11, 4) : Cond) ∈ GC := List.mem_append_left _ (List.mem_of_getElem? (i := 163) rfl)
set_option maxRecDepth 100000 in
theorem gx_f_11_5 : (flW (11, 26, 11, 5) : Cond) ∈ GC := List.mem_append_left _ (List.mem_of_getElem? (i := 164) rfl)
set_option maxRecDepth 100000 in
theorem gx_f_11_6 : (flW (11, 29, 11, 6) : Cond) ∈ GC := List.mem_append_left _ (List.mem_of_getElem? (i := 165) rfl)
set_option maxRecDepth 100000 in
theorem gx_f_11_7 : (flW (11, 32, 11, 7) : Cond) ∈ GC := List.mem_append_left _ (List.mem_of_getElem? (i := 166) rfl)
set_option maxRecDepth 100000 in
theorem gx_f_11_8 : (flW (11, 36, 11, 8) : Cond) ∈ GC := List.mem_append_left _ (List.mem_of_getElem? (i := 167) rfl)
set_option maxRecDepth 100000 in
theorem gx_f_11_9 : (flW (11, 39, 11, 9) : Cond) ∈ GC := List.mem_append_left _ (List.mem_of_getElem? (i := 168) rfl)
set_option maxRecDepth 100000 in
theorem gx_f_11_10 : (flW (11, 42, 11, 10) : Cond) ∈ GC := List.mem_append_left _ (List.mem_of_getElem? (i := 169) rfl)
set_option maxRecDepth 100000 in
theorem gx_f_11_11 : (flW (11, 45, 11, 11) : Cond) ∈ GC := List.mem_append_left _ (List.mem_of_getElem? (i := 170) rfl)
set_option maxRecDepth 100000 in
theorem gx_f_11_12 : (flW (11, 48, 11, 12) : Cond) ∈ GC := List.mem_append_left _ (List.mem_of_getElem? (i := 171) rfl)
set_option maxRecDepth 100000 in
theorem gx_f_11_13 : (flW (11, 51, 11, 13) : Cond) ∈ GC := List.mem_append_left _ (List.mem_of_getElem? (i := 172) rfl)
set_option maxRecDepth 100000 in
theorem gx_f_11_14 : (flW (11, 54, 11, 14) : Cond) ∈ GC := List.mem_append_left _ (List.mem_of_getElem? (i := 173) rfl)
set_option maxRecDepth 100000 in
theorem gx_f_11_15 : (flW (11, 57, 11, 15) : Cond) ∈ GC := List.mem_append_left _ (List.mem_of_getElem? (i := 174) rfl)
set_option maxRecDepth 100000 in
theorem gx_f_11_16 : (flW (11, 61, 11, 16) : Cond) ∈ GC := List.mem_append_left _ (List.mem_of_getElem? (i := 175) rfl)
set_option maxRecDepth 100000 in
theorem gx_f_11_17 : (flW (11, 64, 11, 17) : Cond) ∈ GC := List.mem_append_left _ (List.mem_of_getElem? (i := 176) rfl)
set_option maxRecDepth 100000 in
theorem gx_f_11_18 : (flW (11, 67, 11, 18) : Cond) ∈ GC := List.mem_append_left _ (List.mem_of_getElem? (i := 177) rfl)
set_option maxRecDepth 100000 in
theorem gx_f_11_19 : (flW (11, 70, 11, 19) : Cond) ∈ GC := List.mem_append_left _ (List.mem_of_getElem? (i := 178) rfl)
set_option maxRecDepth 100000 in
theorem gx_f_11_20 : (flW (11, 73, 11, 20) : Cond) ∈ GC := List.mem_append_left _ (List.mem_of_getElem? (i := 179) rfl)
set_option maxRecDepth 100000 in
theorem gx_f_11_21 : (flW (11, 76, 11, 21) : Cond) ∈ GC := List.mem_append_left _ (List.mem_of_getElem? (i := 180) rfl)
set_option maxRecDepth 100000 in
theorem gx_f_11_22 : (flW (11, 79, 11, 22) : Cond) ∈ GC := List.mem_append_left _ (List.mem_of_getElem? (i := 181) rfl)
set_option maxRecDepth 100000 in
theorem gx_f_11_23 : (flW (11, 82, 11, 23) : Cond) ∈ GC := List.mem_append_left _ (List.mem_of_getElem? (i := 182) rfl)
set_option maxRecDepth 100000 in
theorem gx_f_11_24 : (flW (11, 85, 11, 24) : Cond) ∈ GC := List.mem_append_left _ (List.mem_of_getElem? (i := 183) rfl)
set_option maxRecDepth 100000 in
theorem gx_f_11_25 : (flW (11, 88, 11, 25) : Cond) ∈ GC := List.mem_append_left _ (List.mem_of_getElem? (i := 184) rfl)
set_option maxRecDepth 100000 in
theorem gx_f_11_26 : (flW (11, 91, 11, 26) : Cond) ∈ GC := List.mem_append_left _ (List.mem_of_getElem? (i := 185) rfl)
set_option maxRecDepth 100000 in
theorem gx_f_11_27 : (flW (11, 94, 11, 27) : Cond) ∈ GC := List.mem_append_left _ (List.mem_of_getElem? (i := 186) rfl)
set_option maxRecDepth 100000 in
theorem gx_f_11_28 : (flW (11, 97, 11, 28) : Cond) ∈ GC := List.mem_append_left _ (List.mem_of_getElem? (i := 187) rfl)
set_option maxRecDepth 100000 in
theorem gx_f_11_29 : (flW (11, 100, 11, 29) : Cond) ∈ GC := List.mem_append_left _ (List.mem_of_getElem? (i := 188) rfl)
set_option maxRecDepth 100000 in
theorem gx_f_11_30 : (flW (11, 103, 11, 30) : Cond) ∈ GC := List.mem_append_left _ (List.mem_of_getElem? (i := 189) rfl)
set_option maxRecDepth 100000 in
theorem gx_f_11_31 : (flW (11, 106, 11, 31) : Cond) ∈ GC := List.mem_append_left _ (List.mem_of_getElem? (i := 190) rfl)
set_option maxRecDepth 100000 in
theorem gx_f_11_32 : (flW (11, 109, 11, 32) : Cond) ∈ GC := List.mem_append_left _ (List.mem_of_getElem? (i := 191) rfl)
set_option maxRecDepth 100000 in
theorem gx_f_11_33 : (flW (11, 112, 11, 33) : Cond) ∈ GC := List.mem_append_left _ (List.mem_of_getElem? (i := 192) rfl)
set_option maxRecDepth 100000 in
theorem gx_f_11_34 : (flW (11, 115, 11, 34) : Cond) ∈ GC := List.mem_append_left _ (List.mem_of_getElem? (i := 193) rfl)
set_option maxRecDepth 100000 in
theorem gx_f_11_35 : (flW (11, 118, 11, 35) : Cond) ∈ GC := List.mem_append_left _ (List.mem_of_getElem? (i := 194) rfl)
set_option maxRecDepth 100000 in
theorem gx_f_11_36 : (flW (11, 121, 11, 36) : Cond) ∈ GC := List.mem_append_left _ (List.mem_of_getElem? (i := 195) rfl)
set_option maxRecDepth 100000 in
theorem gx_f_11_37 : (flW (11, 124, 11, 37) : Cond) ∈ GC := List.mem_append_left _ (List.mem_of_getElem? (i := 196) rfl)
set_option maxRecDepth 100000 in
theorem gx_f_11_38 : (flW (11, 127, 11, 38) : Cond) ∈ GC := List.mem_append_left _ (List.mem_of_getElem? (i := 197) rfl)
set_option maxRecDepth 100000 in
theorem gx_f_11_39 : (flW (11, 130, 11, 39) : Cond) ∈ GC := List.mem_append_left _ (List.mem_of_getElem? (i := 198) rfl)
set_option maxRecDepth 100000 in
theorem gx_f_11_40 : (flW (11, 133, 11, 40) : Cond) ∈ GC := List.mem_append_left _ (List.mem_of_getElem? (i := 199) rfl)
set_option maxRecDepth 100000 in
theorem gx_f_11_41 : (flW (11, 136, 11, 41) : Cond) ∈ GC := List.mem_append_left _ (List.mem_of_getElem? (i := 200) rfl)
set_option maxRecDepth 100000 in
theorem gx_f_11_42 : (flW (11, 139, 11, 42) : Cond) ∈ GC := List.mem_append_left _ (List.mem_of_getElem? (i := 201) rfl)
set_option maxRecDepth 100000 in
theorem gx_f_11_43 : (flW (11, 142, 11, 43) : Cond) ∈ GC := List.mem_append_left _ (List.mem_of_getElem? (i := 202) rfl)
set_option maxRecDepth 100000 in
theorem gx_f_11_44 : (flW (11, 145, 11, 44) : Cond) ∈ GC := List.mem_append_left _ (List.mem_of_getElem? (i := 203) rfl)
set_option maxRecDepth 100000 in
theorem gx_f_11_45 : (flW (11, 148, 11, 45) : Cond) ∈ GC := List.mem_append_left _ (List.mem_of_getElem? (i := 204) rfl)
set_option maxRecDepth 100000 in
theorem gx_f_11_46 : (flW (11, 151, 11, 46) : Cond) ∈ GC := List.mem_append_left _ (List.mem_of_getElem? (i := 205) rfl)
set_option maxRecDepth 100000 in
theorem gx_f_11_47 : (flW (11, 154, 11, 47) : Cond) ∈ GC := List.mem_append_left _ (List.mem_of_getElem? (i := 206) rfl)
set_option maxRecDepth 100000 in
theorem gx_f_11_48 : (flW (11, 157, 11, 48) : Cond) ∈ GC := List.mem_append_left _ (List.mem_of_getElem? (i := 207) rfl)
set_option maxRecDepth 100000 in
theorem gx_f_11_49 : (flW (11, 160, 11, 49) : Cond) ∈ GC := List.mem_append_left _ (List.mem_of_getElem? (i := 208) rfl)
set_option maxRecDepth 100000 in
theorem gx_f_11_50 : (flW (11, 163, 11, 50) : Cond) ∈ GC := List.mem_append_left _ (List.mem_of_getElem? (i := 209) rfl)
set_option maxRecDepth 100000 in
theorem gx_f_11_51 : (flW (11, 166, 11, 51) : Cond) ∈ GC := List.mem_append_left _ (List.mem_of_getElem? (i := 210) rfl)
set_option maxRecDepth 100000 in
theorem gx_f_11_52 : (flW (11, 169, 11, 52) : Cond) ∈ GC := List.mem_append_left _ (List.mem_of_getElem? (i := 211) rfl)
set_option maxRecDepth 100000 in
theorem gx_f_11_53 : (flW (11, 172, 11, 53) : Cond) ∈ GC := List.mem_append_left _ (List.mem_of_getElem? (i := 212) rfl)
set_option maxRecDepth 100000 in
theorem gx_f_11_54 : (flW (11, 175, 11, 54) : Cond) ∈ GC := List.mem_append_left _ (List.mem_of_getElem? (i := 213) rfl)
set_option maxRecDepth 100000 in
theorem gx_f_11_55 : (flW (11, 178, 11, 55) : Cond) ∈ GC := List.mem_append_left _ (List.mem_of_getElem? (i := 214) rfl)
set_option maxRecDepth 100000 in
theorem gx_f_11_56 : (flW (11, 181, 11, 56) : Cond) ∈ GC := List.mem_append_left _ (List.mem_of_getElem? (i := 215) rfl)
set_option maxRecDepth 100000 in
theorem gx_f_11_57 : (flW (11, 184, 11, 57) : Cond) ∈ GC := List.mem_append_left _ (List.mem_of_getElem? (i := 216) rfl)
set_option maxRecDepth 100000 in
theorem gx_f_11_58 : (flW (11, 187, 11, 58) : Cond) ∈ GC := List.mem_append_left _ (List.mem_of_getElem? (i := 217) rfl)
set_option maxRecDepth 100000 in
theorem gx_f_11_59 : (flW (11, 190, 11, 59) : Cond) ∈ GC := List.mem_append_left _ (List.mem_of_getElem? (i := 218) rfl)
set_option maxRecDepth 100000 in
theorem gx_f_11_60 : (flW (11, 193, 11, 60) : Cond) ∈ GC := List.mem_append_left _ (List.mem_of_getElem? (i := 219) rfl)
set_option maxRecDepth 100000 in
theorem gx_f_11_61 : (flW (11, 196, 11, 61) : Cond) ∈ GC := List.mem_append_left _ (List.mem_of_getElem? (i := 220) rfl)
set_option maxRecDepth 100000 in
theorem gx_f_11_62 : (flW (11, 199, 11, 62) : Cond) ∈ GC := List.mem_append_left _ (List.mem_of_getElem? (i := 221) rfl)
set_option maxRecDepth 100000 in
theorem gx_f_11_63 : (flW (11, 202, 11, 63) : Cond) ∈ GC := List.mem_append_left _ (List.mem_of_getElem? (i := 222) rfl)
set_option maxRecDepth 100000 in
theorem gx_f_11_64 : (flW (11, 205, 11, 64) : Cond) ∈ GC := List.mem_append_left _ (List.mem_of_getElem? (i := 223) rfl)
theorem gy_0 : (.methodLink (clR 0) 3 Lib.objectInit : Cond) ∈ lw_tbl := List.mem_of_getElem? (i := 366) (by decide +kernel)
theorem gy_1 : (.methodLink (clR 1) 3 Lib.objectInit : Cond) ∈ lw_tbl := List.mem_of_getElem? (i := 388) (by decide +kernel)
theorem gy_2 : (.methodLink (clR 2) 3 Lib.objectInit : Cond) ∈ lw_tbl := List.mem_of_getElem? (i := 524) (by decide +kernel)
theorem gy_3 : (.methodLink (clR 3) 3 Lib.objectInit : Cond) ∈ lw_tbl := List.mem_of_getElem? (i := 200) (by decide +kernel)
theorem gy_4 : (.methodLink (clR 4) 3 Lib.objectInit : Cond) ∈ lw_tbl := List.mem_of_getElem? (i := 419) (by decide +kernel)
theorem gy_5 : (.methodLink (clR 5) 3 Lib.objectInit : Cond) ∈ lw_tbl := List.mem_of_getElem? (i := 169) (by decide +kernel)
theorem gy_6 : (.methodLink (clR 6) 3 Lib.objectInit : Cond) ∈ lw_tbl := List.mem_of_getElem? (i := 208) (by decide +kernel)
theorem gy_7 : (.methodLink (clR 7) 3 Lib.objectInit : Cond) ∈ lw_tbl := List.mem_of_getElem? (i := 151) (by decide +kernel)
theorem gy_8 : (.methodLink (clR 8) 3 Lib.objectInit : Cond) ∈ lw_tbl := List.mem_of_getElem? (i := 394) (by decide +kernel)
theorem gy_9 : (.methodLink (clR 9) 3 Lib.objectInit : Cond) ∈ lw_tbl := List.mem_of_getElem? (i := 175) (by decide +kernel)
theorem gy_10 : (.methodLink (clR 10) 3 Lib.objectInit : Cond) ∈ lw_tbl := List.mem_of_getElem? (i := 143) (by decide +kernel)
theorem gy_11 : (.methodLink (clR 11) 1 Lib.objectInit : Cond) ∈ lw_tbl := List.mem_of_getElem? (i := 1194) (by decide +kernel)
theorem gy_12 : (.instanceMethod Lib.objectInit : Cond) ∈ lw_tbl := List.mem_of_getElem? (i := 144) (by decide +kernel)
theorem gy_13 : (.code Lib.objectInit ⟨#[0xb1]⟩ 1 none : Cond) ∈ lw_tbl := List.mem_of_getElem? (i := 145) (by decide +kernel)
theorem gy_14 : (.instanceMethod yX0_init : Cond) ∈ lw_tbl := List.mem_of_getElem? (i := 364) (by decide +kernel)
theorem gy_15 : (.code yX0_init cX0_init 2 none : Cond) ∈ lw_tbl := List.mem_of_getElem? (i := 365) (by decide +kernel)
theorem gy_16 : (.instantiable (clR 0) (nf 0) : Cond) ∈ lw_tbl := List.mem_of_getElem? (i := 362) (by decide +kernel)
theorem gy_17 : (.instanceMethod yX1_init : Cond) ∈ lw_tbl := List.mem_of_getElem? (i := 386) (by decide +kernel)
theorem gy_18 : (.code yX1_init cX1_init 1 none : Cond) ∈ lw_tbl := List.mem_of_getElem? (i := 387) (by decide +kernel)
theorem gy_19 : (.instantiable (clR 1) (nf 1) : Cond) ∈ lw_tbl := List.mem_of_getElem? (i := 384) (by decide +kernel)
theorem gy_20 : (.instanceMethod yX2_init : Cond) ∈ lw_tbl := List.mem_of_getElem? (i := 522) (by decide +kernel)
theorem gy_21 : (.code yX2_init cX2_init 1 none : Cond) ∈ lw_tbl := List.mem_of_getElem? (i := 523) (by decide +kernel)
theorem gy_22 : (.instantiable (clR 2) (nf 2) : Cond) ∈ lw_tbl := List.mem_of_getElem? (i := 520) (by decide +kernel)
theorem gy_23 : (.instanceMethod yX3_init : Cond) ∈ lw_tbl := List.mem_of_getElem? (i := 198) (by decide +kernel)
theorem gy_24 : (.code yX3_init cX3_init 1 none : Cond) ∈ lw_tbl := List.mem_of_getElem? (i := 199) (by decide +kernel)
theorem gy_25 : (.instantiable (clR 3) (nf 3) : Cond) ∈ lw_tbl := List.mem_of_getElem? (i := 196) (by decide +kernel)
theorem gy_26 : (.instanceMethod yX4_init : Cond) ∈ lw_tbl := List.mem_of_getElem? (i := 417) (by decide +kernel)
theorem gy_27 : (.code yX4_init cX4_init 1 none : Cond) ∈ lw_tbl := List.mem_of_getElem? (i := 418) (by decide +kernel)
theorem gy_28 : (.instantiable (clR 4) (nf 4) : Cond) ∈ lw_tbl := List.mem_of_getElem? (i := 415) (by decide +kernel)
theorem gy_29 : (.instanceMethod yX5_init : Cond) ∈ lw_tbl := List.mem_of_getElem? (i := 167) (by decide +kernel)
theorem gy_30 : (.code yX5_init cX5_init 1 none : Cond) ∈ lw_tbl := List.mem_of_getElem? (i := 168) (by decide +kernel)
theorem gy_31 : (.instantiable (clR 5) (nf 5) : Cond) ∈ lw_tbl := List.mem_of_getElem? (i := 165) (by decide +kernel)
theorem gy_32 : (.instanceMethod yX6_init : Cond) ∈ lw_tbl := List.mem_of_getElem? (i := 206) (by decide +kernel)
theorem gy_33 : (.code yX6_init cX6_init 1 none : Cond) ∈ lw_tbl := List.mem_of_getElem? (i := 207) (by decide +kernel)
theorem gy_34 : (.instantiable (clR 6) (nf 6) : Cond) ∈ lw_tbl := List.mem_of_getElem? (i := 204) (by decide +kernel)
theorem gy_35 : (.instanceMethod yX7_init : Cond) ∈ lw_tbl := List.mem_of_getElem? (i := 149) (by decide +kernel)
theorem gy_36 : (.code yX7_init cX7_init 1 none : Cond) ∈ lw_tbl := List.mem_of_getElem? (i := 150) (by decide +kernel)
theorem gy_37 : (.instantiable (clR 7) (nf 7) : Cond) ∈ lw_tbl := List.mem_of_getElem? (i := 147) (by decide +kernel)
theorem gy_38 : (.instanceMethod yX8_init : Cond) ∈ lw_tbl := List.mem_of_getElem? (i := 392) (by decide +kernel)
theorem gy_39 : (.code yX8_init cX8_init 1 none : Cond) ∈ lw_tbl := List.mem_of_getElem? (i := 393) (by decide +kernel)
theorem gy_40 : (.instantiable (clR 8) (nf 8) : Cond) ∈ lw_tbl := List.mem_of_getElem? (i := 390) (by decide +kernel)
theorem gy_41 : (.instanceMethod yX9_init : Cond) ∈ lw_tbl := List.mem_of_getElem? (i := 173) (by decide +kernel)
theorem gy_42 : (.code yX9_init cX9_init 1 none : Cond) ∈ lw_tbl := List.mem_of_getElem? (i := 174) (by decide +kernel)
theorem gy_43 : (.instantiable (clR 9) (nf 9) : Cond) ∈ lw_tbl := List.mem_of_getElem? (i := 171) (by decide +kernel)
theorem gy_44 : (.instanceMethod yX10_init : Cond) ∈ lw_tbl := List.mem_of_getElem? (i := 141) (by decide +kernel)
theorem gy_45 : (.code yX10_init cX10_init 1 none : Cond) ∈ lw_tbl := List.mem_of_getElem? (i := 142) (by decide +kernel)
theorem gy_46 : (.instantiable (clR 10) (nf 10) : Cond) ∈ lw_tbl := List.mem_of_getElem? (i := 139) (by decide +kernel)
theorem gy_47 : (.instanceMethod yX11_init : Cond) ∈ lw_tbl := List.mem_of_getElem? (i := 1192) (by decide +kernel)
theorem gy_48 : (.code yX11_init cX11_init 1 none : Cond) ∈ lw_tbl := List.mem_of_getElem? (i := 1193) (by decide +kernel)
theorem gy_49 : (.instantiable (clR 11) (nf 11) : Cond) ∈ lw_tbl := List.mem_of_getElem? (i := 1190) (by decide +kernel)
theorem gy_50 : (.arrayClass .int : Cond) ∈ lw_tbl := List.mem_of_getElem? (i := 163) (by decide +kernel)
theorem gy_51 : (.arrayClass .boolean : Cond) ∈ lw_tbl := List.mem_of_getElem? (i := 542) (by decide +kernel)
theorem gy_52 : (.arrayClass .long : Cond) ∈ lw_tbl := List.mem_of_getElem? (i := 1391) (by decide +kernel)
theorem gy_53 : (.classLink (clR 12) 7 (clR 10) : Cond) ∈ lw_tbl := List.mem_of_getElem? (i := 138) (by decide +kernel)
theorem gy_54 : (.classLink (clR 10) 9 (clR 7) : Cond) ∈ lw_tbl := List.mem_of_getElem? (i := 146) (by decide +kernel)
theorem gy_55 : (.classLink (clR 10) 16 (clR 5) : Cond) ∈ lw_tbl := List.mem_of_getElem? (i := 164) (by decide +kernel)
theorem gy_56 : (.classLink (clR 5) 18 (clR 9) : Cond) ∈ lw_tbl := List.mem_of_getElem? (i := 170) (by decide +kernel)
theorem gy_57 : (.classLink (clR 5) 25 (clR 3) : Cond) ∈ lw_tbl := List.mem_of_getElem? (i := 195) (by decide +kernel)
theorem gy_58 : (.classLink (clR 3) 46 "[[I" : Cond) ∈ lw_tbl := List.mem_of_getElem? (i := 201) (by decide +kernel)
theorem gy_59 : (.classLink (clR 3) 54 (clR 6) : Cond) ∈ lw_tbl := List.mem_of_getElem? (i := 203) (by decide +kernel)
theorem gy_60 : (.classLink (clR 10) 23 (clR 6) : Cond) ∈ lw_tbl := List.mem_of_getElem? (i := 359) (by decide +kernel)
theorem gy_61 : (.classLink (clR 10) 33 (clR 0) : Cond) ∈ lw_tbl := List.mem_of_getElem? (i := 361) (by decide +kernel)
theorem gy_62 : (.classLink (clR 0) 15 (clR 6) : Cond) ∈ lw_tbl := List.mem_of_getElem? (i := 367) (by decide +kernel)
theorem gy_63 : (.classLink (clR 10) 40 (clR 3) : Cond) ∈ lw_tbl := List.mem_of_getElem? (i := 381) (by decide +kernel)
theorem gy_64 : (.classLink (clR 10) 47 (clR 1) : Cond) ∈ lw_tbl := List.mem_of_getElem? (i := 383) (by decide +kernel)
theorem gy_65 : (.classLink (clR 1) 9 (clR 8) : Cond) ∈ lw_tbl := List.mem_of_getElem? (i := 389) (by decide +kernel)
theorem gy_66 : (.classLink (clR 8) 18 "[[I" : Cond) ∈ lw_tbl := List.mem_of_getElem? (i := 395) (by decide +kernel)
theorem gy_67 : (.classLink (clR 1) 18 (clR 4) : Cond) ∈ lw_tbl := List.mem_of_getElem? (i := 414) (by decide +kernel)
theorem gy_68 : (.classLink (clR 4) 9 "[[I" : Cond) ∈ lw_tbl := List.mem_of_getElem? (i := 420) (by decide +kernel)
theorem gy_69 : (.classLink (clR 1) 54 (clR 3) : Cond) ∈ lw_tbl := List.mem_of_getElem? (i := 452) (by decide +kernel)
theorem gy_70 : (.classLink (clR 1) 61 (clR 6) : Cond) ∈ lw_tbl := List.mem_of_getElem? (i := 454) (by decide +kernel)
theorem gy_71 : (.classLink (clR 10) 54 (clR 2) : Cond) ∈ lw_tbl := List.mem_of_getElem? (i := 519) (by decide +kernel)
theorem gy_72 : (.classLink (clR 12) 10 (clR 11) : Cond) ∈ lw_tbl := List.mem_of_getElem? (i := 1189) (by decide +kernel)
theorem gy_73 : (.methodLink (clR 10) 35 yX0_init : Cond) ∈ lw_tbl := List.mem_of_getElem? (i := 363) (by decide +kernel)
theorem gy_74 : (.methodLink (clR 12) 9 yX10_init : Cond) ∈ lw_tbl := List.mem_of_getElem? (i := 140) (by decide +kernel)
theorem gy_75 : (.methodLink (clR 12) 12 yX11_init : Cond) ∈ lw_tbl := List.mem_of_getElem? (i := 1191) (by decide +kernel)
theorem gy_76 : (flW (0, 9, 0, 0) : Cond) ∈ lw_tbl := List.mem_of_getElem? (i := 370) (by decide +kernel)
theorem gy_77 : (flW (0, 17, 0, 1) : Cond) ∈ lw_tbl := List.mem_of_getElem? (i := 372) (by decide +kernel)
theorem gy_78 : (flW (0, 21, 0, 2) : Cond) ∈ lw_tbl := List.mem_of_getElem? (i := 373) (by decide +kernel)
theorem gy_79 : (flW (1, 12, 1, 0) : Cond) ∈ lw_tbl := List.mem_of_getElem? (i := 456) (by decide +kernel)
theorem gy_80 : (flW (1, 21, 1, 1) : Cond) ∈ lw_tbl := List.mem_of_getElem? (i := 458) (by decide +kernel)
theorem gy_81 : (flW (1, 25, 1, 2) : Cond) ∈ lw_tbl := List.mem_of_getElem? (i := 460) (by decide +kernel)
theorem gy_82 : (flW (1, 29, 1, 3) : Cond) ∈ lw_tbl := List.mem_of_getElem? (i := 462) (by decide +kernel)
theorem gy_83 : (flW (1, 32, 1, 4) : Cond) ∈ lw_tbl := List.mem_of_getElem? (i := 464) (by decide +kernel)
theorem gy_84 : (flW (1, 35, 1, 5) : Cond) ∈ lw_tbl := List.mem_of_getElem? (i := 466) (by decide +kernel)
theorem gy_85 : (flW (1, 38, 1, 6) : Cond) ∈ lw_tbl := List.mem_of_getElem? (i := 468) (by decide +kernel)
theorem gy_86 : (flW (1, 41, 1, 7) : Cond) ∈ lw_tbl := List.mem_of_getElem? (i := 470) (by decide +kernel)
theorem gy_87 : (flW (1, 45, 1, 8) : Cond) ∈ lw_tbl := List.mem_of_getElem? (i := 472) (by decide +kernel)
theorem gy_88 : (flW (1, 48, 1, 9) : Cond) ∈ lw_tbl := List.mem_of_getElem? (i := 473) (by decide +kernel)
theorem gy_89 : (flW (1, 51, 1, 10) : Cond) ∈ lw_tbl := List.mem_of_getElem? (i := 474) (by decide +kernel)
theorem gy_90 : (flW (1, 57, 1, 11) : Cond) ∈ lw_tbl := List.mem_of_getElem? (i := 475) (by decide +kernel)
theorem gy_91 : (flW (1, 64, 1, 12) : Cond) ∈ lw_tbl := List.mem_of_getElem? (i := 476) (by decide +kernel)
theorem gy_92 : (flW (1, 68, 1, 13) : Cond) ∈ lw_tbl := List.mem_of_getElem? (i := 477) (by decide +kernel)
theorem gy_93 : (flW (1, 71, 1, 14) : Cond) ∈ lw_tbl := List.mem_of_getElem? (i := 478) (by decide +kernel)
theorem gy_94 : (flW (1, 74, 1, 15) : Cond) ∈ lw_tbl := List.mem_of_getElem? (i := 479) (by decide +kernel)
theorem gy_95 : (flW (1, 77, 1, 16) : Cond) ∈ lw_tbl := List.mem_of_getElem? (i := 480) (by decide +kernel)
theorem gy_96 : (flW (1, 80, 1, 17) : Cond) ∈ lw_tbl := List.mem_of_getElem? (i := 481) (by decide +kernel)
theorem gy_97 : (flW (2, 9, 2, 0) : Cond) ∈ lw_tbl := List.mem_of_getElem? (i := 525) (by decide +kernel)
theorem gy_98 : (flW (2, 15, 2, 1) : Cond) ∈ lw_tbl := List.mem_of_getElem? (i := 527) (by decide +kernel)
theorem gy_99 : (flW (2, 19, 2, 2) : Cond) ∈ lw_tbl := List.mem_of_getElem? (i := 528) (by decide +kernel)
theorem gy_100 : (flW (2, 22, 2, 3) : Cond) ∈ lw_tbl := List.mem_of_getElem? (i := 529) (by decide +kernel)
theorem gy_101 : (flW (2, 26, 2, 4) : Cond) ∈ lw_tbl := List.mem_of_getElem? (i := 530) (by decide +kernel)
theorem gy_102 : (flW (3, 9, 3, 0) : Cond) ∈ lw_tbl := List.mem_of_getElem? (i := 254) (by decide +kernel)
theorem gy_103 : (flW (3, 15, 3, 1) : Cond) ∈ lw_tbl := List.mem_of_getElem? (i := 257) (by decide +kernel)
theorem gy_104 : (flW (3, 18, 3, 2) : Cond) ∈ lw_tbl := List.mem_of_getElem? (i := 261) (by decide +kernel)
theorem gy_105 : (flW (3, 21, 3, 3) : Cond) ∈ lw_tbl := List.mem_of_getElem? (i := 267) (by decide +kernel)
theorem gy_106 : (flW (3, 24, 3, 4) : Cond) ∈ lw_tbl := List.mem_of_getElem? (i := 271) (by decide +kernel)
theorem gy_107 : (flW (3, 28, 3, 5) : Cond) ∈ lw_tbl := List.mem_of_getElem? (i := 274) (by decide +kernel)
theorem gy_108 : (flW (3, 31, 3, 6) : Cond) ∈ lw_tbl := List.mem_of_getElem? (i := 277) (by decide +kernel)
theorem gy_109 : (flW (3, 34, 3, 7) : Cond) ∈ lw_tbl := List.mem_of_getElem? (i := 280) (by decide +kernel)
theorem gy_110 : (flW (3, 37, 3, 8) : Cond) ∈ lw_tbl := List.mem_of_getElem? (i := 283) (by decide +kernel)
theorem gy_111 : (flW (3, 40, 3, 9) : Cond) ∈ lw_tbl := List.mem_of_getElem? (i := 287) (by decide +kernel)
theorem gy_112 : (flW (3, 43, 3, 10) : Cond) ∈ lw_tbl := List.mem_of_getElem? (i := 291) (by decide +kernel)
theorem gy_113 : (flW (3, 48, 3, 11) : Cond) ∈ lw_tbl := List.mem_of_getElem? (i := 297) (by decide +kernel)
theorem gy_114 : (flW (3, 51, 3, 12) : Cond) ∈ lw_tbl := List.mem_of_getElem? (i := 302) (by decide +kernel)
theorem gy_115 : (flW (3, 57, 3, 13) : Cond) ∈ lw_tbl := List.mem_of_getElem? (i := 306) (by decide +kernel)
theorem gy_116 : (flW (4, 11, 4, 0) : Cond) ∈ lw_tbl := List.mem_of_getElem? (i := 421) (by decide +kernel)
theorem gy_117 : (flW (4, 16, 4, 1) : Cond) ∈ lw_tbl := List.mem_of_getElem? (i := 424) (by decide +kernel)
theorem gy_118 : (flW (4, 19, 4, 2) : Cond) ∈ lw_tbl := List.mem_of_getElem? (i := 427) (by decide +kernel)
theorem gy_119 : (flW (4, 22, 4, 3) : Cond) ∈ lw_tbl := List.mem_of_getElem? (i := 430) (by decide +kernel)
theorem gy_120 : (flW (4, 25, 4, 4) : Cond) ∈ lw_tbl := List.mem_of_getElem? (i := 433) (by decide +kernel)
theorem gy_121 : (flW (4, 29, 4, 5) : Cond) ∈ lw_tbl := List.mem_of_getElem? (i := 436) (by decide +kernel)
theorem gy_122 : (flW (5, 9, 5, 0) : Cond) ∈ lw_tbl := List.mem_of_getElem? (i := 338) (by decide +kernel)
theorem gy_123 : (flW (5, 15, 5, 1) : Cond) ∈ lw_tbl := List.mem_of_getElem? (i := 340) (by decide +kernel)
theorem gy_124 : (flW (5, 21, 5, 2) : Cond) ∈ lw_tbl := List.mem_of_getElem? (i := 342) (by decide +kernel)
theorem gy_125 : (flW (5, 28, 5, 3) : Cond) ∈ lw_tbl := List.mem_of_getElem? (i := 343) (by decide +kernel)
theorem gy_126 : (flW (5, 32, 5, 4) : Cond) ∈ lw_tbl := List.mem_of_getElem? (i := 344) (by decide +kernel)
theorem gy_127 : (flW (5, 35, 5, 5) : Cond) ∈ lw_tbl := List.mem_of_getElem? (i := 345) (by decide +kernel)
theorem gy_128 : (flW (6, 9, 6, 0) : Cond) ∈ lw_tbl := List.mem_of_getElem? (i := 209) (by decide +kernel)
theorem gy_129 : (flW (6, 15, 6, 1) : Cond) ∈ lw_tbl := List.mem_of_getElem? (i := 215) (by decide +kernel)
theorem gy_130 : (flW (6, 18, 6, 2) : Cond) ∈ lw_tbl := List.mem_of_getElem? (i := 217) (by decide +kernel)
theorem gy_131 : (flW (6, 21, 6, 3) : Cond) ∈ lw_tbl := List.mem_of_getElem? (i := 219) (by decide +kernel)
theorem gy_132 : (flW (6, 25, 6, 4) : Cond) ∈ lw_tbl := List.mem_of_getElem? (i := 222) (by decide +kernel)
theorem gy_133 : (flW (6, 28, 6, 5) : Cond) ∈ lw_tbl := List.mem_of_getElem? (i := 225) (by decide +kernel)
theorem gy_134 : (flW (6, 31, 6, 6) : Cond) ∈ lw_tbl := List.mem_of_getElem? (i := 228) (by decide +kernel)
theorem gy_135 : (flW (6, 34, 6, 7) : Cond) ∈ lw_tbl := List.mem_of_getElem? (i := 232) (by decide +kernel)
theorem gy_136 : (flW (7, 9, 7, 0) : Cond) ∈ lw_tbl := List.mem_of_getElem? (i := 152) (by decide +kernel)
theorem gy_137 : (flW (7, 15, 7, 1) : Cond) ∈ lw_tbl := List.mem_of_getElem? (i := 155) (by decide +kernel)
theorem gy_138 : (flW (8, 9, 8, 0) : Cond) ∈ lw_tbl := List.mem_of_getElem? (i := 396) (by decide +kernel)
theorem gy_139 : (flW (8, 15, 8, 1) : Cond) ∈ lw_tbl := List.mem_of_getElem? (i := 399) (by decide +kernel)
theorem gy_140 : (flW (8, 20, 8, 2) : Cond) ∈ lw_tbl := List.mem_of_getElem? (i := 401) (by decide +kernel)
theorem gy_141 : (flW (8, 23, 8, 3) : Cond) ∈ lw_tbl := List.mem_of_getElem? (i := 403) (by decide +kernel)
theorem gy_142 : (flW (9, 9, 9, 0) : Cond) ∈ lw_tbl := List.mem_of_getElem? (i := 176) (by decide +kernel)
theorem gy_143 : (flW (9, 15, 9, 1) : Cond) ∈ lw_tbl := List.mem_of_getElem? (i := 178) (by decide +kernel)
theorem gy_144 : (flW (9, 18, 9, 2) : Cond) ∈ lw_tbl := List.mem_of_getElem? (i := 180) (by decide +kernel)
theorem gy_145 : (flW (9, 21, 9, 3) : Cond) ∈ lw_tbl := List.mem_of_getElem? (i := 182) (by decide +kernel)
theorem gy_146 : (flW (9, 25, 9, 4) : Cond) ∈ lw_tbl := List.mem_of_getElem? (i := 183) (by decide +kernel)
theorem gy_147 : (flW (10, 12, 10, 0) : Cond) ∈ lw_tbl := List.mem_of_getElem? (i := 543) (by decide +kernel)
theorem gy_148 : (flW (10, 19, 10, 1) : Cond) ∈ lw_tbl := List.mem_of_getElem? (i := 544) (by decide +kernel)
theorem gy_149 : (flW (10, 26, 10, 2) : Cond) ∈ lw_tbl := List.mem_of_getElem? (i := 545) (by decide +kernel)
theorem gy_150 : (flW (10, 30, 10, 3) : Cond) ∈ lw_tbl := List.mem_of_getElem? (i := 546) (by decide +kernel)
theorem gy_151 : (flW (10, 36, 10, 4) : Cond) ∈ lw_tbl := List.mem_of_getElem? (i := 547) (by decide +kernel)
theorem gy_152 : (flW (10, 43, 10, 5) : Cond) ∈ lw_tbl := List.mem_of_getElem? (i := 548) (by decide +kernel)
theorem gy_153 : (flW (10, 50, 10, 6) : Cond) ∈ lw_tbl := List.mem_of_getElem? (i := 549) (by decide +kernel)
theorem gy_154 : (flW (10, 57, 10, 7) : Cond) ∈ lw_tbl := List.mem_of_getElem? (i := 550) (by decide +kernel)
theorem gy_155 : (flW (10, 61, 10, 8) : Cond) ∈ lw_tbl := List.mem_of_getElem? (i := 551) (by decide +kernel)
theorem gy_156 : (flW (10, 65, 10, 9) : Cond) ∈ lw_tbl := List.mem_of_getElem? (i := 552) (by decide +kernel)
theorem gy_157 : (flW (10, 68, 10, 10) : Cond) ∈ lw_tbl := List.mem_of_getElem? (i := 553) (by decide +kernel)
theorem gy_158 : (flW (10, 72, 10, 11) : Cond) ∈ lw_tbl := List.mem_of_getElem? (i := 554) (by decide +kernel)
theorem gy_159 : (flW (11, 7, 11, 0) : Cond) ∈ lw_tbl := List.mem_of_getElem? (i := 1195) (by decide +kernel)
theorem gy_160 : (flW (11, 13, 11, 1) : Cond) ∈ lw_tbl := List.mem_of_getElem? (i := 1196) (by decide +kernel)
theorem gy_161 : (flW (11, 17, 11, 2) : Cond) ∈ lw_tbl := List.mem_of_getElem? (i := 1197) (by decide +kernel)
theorem gy_162 : (flW (11, 20, 11, 3) : Cond) ∈ lw_tbl := List.mem_of_getElem? (i := 1198) (by decide +kernel)
theorem gy_163 : (flW (11, 23, 11, 4) : Cond) ∈ lw_tbl := List.mem_of_getElem? (i := 1199) (by decide +kernel)
theorem gy_164 : (flW (11, 26, 11, 5) : Cond) ∈ lw_tbl := List.mem_of_getElem? (i := 1200) (by decide +kernel)
theorem gy_165 : (flW (11, 29, 11, 6) : Cond) ∈ lw_tbl := List.mem_of_getElem? (i := 1201) (by decide +kernel)
theorem gy_166 : (flW (11, 32, 11, 7) : Cond) ∈ lw_tbl := List.mem_of_getElem? (i := 1202) (by decide +kernel)
theorem gy_167 : (flW (11, 36, 11, 8) : Cond) ∈ lw_tbl := List.mem_of_getElem? (i := 1203) (by decide +kernel)
theorem gy_168 : (flW (11, 39, 11, 9) : Cond) ∈ lw_tbl := List.mem_of_getElem? (i := 1204) (by decide +kernel)
theorem gy_169 : (flW (11, 42, 11, 10) : Cond) ∈ lw_tbl := List.mem_of_getElem? (i := 1205) (by decide +kernel)
theorem gy_170 : (flW (11, 45, 11, 11) : Cond) ∈ lw_tbl := List.mem_of_getElem? (i := 1206) (by decide +kernel)
theorem gy_171 : (flW (11, 48, 11, 12) : Cond) ∈ lw_tbl := List.mem_of_getElem? (i := 1207) (by decide +kernel)
theorem gy_172 : (flW (11, 51, 11, 13) : Cond) ∈ lw_tbl := List.mem_of_getElem? (i := 1208) (by decide +kernel)
theorem gy_173 : (flW (11, 54, 11, 14) : Cond) ∈ lw_tbl := List.mem_of_getElem? (i := 1209) (by decide +kernel)
theorem gy_174 : (flW (11, 57, 11, 15) : Cond) ∈ lw_tbl := List.mem_of_getElem? (i := 1210) (by decide +kernel)
theorem gy_175 : (flW (11, 61, 11, 16) : Cond) ∈ lw_tbl := List.mem_of_getElem? (i := 1211) (by decide +kernel)
theorem gy_176 : (flW (11, 64, 11, 17) : Cond) ∈ lw_tbl := List.mem_of_getElem? (i := 1212) (by decide +kernel)
theorem gy_177 : (flW (11, 67, 11, 18) : Cond) ∈ lw_tbl := List.mem_of_getElem? (i := 1213) (by decide +kernel)
theorem gy_178 : (flW (11, 70, 11, 19) : Cond) ∈ lw_tbl := List.mem_of_getElem? (i := 1214) (by decide +kernel)
theorem gy_179 : (flW (11, 73, 11, 20) : Cond) ∈ lw_tbl := List.mem_of_getElem? (i := 1215) (by decide +kernel)
theorem gy_180 : (flW (11, 76, 11, 21) : Cond) ∈ lw_tbl := List.mem_of_getElem? (i := 1216) (by decide +kernel)
theorem gy_181 : (flW (11, 79, 11, 22) : Cond) ∈ lw_tbl := List.mem_of_getElem? (i := 1217) (by decide +kernel)
theorem gy_182 : (flW (11, 82, 11, 23) : Cond) ∈ lw_tbl := List.mem_of_getElem? (i := 1218) (by decide +kernel)
theorem gy_183 : (flW (11, 85, 11, 24) : Cond) ∈ lw_tbl := List.mem_of_getElem? (i := 1219) (by decide +kernel)
theorem gy_184 : (flW (11, 88, 11, 25) : Cond) ∈ lw_tbl := List.mem_of_getElem? (i := 1220) (by decide +kernel)
theorem gy_185 : (flW (11, 91, 11, 26) : Cond) ∈ lw_tbl := List.mem_of_getElem? (i := 1221) (by decide +kernel)
theorem gy_186 : (flW (11, 94, 11, 27) : Cond) ∈ lw_tbl := List.mem_of_getElem? (i := 1222) (by decide +kernel)
theorem gy_187 : (flW (11, 97, 11, 28) : Cond) ∈ lw_tbl := List.mem_of_getElem? (i := 1223) (by decide +kernel)
theorem gy_188 : (flW (11, 100, 11, 29) : Cond) ∈ lw_tbl := List.mem_of_getElem? (i := 1224) (by decide +kernel)
theorem gy_189 : (flW (11, 103, 11, 30) : Cond) ∈ lw_tbl := List.mem_of_getElem? (i := 1225) (by decide +kernel)
theorem gy_190 : (flW (11, 106, 11, 31) : Cond) ∈ lw_tbl := List.mem_of_getElem? (i := 1226) (by decide +kernel)
theorem gy_191 : (flW (11, 109, 11, 32) : Cond) ∈ lw_tbl := List.mem_of_getElem? (i := 1227) (by decide +kernel)
theorem gy_192 : (flW (11, 112, 11, 33) : Cond) ∈ lw_tbl := List.mem_of_getElem? (i := 1228) (by decide +kernel)
theorem gy_193 : (flW (11, 115, 11, 34) : Cond) ∈ lw_tbl := List.mem_of_getElem? (i := 1229) (by decide +kernel)
theorem gy_194 : (flW (11, 118, 11, 35) : Cond) ∈ lw_tbl := List.mem_of_getElem? (i := 1230) (by decide +kernel)
theorem gy_195 : (flW (11, 121, 11, 36) : Cond) ∈ lw_tbl := List.mem_of_getElem? (i := 1231) (by decide +kernel)
theorem gy_196 : (flW (11, 124, 11, 37) : Cond) ∈ lw_tbl := List.mem_of_getElem? (i := 1232) (by decide +kernel)
theorem gy_197 : (flW (11, 127, 11, 38) : Cond) ∈ lw_tbl := List.mem_of_getElem? (i := 1233) (by decide +kernel)
theorem gy_198 : (flW (11, 130, 11, 39) : Cond) ∈ lw_tbl := List.mem_of_getElem? (i := 1234) (by decide +kernel)
theorem gy_199 : (flW (11, 133, 11, 40) : Cond) ∈ lw_tbl := List.mem_of_getElem? (i := 1235) (by decide +kernel)
theorem gy_200 : (flW (11, 136, 11, 41) : Cond) ∈ lw_tbl := List.mem_of_getElem? (i := 1236) (by decide +kernel)
theorem gy_201 : (flW (11, 139, 11, 42) : Cond) ∈ lw_tbl := List.mem_of_getElem? (i := 1237) (by decide +kernel)
theorem gy_202 : (flW (11, 142, 11, 43) : Cond) ∈ lw_tbl := List.mem_of_getElem? (i := 1238) (by decide +kernel)
theorem gy_203 : (flW (11, 145, 11, 44) : Cond) ∈ lw_tbl := List.mem_of_getElem? (i := 1239) (by decide +kernel)
theorem gy_204 : (flW (11, 148, 11, 45) : Cond) ∈ lw_tbl := List.mem_of_getElem? (i := 1240) (by decide +kernel)
theorem gy_205 : (flW (11, 151, 11, 46) : Cond) ∈ lw_tbl := List.mem_of_getElem? (i := 1241) (by decide +kernel)
theorem gy_206 : (flW (11, 154, 11, 47) : Cond) ∈ lw_tbl := List.mem_of_getElem? (i := 1242) (by decide +kernel)
theorem gy_207 : (flW (11, 157, 11, 48) : Cond) ∈ lw_tbl := List.mem_of_getElem? (i := 1243) (by decide +kernel)
theorem gy_208 : (flW (11, 160, 11, 49) : Cond) ∈ lw_tbl := List.mem_of_getElem? (i := 1244) (by decide +kernel)
theorem gy_209 : (flW (11, 163, 11, 50) : Cond) ∈ lw_tbl := List.mem_of_getElem? (i := 1245) (by decide +kernel)
theorem gy_210 : (flW (11, 166, 11, 51) : Cond) ∈ lw_tbl := List.mem_of_getElem? (i := 1246) (by decide +kernel)
theorem gy_211 : (flW (11, 169, 11, 52) : Cond) ∈ lw_tbl := List.mem_of_getElem? (i := 1247) (by decide +kernel)
theorem gy_212 : (flW (11, 172, 11, 53) : Cond) ∈ lw_tbl := List.mem_of_getElem? (i := 1248) (by decide +kernel)
theorem gy_213 : (flW (11, 175, 11, 54) : Cond) ∈ lw_tbl := List.mem_of_getElem? (i := 1249) (by decide +kernel)
theorem gy_214 : (flW (11, 178, 11, 55) : Cond) ∈ lw_tbl := List.mem_of_getElem? (i := 1250) (by decide +kernel)
theorem gy_215 : (flW (11, 181, 11, 56) : Cond) ∈ lw_tbl := List.mem_of_getElem? (i := 1251) (by decide +kernel)
theorem gy_216 : (flW (11, 184, 11, 57) : Cond) ∈ lw_tbl := List.mem_of_getElem? (i := 1252) (by decide +kernel)
theorem gy_217 : (flW (11, 187, 11, 58) : Cond) ∈ lw_tbl := List.mem_of_getElem? (i := 1253) (by decide +kernel)
theorem gy_218 : (flW (11, 190, 11, 59) : Cond) ∈ lw_tbl := List.mem_of_getElem? (i := 1254) (by decide +kernel)
theorem gy_219 : (flW (11, 193, 11, 60) : Cond) ∈ lw_tbl := List.mem_of_getElem? (i := 1255) (by decide +kernel)
theorem gy_220 : (flW (11, 196, 11, 61) : Cond) ∈ lw_tbl := List.mem_of_getElem? (i := 1256) (by decide +kernel)
theorem gy_221 : (flW (11, 199, 11, 62) : Cond) ∈ lw_tbl := List.mem_of_getElem? (i := 1257) (by decide +kernel)
theorem gy_222 : (flW (11, 202, 11, 63) : Cond) ∈ lw_tbl := List.mem_of_getElem? (i := 1258) (by decide +kernel)
theorem gy_223 : (flW (11, 205, 11, 64) : Cond) ∈ lw_tbl := List.mem_of_getElem? (i := 1259) (by decide +kernel)
set_option maxRecDepth 100000 in
theorem GX_tbl : ∀ w ∈ GX, w ∈ lw_tbl := List.forall_mem_cons.mpr ⟨gy_0, List.forall_mem_cons.mpr ⟨gy_1, List.forall_mem_cons.mpr ⟨gy_2, List.forall_mem_cons.mpr ⟨gy_3, List.forall_mem_cons.mpr ⟨gy_4, List.forall_mem_cons.mpr ⟨gy_5, List.forall_mem_cons.mpr ⟨gy_6, List.forall_mem_cons.mpr ⟨gy_7, List.forall_mem_cons.mpr ⟨gy_8, List.forall_mem_cons.mpr ⟨gy_9, List.forall_mem_cons.mpr ⟨gy_10, List.forall_mem_cons.mpr ⟨gy_11, List.forall_mem_cons.mpr ⟨gy_12, List.forall_mem_cons.mpr ⟨gy_13, List.forall_mem_cons.mpr ⟨gy_14, List.forall_mem_cons.mpr ⟨gy_15, List.forall_mem_cons.mpr ⟨gy_16, List.forall_mem_cons.mpr ⟨gy_17, List.forall_mem_cons.mpr ⟨gy_18, List.forall_mem_cons.mpr ⟨gy_19, List.forall_mem_cons.mpr ⟨gy_20, List.forall_mem_cons.mpr ⟨gy_21, List.forall_mem_cons.mpr ⟨gy_22, List.forall_mem_cons.mpr ⟨gy_23, List.forall_mem_cons.mpr ⟨gy_24, List.forall_mem_cons.mpr ⟨gy_25, List.forall_mem_cons.mpr ⟨gy_26, List.forall_mem_cons.mpr ⟨gy_27, List.forall_mem_cons.mpr ⟨gy_28, List.forall_mem_cons.mpr ⟨gy_29, List.forall_mem_cons.mpr ⟨gy_30, List.forall_mem_cons.mpr ⟨gy_31, List.forall_mem_cons.mpr ⟨gy_32, List.forall_mem_cons.mpr ⟨gy_33, List.forall_mem_cons.mpr ⟨gy_34, List.forall_mem_cons.mpr ⟨gy_35, List.forall_mem_cons.mpr ⟨gy_36, List.forall_mem_cons.mpr ⟨gy_37, List.forall_mem_cons.mpr ⟨gy_38, List.forall_mem_cons.mpr ⟨gy_39, List.forall_mem_cons.mpr ⟨gy_40, List.forall_mem_cons.mpr ⟨gy_41, List.forall_mem_cons.mpr ⟨gy_42, List.forall_mem_cons.mpr ⟨gy_43, List.forall_mem_cons.mpr ⟨gy_44, List.forall_mem_cons.mpr ⟨gy_45, List.forall_mem_cons.mpr ⟨gy_46, List.forall_mem_cons.mpr ⟨gy_47, List.forall_mem_cons.mpr ⟨gy_48, List.forall_mem_cons.mpr ⟨gy_49, List.forall_mem_cons.mpr ⟨gy_50, List.forall_mem_cons.mpr ⟨gy_51, List.forall_mem_cons.mpr ⟨gy_52, List.forall_mem_cons.mpr ⟨gy_53, List.forall_mem_cons.mpr ⟨gy_54, List.forall_mem_cons.mpr ⟨gy_55, List.forall_mem_cons.mpr ⟨gy_56, List.forall_mem_cons.mpr ⟨gy_57, List.forall_mem_cons.mpr ⟨gy_58, List.forall_mem_cons.mpr ⟨gy_59, List.forall_mem_cons.mpr ⟨gy_60, List.forall_mem_cons.mpr ⟨gy_61, List.forall_mem_cons.mpr ⟨gy_62, List.forall_mem_cons.mpr ⟨gy_63, List.forall_mem_cons.mpr ⟨gy_64, List.forall_mem_cons.mpr ⟨gy_65, List.forall_mem_cons.mpr ⟨gy_66, List.forall_mem_cons.mpr ⟨gy_67, List.forall_mem_cons.mpr ⟨gy_68, List.forall_mem_cons.mpr ⟨gy_69, List.forall_mem_cons.mpr ⟨gy_70, List.forall_mem_cons.mpr ⟨gy_71, List.forall_mem_cons.mpr ⟨gy_72, List.forall_mem_cons.mpr ⟨gy_73, List.forall_mem_cons.mpr ⟨gy_74, List.forall_mem_cons.mpr ⟨gy_75, List.forall_mem_cons.mpr ⟨gy_76, List.forall_mem_cons.mpr ⟨gy_77, List.forall_mem_cons.mpr ⟨gy_78, List.forall_mem_cons.mpr ⟨gy_79, List.forall_mem_cons.mpr ⟨gy_80, List.forall_mem_cons.mpr ⟨gy_81, List.forall_mem_cons.mpr ⟨gy_82, List.forall_mem_cons.mpr ⟨gy_83, List.forall_mem_cons.mpr ⟨gy_84, List.forall_mem_cons.mpr ⟨gy_85, List.forall_mem_cons.mpr ⟨gy_86, List.forall_mem_cons.mpr ⟨gy_87, List.forall_mem_cons.mpr ⟨gy_88, List.forall_mem_cons.mpr ⟨gy_89, List.forall_mem_cons.mpr ⟨gy_90, List.forall_mem_cons.mpr ⟨gy_91, List.forall_mem_cons.mpr ⟨gy_92, List.forall_mem_cons.mpr ⟨gy_93, List.forall_mem_cons.mpr ⟨gy_94, List.forall_mem_cons.mpr ⟨gy_95, List.forall_mem_cons.mpr ⟨gy_96, List.forall_mem_cons.mpr ⟨gy_97, List.forall_mem_cons.mpr ⟨gy_98, List.forall_mem_cons.mpr ⟨gy_99, List.forall_mem_cons.mpr ⟨gy_100, List.forall_mem_cons.mpr ⟨gy_101, List.forall_mem_cons.mpr ⟨gy_102, List.forall_mem_cons.mpr ⟨gy_103, List.forall_mem_cons.mpr ⟨gy_104, List.forall_mem_cons.mpr ⟨gy_105, List.forall_mem_cons.mpr ⟨gy_106, List.forall_mem_cons.mpr ⟨gy_107, List.forall_mem_cons.mpr ⟨gy_108, List.forall_mem_cons.mpr ⟨gy_109, List.forall_mem_cons.mpr ⟨gy_110, List.forall_mem_cons.mpr ⟨gy_111, List.forall_mem_cons.mpr ⟨gy_112, List.forall_mem_cons.mpr ⟨gy_113, List.forall_mem_cons.mpr ⟨gy_114, List.forall_mem_cons.mpr ⟨gy_115, List.forall_mem_cons.mpr ⟨gy_116, List.forall_mem_cons.mpr ⟨gy_117, List.forall_mem_cons.mpr ⟨gy_118, List.forall_mem_cons.mpr ⟨gy_119, List.forall_mem_cons.mpr ⟨gy_120, List.forall_mem_cons.mpr ⟨gy_121, List.forall_mem_cons.mpr ⟨gy_122, List.forall_mem_cons.mpr ⟨gy_123, List.forall_mem_cons.mpr ⟨gy_124, List.forall_mem_cons.mpr ⟨gy_125, List.forall_mem_cons.mpr ⟨gy_126, List.forall_mem_cons.mpr ⟨gy_127, List.forall_mem_cons.mpr ⟨gy_128, List.forall_mem_cons.mpr ⟨gy_129, List.forall_mem_cons.mpr ⟨gy_130, List.forall_mem_cons.mpr ⟨gy_131, List.forall_mem_cons.mpr ⟨gy_132, List.forall_mem_cons.mpr ⟨gy_133, List.forall_mem_cons.mpr ⟨gy_134, List.forall_mem_cons.mpr ⟨gy_135, List.forall_mem_cons.mpr ⟨gy_136, List.forall_mem_cons.mpr ⟨gy_137, List.forall_mem_cons.mpr ⟨gy_138, List.forall_mem_cons.mpr ⟨gy_139, List.forall_mem_cons.mpr ⟨gy_140, List.forall_mem_cons.mpr ⟨gy_141, List.forall_mem_cons.mpr ⟨gy_142, List.forall_mem_cons.mpr ⟨gy_143, List.forall_mem_cons.mpr ⟨gy_144, List.forall_mem_cons.mpr ⟨gy_145, List.forall_mem_cons.mpr ⟨gy_146, List.forall_mem_cons.mpr ⟨gy_147, List.forall_mem_cons.mpr ⟨gy_148, List.forall_mem_cons.mpr ⟨gy_149, List.forall_mem_cons.mpr ⟨gy_150, List.forall_mem_cons.mpr ⟨gy_151, List.forall_mem_cons.mpr ⟨gy_152, List.forall_mem_cons.mpr ⟨gy_153, List.forall_mem_cons.mpr ⟨gy_154, List.forall_mem_cons.mpr ⟨gy_155, List.forall_mem_cons.mpr ⟨gy_156, List.forall_mem_cons.mpr ⟨gy_157, List.forall_mem_cons.mpr ⟨gy_158, List.forall_mem_cons.mpr ⟨gy_159, List.forall_mem_cons.mpr ⟨gy_160, List.forall_mem_cons.mpr ⟨gy_161, List.forall_mem_cons.mpr ⟨gy_162, List.forall_mem_cons.mpr ⟨gy_163, List.forall_mem_cons.mpr ⟨gy_164, List.forall_mem_cons.mpr ⟨gy_165, List.forall_mem_cons.mpr ⟨gy_166, List.forall_mem_cons.mpr ⟨gy_167, List.forall_mem_cons.mpr ⟨gy_168, List.forall_mem_cons.mpr ⟨gy_169, List.forall_mem_cons.mpr ⟨gy_170, List.forall_mem_cons.mpr ⟨gy_171, List.forall_mem_cons.mpr ⟨gy_172, List.forall_mem_cons.mpr ⟨gy_173, List.forall_mem_cons.mpr ⟨gy_174, List.forall_mem_cons.mpr ⟨gy_175, List.forall_mem_cons.mpr ⟨gy_176, List.forall_mem_cons.mpr ⟨gy_177, List.forall_mem_cons.mpr ⟨gy_178, List.forall_mem_cons.mpr ⟨gy_179, List.forall_mem_cons.mpr ⟨gy_180, List.forall_mem_cons.mpr ⟨gy_181, List.forall_mem_cons.mpr ⟨gy_182, List.forall_mem_cons.mpr ⟨gy_183, List.forall_mem_cons.mpr ⟨gy_184, List.forall_mem_cons.mpr ⟨gy_185, List.forall_mem_cons.mpr ⟨gy_186, List.forall_mem_cons.mpr ⟨gy_187, List.forall_mem_cons.mpr ⟨gy_188, List.forall_mem_cons.mpr ⟨gy_189, List.forall_mem_cons.mpr ⟨gy_190, List.forall_mem_cons.mpr ⟨gy_191, List.forall_mem_cons.mpr ⟨gy_192, List.forall_mem_cons.mpr ⟨gy_193, List.forall_mem_cons.mpr ⟨gy_194, List.forall_mem_cons.mpr ⟨gy_195, List.forall_mem_cons.mpr ⟨gy_196, List.forall_mem_cons.mpr ⟨gy_197, List.forall_mem_cons.mpr ⟨gy_198, List.forall_mem_cons.mpr ⟨gy_199, List.forall_mem_cons.mpr ⟨gy_200, List.forall_mem_cons.mpr ⟨gy_201, List.forall_mem_cons.mpr ⟨gy_202, List.forall_mem_cons.mpr ⟨gy_203, List.forall_mem_cons.mpr ⟨gy_204, List.forall_mem_cons.mpr ⟨gy_205, List.forall_mem_cons.mpr ⟨gy_206, List.forall_mem_cons.mpr ⟨gy_207, List.forall_mem_cons.mpr ⟨gy_208, List.forall_mem_cons.mpr ⟨gy_209, List.forall_mem_cons.mpr ⟨gy_210, List.forall_mem_cons.mpr ⟨gy_211, List.forall_mem_cons.mpr ⟨gy_212, List.forall_mem_cons.mpr ⟨gy_213, List.forall_mem_cons.mpr ⟨gy_214, List.forall_mem_cons.mpr ⟨gy_215, List.forall_mem_cons.mpr ⟨gy_216, List.forall_mem_cons.mpr ⟨gy_217, List.forall_mem_cons.mpr ⟨gy_218, List.forall_mem_cons.mpr ⟨gy_219, List.forall_mem_cons.mpr ⟨gy_220, List.forall_mem_cons.mpr ⟨gy_221, List.forall_mem_cons.mpr ⟨gy_222, List.forall_mem_cons.mpr ⟨gy_223, fun _ h => absurd h List.not_mem_nil⟩⟩⟩⟩⟩⟩⟩⟩⟩⟩⟩⟩⟩⟩⟩⟩⟩⟩⟩⟩⟩⟩⟩⟩⟩⟩⟩⟩⟩⟩⟩⟩⟩⟩⟩⟩⟩⟩⟩⟩⟩⟩⟩⟩⟩⟩⟩⟩⟩⟩⟩⟩⟩⟩⟩⟩⟩⟩⟩⟩⟩⟩⟩⟩⟩⟩⟩⟩⟩⟩⟩⟩⟩⟩⟩⟩⟩⟩⟩⟩⟩⟩⟩⟩⟩⟩⟩⟩⟩⟩⟩⟩⟩⟩⟩⟩⟩⟩⟩⟩⟩⟩⟩⟩⟩⟩⟩⟩⟩⟩⟩⟩⟩⟩⟩⟩⟩⟩⟩⟩⟩⟩⟩⟩⟩⟩⟩⟩⟩⟩⟩⟩⟩⟩⟩⟩⟩⟩⟩⟩⟩⟩⟩⟩⟩⟩⟩⟩⟩⟩⟩⟩⟩⟩⟩⟩⟩⟩⟩⟩⟩⟩⟩⟩⟩⟩⟩⟩⟩⟩⟩⟩⟩⟩⟩⟩⟩⟩⟩⟩⟩⟩⟩⟩⟩⟩⟩⟩⟩⟩⟩⟩⟩⟩⟩⟩⟩⟩⟩⟩⟩⟩⟩⟩⟩⟩⟩⟩⟩⟩⟩⟩⟩⟩⟩⟩⟩⟩⟩⟩⟩⟩⟩⟩
theorem GC_tbl {w : Cond} (h : w ∈ GC) : w ∈ lw_tbl := (List.mem_append.mp h).elim (GX_tbl w) GT_tbl
