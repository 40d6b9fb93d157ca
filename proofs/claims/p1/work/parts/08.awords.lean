theorem gi_nil {big : List Cond} : GoodIn big [] := fun _ h => absurd h List.not_mem_nil
theorem gi_c {big ws : List Cond} {w : Cond} (h : w ∈ big) (hg : goodWord w = true) (t : GoodIn big ws) : GoodIn big (w :: ws) := fun v hv => (List.mem_cons.mp hv).elim (fun e => e ▸ ⟨h, good_of_word hg⟩) (t v)
theorem gi_t {ws : List Cond} {w : Cond} (i : Nat) (h : tables_1[i]? = some w) (hg : goodWord w = true) (t : GoodIn lw_tbl ws) : GoodIn lw_tbl (w :: ws) := gi_c (List.mem_append_right _ (List.mem_of_getElem? h)) hg t
theorem gi_s {ws : List Cond} {w : Cond} (i : Nat) (h : (k2_sels lw_privs)[i]? = some w) (hg : goodWord w = true) (t : GoodIn lw_tbl ws) : GoodIn lw_tbl (w :: ws) := gi_c (List.mem_append_left _ (List.mem_of_getElem? h)) hg t
theorem gc_X0 : GoodIn lw_tbl wsX00 := goodIn_r _ [451] (by decide +kernel) (by decide +kernel)
theorem gc_X1 : GoodIn lw_tbl wsX10 := goodIn_r _ [199, 201, 203, 205, 207, 209, 211, 213, 215, 217, 219, 221, 223, 225, 227, 229, 231, 233] (by decide +kernel) (by decide +kernel)
theorem gc_X2 : GoodIn lw_tbl wsX20 := goodIn_r _ [348, 350, 352, 354, 356, 358, 360, 362, 364, 366, 368, 370, 372, 374] (by decide +kernel) (by decide +kernel)
theorem gc_X3 : GoodIn lw_tbl wsX30 := goodIn_r _ [456] (by decide +kernel) (by decide +kernel)
theorem gc_X5 : GoodIn lw_tbl wsX50 := goodIn_r _ [434] (by decide +kernel) (by decide +kernel)
theorem gc_X6 : GoodIn lw_tbl wsX60 := goodIn_r _ [309, 311, 313, 315, 317, 319, 321] (by decide +kernel) (by decide +kernel)
theorem gc_X7 : GoodIn lw_tbl wsX70 := goodIn_r _ [470, 466, 468] (by decide +kernel) (by decide +kernel)
theorem gc_X8 : GoodIn lw_tbl wsX80 := goodIn_r _ [133, 135] (by decide +kernel) (by decide +kernel)
theorem gc_X9 : GoodIn lw_tbl wsX90 := goodIn_r _ [264, 266, 268, 270, 272, 274, 276, 278, 280, 282, 284, 286, 288, 290] (by decide +kernel) (by decide +kernel)
theorem gc_X10 : GoodIn lw_tbl wsX100 := goodIn_r _ [443] (by decide +kernel) (by decide +kernel)
theorem gc_X11 : GoodIn lw_tbl wsX110 := goodIn_r _ [386, 388, 390, 392, 394, 396, 398, 400, 402] (by decide +kernel) (by decide +kernel)
theorem gc_X12 : GoodIn lw_tbl wsX120 := goodIn_r _ [1133, 1135, 1137, 1139, 1141, 1143, 1145, 1147, 1149, 1151, 1153, 1155, 1157, 1159, 1161, 1163, 1165, 1167, 1169, 1171, 1173, 1175, 1177, 1179, 1181, 1183, 1185, 1187, 1189, 1191, 1193, 1195, 1197, 1199, 1201, 1203] (by decide +kernel) (by decide +kernel)
