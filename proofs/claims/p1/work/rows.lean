section
-- ===== PART A: goes FIRST, ahead of the names: the tables' words, and 'selects' of the private methods out of them =====
/-- a private method of a class that the tables say can be made, by its rows of tables_1 -/
def lw_okq (q : MethodName × Nat) : Prop := (q.1.cls ≠ "java/lang/invoke/MethodHandle" ∧ q.1.cls ≠ "java/lang/invoke/VarHandle") ∧ Cond.instantiable q.1.cls q.2 ∈ tables_1 ∧ Cond.privateMethod q.1 ∈ tables_1 ∧ Cond.instanceMethod q.1 ∈ tables_1
theorem lw_p0 : lw_okq (⟨"CardTables", "gameAt", "(I)LCardTables$Game;"⟩, 9) := ⟨⟨by decide +kernel, by decide +kernel⟩, List.mem_of_getElem? (i := 18) (by decide +kernel), List.mem_of_getElem? (i := 333) (by decide +kernel), List.mem_of_getElem? (i := 334) (by decide +kernel)⟩
theorem lw_p1 : lw_okq (⟨"CardTables$Table", "gatherCards", "()V"⟩, 14) := ⟨⟨by decide +kernel, by decide +kernel⟩, List.mem_of_getElem? (i := 29) (by decide +kernel), List.mem_of_getElem? (i := 411) (by decide +kernel), List.mem_of_getElem? (i := 412) (by decide +kernel)⟩
theorem lw_p2 : lw_okq (⟨"CardTables", "tableAt", "(I)LCardTables$Table;"⟩, 9) := ⟨⟨by decide +kernel, by decide +kernel⟩, List.mem_of_getElem? (i := 18) (by decide +kernel), List.mem_of_getElem? (i := 432) (by decide +kernel), List.mem_of_getElem? (i := 433) (by decide +kernel)⟩
theorem lw_p3 : lw_okq (⟨"CardTables$Table", "moveTo", "(II)V"⟩, 14) := ⟨⟨by decide +kernel, by decide +kernel⟩, List.mem_of_getElem? (i := 29) (by decide +kernel), List.mem_of_getElem? (i := 455) (by decide +kernel), List.mem_of_getElem? (i := 456) (by decide +kernel)⟩
theorem lw_p4 : lw_okq (⟨"CardTables", "keep", "(LCardTables$Table;)V"⟩, 9) := ⟨⟨by decide +kernel, by decide +kernel⟩, List.mem_of_getElem? (i := 18) (by decide +kernel), List.mem_of_getElem? (i := 503) (by decide +kernel), List.mem_of_getElem? (i := 504) (by decide +kernel)⟩
theorem lw_p5 : lw_okq (⟨"CardTables$Table", "dealHands", "(I)V"⟩, 14) := ⟨⟨by decide +kernel, by decide +kernel⟩, List.mem_of_getElem? (i := 29) (by decide +kernel), List.mem_of_getElem? (i := 540) (by decide +kernel), List.mem_of_getElem? (i := 541) (by decide +kernel)⟩
theorem lw_p6 : lw_okq (⟨"CardTables$Table", "nextAble", "(I)I"⟩, 14) := ⟨⟨by decide +kernel, by decide +kernel⟩, List.mem_of_getElem? (i := 29) (by decide +kernel), List.mem_of_getElem? (i := 549) (by decide +kernel), List.mem_of_getElem? (i := 550) (by decide +kernel)⟩
theorem lw_p7 : lw_okq (⟨"CardTables$Table", "canLay", "(I)Z"⟩, 14) := ⟨⟨by decide +kernel, by decide +kernel⟩, List.mem_of_getElem? (i := 29) (by decide +kernel), List.mem_of_getElem? (i := 557) (by decide +kernel), List.mem_of_getElem? (i := 558) (by decide +kernel)⟩
theorem lw_p8 : lw_okq (⟨"CardTables$Table", "isBegun", "()Z"⟩, 14) := ⟨⟨by decide +kernel, by decide +kernel⟩, List.mem_of_getElem? (i := 29) (by decide +kernel), List.mem_of_getElem? (i := 575) (by decide +kernel), List.mem_of_getElem? (i := 576) (by decide +kernel)⟩
theorem lw_p9 : lw_okq (⟨"CardTables", "play", "(LCardTables$Table;LCardTables$Notes;III)I"⟩, 9) := ⟨⟨by decide +kernel, by decide +kernel⟩, List.mem_of_getElem? (i := 18) (by decide +kernel), List.mem_of_getElem? (i := 618) (by decide +kernel), List.mem_of_getElem? (i := 619) (by decide +kernel)⟩
theorem lw_p10 : lw_okq (⟨"CardTables$Table", "putRight", "(II)V"⟩, 14) := ⟨⟨by decide +kernel, by decide +kernel⟩, List.mem_of_getElem? (i := 29) (by decide +kernel), List.mem_of_getElem? (i := 679) (by decide +kernel), List.mem_of_getElem? (i := 680) (by decide +kernel)⟩
theorem lw_p11 : lw_okq (⟨"CardTables$Table", "endDeal", "(LCardTables$Notes;)V"⟩, 14) := ⟨⟨by decide +kernel, by decide +kernel⟩, List.mem_of_getElem? (i := 29) (by decide +kernel), List.mem_of_getElem? (i := 747) (by decide +kernel), List.mem_of_getElem? (i := 748) (by decide +kernel)⟩
theorem lw_p12 : lw_okq (⟨"CardTables$Table", "share", "(LCardTables$Notes;II)V"⟩, 14) := ⟨⟨by decide +kernel, by decide +kernel⟩, List.mem_of_getElem? (i := 29) (by decide +kernel), List.mem_of_getElem? (i := 769) (by decide +kernel), List.mem_of_getElem? (i := 770) (by decide +kernel)⟩
theorem lw_p13 : lw_okq (⟨"CardTables$Ends", "setBit", "(II)V"⟩, 14) := ⟨⟨by decide +kernel, by decide +kernel⟩, List.mem_of_getElem? (i := 245) (by decide +kernel), List.mem_of_getElem? (i := 862) (by decide +kernel), List.mem_of_getElem? (i := 863) (by decide +kernel)⟩
theorem lw_p14 : lw_okq (⟨"CardTables$Ends", "reaches", "(III)Z"⟩, 14) := ⟨⟨by decide +kernel, by decide +kernel⟩, List.mem_of_getElem? (i := 245) (by decide +kernel), List.mem_of_getElem? (i := 870) (by decide +kernel), List.mem_of_getElem? (i := 871) (by decide +kernel)⟩
theorem lw_p15 : lw_okq (⟨"CardTables$Ends", "keyOf", "(I)I"⟩, 14) := ⟨⟨by decide +kernel, by decide +kernel⟩, List.mem_of_getElem? (i := 245) (by decide +kernel), List.mem_of_getElem? (i := 875) (by decide +kernel), List.mem_of_getElem? (i := 876) (by decide +kernel)⟩
def lw_privs_1 : List (MethodName × Nat) := [(⟨"CardTables", "gameAt", "(I)LCardTables$Game;"⟩, 9), (⟨"CardTables$Table", "gatherCards", "()V"⟩, 14), (⟨"CardTables", "tableAt", "(I)LCardTables$Table;"⟩, 9), (⟨"CardTables$Table", "moveTo", "(II)V"⟩, 14), (⟨"CardTables", "keep", "(LCardTables$Table;)V"⟩, 9), (⟨"CardTables$Table", "dealHands", "(I)V"⟩, 14), (⟨"CardTables$Table", "nextAble", "(I)I"⟩, 14), (⟨"CardTables$Table", "canLay", "(I)Z"⟩, 14), (⟨"CardTables$Table", "isBegun", "()Z"⟩, 14), (⟨"CardTables", "play", "(LCardTables$Table;LCardTables$Notes;III)I"⟩, 9), (⟨"CardTables$Table", "putRight", "(II)V"⟩, 14), (⟨"CardTables$Table", "endDeal", "(LCardTables$Notes;)V"⟩, 14), (⟨"CardTables$Table", "share", "(LCardTables$Notes;II)V"⟩, 14), (⟨"CardTables$Ends", "setBit", "(II)V"⟩, 14), (⟨"CardTables$Ends", "reaches", "(III)Z"⟩, 14), (⟨"CardTables$Ends", "keyOf", "(I)I"⟩, 14)]
theorem lw_r1 : ∀ q ∈ lw_privs_1, lw_okq q := List.forall_mem_cons.mpr ⟨lw_p0, List.forall_mem_cons.mpr ⟨lw_p1, List.forall_mem_cons.mpr ⟨lw_p2, List.forall_mem_cons.mpr ⟨lw_p3, List.forall_mem_cons.mpr ⟨lw_p4, List.forall_mem_cons.mpr ⟨lw_p5, List.forall_mem_cons.mpr ⟨lw_p6, List.forall_mem_cons.mpr ⟨lw_p7, List.forall_mem_cons.mpr ⟨lw_p8, List.forall_mem_cons.mpr ⟨lw_p9, List.forall_mem_cons.mpr ⟨lw_p10, List.forall_mem_cons.mpr ⟨lw_p11, List.forall_mem_cons.mpr ⟨lw_p12, List.forall_mem_cons.mpr ⟨lw_p13, List.forall_mem_cons.mpr ⟨lw_p14, List.forall_mem_cons.mpr ⟨lw_p15, fun _ h => absurd h List.not_mem_nil⟩⟩⟩⟩⟩⟩⟩⟩⟩⟩⟩⟩⟩⟩⟩⟩
theorem lw_p16 : lw_okq (⟨"CardTables$Ends", "boundsAt", "(I)I"⟩, 14) := ⟨⟨by decide +kernel, by decide +kernel⟩, List.mem_of_getElem? (i := 245) (by decide +kernel), List.mem_of_getElem? (i := 881) (by decide +kernel), List.mem_of_getElem? (i := 882) (by decide +kernel)⟩
theorem lw_p17 : lw_okq (⟨"CardTables$Ends", "lets", "(II)Z"⟩, 14) := ⟨⟨by decide +kernel, by decide +kernel⟩, List.mem_of_getElem? (i := 245) (by decide +kernel), List.mem_of_getElem? (i := 885) (by decide +kernel), List.mem_of_getElem? (i := 886) (by decide +kernel)⟩
theorem lw_p18 : lw_okq (⟨"CardTables$Ends", "forward", "(II)I"⟩, 14) := ⟨⟨by decide +kernel, by decide +kernel⟩, List.mem_of_getElem? (i := 245) (by decide +kernel), List.mem_of_getElem? (i := 890) (by decide +kernel), List.mem_of_getElem? (i := 891) (by decide +kernel)⟩
theorem lw_p19 : lw_okq (⟨"CardTables$Ends", "nextAble", "(I)I"⟩, 14) := ⟨⟨by decide +kernel, by decide +kernel⟩, List.mem_of_getElem? (i := 245) (by decide +kernel), List.mem_of_getElem? (i := 896) (by decide +kernel), List.mem_of_getElem? (i := 897) (by decide +kernel)⟩
theorem lw_p20 : lw_okq (⟨"CardTables$Ends", "back", "(III)V"⟩, 14) := ⟨⟨by decide +kernel, by decide +kernel⟩, List.mem_of_getElem? (i := 245) (by decide +kernel), List.mem_of_getElem? (i := 903) (by decide +kernel), List.mem_of_getElem? (i := 904) (by decide +kernel)⟩
theorem lw_p21 : lw_okq (⟨"CardTables$Ends", "linePlace", "(III)I"⟩, 14) := ⟨⟨by decide +kernel, by decide +kernel⟩, List.mem_of_getElem? (i := 245) (by decide +kernel), List.mem_of_getElem? (i := 919) (by decide +kernel), List.mem_of_getElem? (i := 920) (by decide +kernel)⟩
theorem lw_p22 : lw_okq (⟨"CardTables$Ends", "sureFrom", "(II)I"⟩, 14) := ⟨⟨by decide +kernel, by decide +kernel⟩, List.mem_of_getElem? (i := 245) (by decide +kernel), List.mem_of_getElem? (i := 929) (by decide +kernel), List.mem_of_getElem? (i := 930) (by decide +kernel)⟩
theorem lw_p23 : lw_okq (⟨"CardTables", "repeatAside", "(IIII)V"⟩, 9) := ⟨⟨by decide +kernel, by decide +kernel⟩, List.mem_of_getElem? (i := 18) (by decide +kernel), List.mem_of_getElem? (i := 951) (by decide +kernel), List.mem_of_getElem? (i := 952) (by decide +kernel)⟩
theorem lw_p24 : lw_okq (⟨"CardTables", "tablesThere", "()I"⟩, 9) := ⟨⟨by decide +kernel, by decide +kernel⟩, List.mem_of_getElem? (i := 18) (by decide +kernel), List.mem_of_getElem? (i := 998) (by decide +kernel), List.mem_of_getElem? (i := 999) (by decide +kernel)⟩
theorem lw_p25 : lw_okq (⟨"CardTables", "gamesThere", "()I"⟩, 9) := ⟨⟨by decide +kernel, by decide +kernel⟩, List.mem_of_getElem? (i := 18) (by decide +kernel), List.mem_of_getElem? (i := 1002) (by decide +kernel), List.mem_of_getElem? (i := 1003) (by decide +kernel)⟩
theorem lw_p26 : lw_okq (⟨"CardTablesModel", "isGame", "(I)Z"⟩, 36) := ⟨⟨by decide +kernel, by decide +kernel⟩, List.mem_of_getElem? (i := 1010) (by decide +kernel), List.mem_of_getElem? (i := 1135) (by decide +kernel), List.mem_of_getElem? (i := 1136) (by decide +kernel)⟩
theorem lw_p27 : lw_okq (⟨"CardTablesModel", "begin", "(I)V"⟩, 36) := ⟨⟨by decide +kernel, by decide +kernel⟩, List.mem_of_getElem? (i := 1010) (by decide +kernel), List.mem_of_getElem? (i := 1147) (by decide +kernel), List.mem_of_getElem? (i := 1148) (by decide +kernel)⟩
theorem lw_p28 : lw_okq (⟨"CardTablesModel", "isTable", "(I)Z"⟩, 36) := ⟨⟨by decide +kernel, by decide +kernel⟩, List.mem_of_getElem? (i := 1010) (by decide +kernel), List.mem_of_getElem? (i := 1155) (by decide +kernel), List.mem_of_getElem? (i := 1156) (by decide +kernel)⟩
theorem lw_p29 : lw_okq (⟨"CardTablesModel", "isCard", "(II)Z"⟩, 36) := ⟨⟨by decide +kernel, by decide +kernel⟩, List.mem_of_getElem? (i := 1010) (by decide +kernel), List.mem_of_getElem? (i := 1166) (by decide +kernel), List.mem_of_getElem? (i := 1167) (by decide +kernel)⟩
theorem lw_p30 : lw_okq (⟨"CardTablesModel", "sizeOf", "(I)I"⟩, 36) := ⟨⟨by decide +kernel, by decide +kernel⟩, List.mem_of_getElem? (i := 1010) (by decide +kernel), List.mem_of_getElem? (i := 1182) (by decide +kernel), List.mem_of_getElem? (i := 1183) (by decide +kernel)⟩
theorem lw_p31 : lw_okq (⟨"CardTablesModel", "keep", "(I)V"⟩, 36) := ⟨⟨by decide +kernel, by decide +kernel⟩, List.mem_of_getElem? (i := 1010) (by decide +kernel), List.mem_of_getElem? (i := 1186) (by decide +kernel), List.mem_of_getElem? (i := 1187) (by decide +kernel)⟩
def lw_privs_2 : List (MethodName × Nat) := [(⟨"CardTables$Ends", "boundsAt", "(I)I"⟩, 14), (⟨"CardTables$Ends", "lets", "(II)Z"⟩, 14), (⟨"CardTables$Ends", "forward", "(II)I"⟩, 14), (⟨"CardTables$Ends", "nextAble", "(I)I"⟩, 14), (⟨"CardTables$Ends", "back", "(III)V"⟩, 14), (⟨"CardTables$Ends", "linePlace", "(III)I"⟩, 14), (⟨"CardTables$Ends", "sureFrom", "(II)I"⟩, 14), (⟨"CardTables", "repeatAside", "(IIII)V"⟩, 9), (⟨"CardTables", "tablesThere", "()I"⟩, 9), (⟨"CardTables", "gamesThere", "()I"⟩, 9), (⟨"CardTablesModel", "isGame", "(I)Z"⟩, 36), (⟨"CardTablesModel", "begin", "(I)V"⟩, 36), (⟨"CardTablesModel", "isTable", "(I)Z"⟩, 36), (⟨"CardTablesModel", "isCard", "(II)Z"⟩, 36), (⟨"CardTablesModel", "sizeOf", "(I)I"⟩, 36), (⟨"CardTablesModel", "keep", "(I)V"⟩, 36)]
theorem lw_r2 : ∀ q ∈ lw_privs_2, lw_okq q := List.forall_mem_cons.mpr ⟨lw_p16, List.forall_mem_cons.mpr ⟨lw_p17, List.forall_mem_cons.mpr ⟨lw_p18, List.forall_mem_cons.mpr ⟨lw_p19, List.forall_mem_cons.mpr ⟨lw_p20, List.forall_mem_cons.mpr ⟨lw_p21, List.forall_mem_cons.mpr ⟨lw_p22, List.forall_mem_cons.mpr ⟨lw_p23, List.forall_mem_cons.mpr ⟨lw_p24, List.forall_mem_cons.mpr ⟨lw_p25, List.forall_mem_cons.mpr ⟨lw_p26, List.forall_mem_cons.mpr ⟨lw_p27, List.forall_mem_cons.mpr ⟨lw_p28, List.forall_mem_cons.mpr ⟨lw_p29, List.forall_mem_cons.mpr ⟨lw_p30, List.forall_mem_cons.mpr ⟨lw_p31, fun _ h => absurd h List.not_mem_nil⟩⟩⟩⟩⟩⟩⟩⟩⟩⟩⟩⟩⟩⟩⟩⟩
theorem lw_p32 : lw_okq (⟨"CardTablesModel", "copy", "(II)V"⟩, 36) := ⟨⟨by decide +kernel, by decide +kernel⟩, List.mem_of_getElem? (i := 1010) (by decide +kernel), List.mem_of_getElem? (i := 1190) (by decide +kernel), List.mem_of_getElem? (i := 1191) (by decide +kernel)⟩
theorem lw_p33 : lw_okq (⟨"CardTablesModel", "dealOut", "(III)V"⟩, 36) := ⟨⟨by decide +kernel, by decide +kernel⟩, List.mem_of_getElem? (i := 1010) (by decide +kernel), List.mem_of_getElem? (i := 1194) (by decide +kernel), List.mem_of_getElem? (i := 1195) (by decide +kernel)⟩
theorem lw_p34 : lw_okq (⟨"CardTablesModel", "body", "(I)V"⟩, 36) := ⟨⟨by decide +kernel, by decide +kernel⟩, List.mem_of_getElem? (i := 1010) (by decide +kernel), List.mem_of_getElem? (i := 1198) (by decide +kernel), List.mem_of_getElem? (i := 1199) (by decide +kernel)⟩
theorem lw_p35 : lw_okq (⟨"CardTablesModel", "toHand", "(III)V"⟩, 36) := ⟨⟨by decide +kernel, by decide +kernel⟩, List.mem_of_getElem? (i := 1010) (by decide +kernel), List.mem_of_getElem? (i := 1204) (by decide +kernel), List.mem_of_getElem? (i := 1205) (by decide +kernel)⟩
theorem lw_p36 : lw_okq (⟨"CardTablesModel", "takeRest", "(II)V"⟩, 36) := ⟨⟨by decide +kernel, by decide +kernel⟩, List.mem_of_getElem? (i := 1010) (by decide +kernel), List.mem_of_getElem? (i := 1208) (by decide +kernel), List.mem_of_getElem? (i := 1209) (by decide +kernel)⟩
theorem lw_p37 : lw_okq (⟨"CardTablesModel", "seatFrom", "(II)I"⟩, 36) := ⟨⟨by decide +kernel, by decide +kernel⟩, List.mem_of_getElem? (i := 1010) (by decide +kernel), List.mem_of_getElem? (i := 1212) (by decide +kernel), List.mem_of_getElem? (i := 1213) (by decide +kernel)⟩
theorem lw_p38 : lw_okq (⟨"CardTablesModel", "canLay", "(II)Z"⟩, 36) := ⟨⟨by decide +kernel, by decide +kernel⟩, List.mem_of_getElem? (i := 1010) (by decide +kernel), List.mem_of_getElem? (i := 1216) (by decide +kernel), List.mem_of_getElem? (i := 1217) (by decide +kernel)⟩
theorem lw_p39 : lw_okq (⟨"CardTablesModel", "tell", "(IIIII)V"⟩, 36) := ⟨⟨by decide +kernel, by decide +kernel⟩, List.mem_of_getElem? (i := 1010) (by decide +kernel), List.mem_of_getElem? (i := 1220) (by decide +kernel), List.mem_of_getElem? (i := 1221) (by decide +kernel)⟩
theorem lw_p40 : lw_okq (⟨"CardTablesModel", "barsGive", "(III)I"⟩, 36) := ⟨⟨by decide +kernel, by decide +kernel⟩, List.mem_of_getElem? (i := 1010) (by decide +kernel), List.mem_of_getElem? (i := 1228) (by decide +kernel), List.mem_of_getElem? (i := 1229) (by decide +kernel)⟩
theorem lw_p41 : lw_okq (⟨"CardTablesModel", "isOpen", "(II)Z"⟩, 36) := ⟨⟨by decide +kernel, by decide +kernel⟩, List.mem_of_getElem? (i := 1010) (by decide +kernel), List.mem_of_getElem? (i := 1232) (by decide +kernel), List.mem_of_getElem? (i := 1233) (by decide +kernel)⟩
theorem lw_p42 : lw_okq (⟨"CardTablesModel", "doGive", "(III)V"⟩, 36) := ⟨⟨by decide +kernel, by decide +kernel⟩, List.mem_of_getElem? (i := 1010) (by decide +kernel), List.mem_of_getElem? (i := 1236) (by decide +kernel), List.mem_of_getElem? (i := 1237) (by decide +kernel)⟩
theorem lw_p43 : lw_okq (⟨"CardTablesModel", "canBid", "(IIII)Z"⟩, 36) := ⟨⟨by decide +kernel, by decide +kernel⟩, List.mem_of_getElem? (i := 1010) (by decide +kernel), List.mem_of_getElem? (i := 1244) (by decide +kernel), List.mem_of_getElem? (i := 1245) (by decide +kernel)⟩
theorem lw_p44 : lw_okq (⟨"CardTablesModel", "doBid", "(IIII)V"⟩, 36) := ⟨⟨by decide +kernel, by decide +kernel⟩, List.mem_of_getElem? (i := 1010) (by decide +kernel), List.mem_of_getElem? (i := 1248) (by decide +kernel), List.mem_of_getElem? (i := 1249) (by decide +kernel)⟩
theorem lw_p45 : lw_okq (⟨"CardTablesModel", "canDouble", "(II)Z"⟩, 36) := ⟨⟨by decide +kernel, by decide +kernel⟩, List.mem_of_getElem? (i := 1010) (by decide +kernel), List.mem_of_getElem? (i := 1256) (by decide +kernel), List.mem_of_getElem? (i := 1257) (by decide +kernel)⟩
theorem lw_p46 : lw_okq (⟨"CardTablesModel", "play", "(IIIZ)I"⟩, 36) := ⟨⟨by decide +kernel, by decide +kernel⟩, List.mem_of_getElem? (i := 1010) (by decide +kernel), List.mem_of_getElem? (i := 1264) (by decide +kernel), List.mem_of_getElem? (i := 1265) (by decide +kernel)⟩
theorem lw_p47 : lw_okq (⟨"CardTablesModel", "playMeets", "(IIIZ)I"⟩, 36) := ⟨⟨by decide +kernel, by decide +kernel⟩, List.mem_of_getElem? (i := 1010) (by decide +kernel), List.mem_of_getElem? (i := 1268) (by decide +kernel), List.mem_of_getElem? (i := 1269) (by decide +kernel)⟩
def lw_privs_3 : List (MethodName × Nat) := [(⟨"CardTablesModel", "copy", "(II)V"⟩, 36), (⟨"CardTablesModel", "dealOut", "(III)V"⟩, 36), (⟨"CardTablesModel", "body", "(I)V"⟩, 36), (⟨"CardTablesModel", "toHand", "(III)V"⟩, 36), (⟨"CardTablesModel", "takeRest", "(II)V"⟩, 36), (⟨"CardTablesModel", "seatFrom", "(II)I"⟩, 36), (⟨"CardTablesModel", "canLay", "(II)Z"⟩, 36), (⟨"CardTablesModel", "tell", "(IIIII)V"⟩, 36), (⟨"CardTablesModel", "barsGive", "(III)I"⟩, 36), (⟨"CardTablesModel", "isOpen", "(II)Z"⟩, 36), (⟨"CardTablesModel", "doGive", "(III)V"⟩, 36), (⟨"CardTablesModel", "canBid", "(IIII)Z"⟩, 36), (⟨"CardTablesModel", "doBid", "(IIII)V"⟩, 36), (⟨"CardTablesModel", "canDouble", "(II)Z"⟩, 36), (⟨"CardTablesModel", "play", "(IIIZ)I"⟩, 36), (⟨"CardTablesModel", "playMeets", "(IIIZ)I"⟩, 36)]
theorem lw_r3 : ∀ q ∈ lw_privs_3, lw_okq q := List.forall_mem_cons.mpr ⟨lw_p32, List.forall_mem_cons.mpr ⟨lw_p33, List.forall_mem_cons.mpr ⟨lw_p34, List.forall_mem_cons.mpr ⟨lw_p35, List.forall_mem_cons.mpr ⟨lw_p36, List.forall_mem_cons.mpr ⟨lw_p37, List.forall_mem_cons.mpr ⟨lw_p38, List.forall_mem_cons.mpr ⟨lw_p39, List.forall_mem_cons.mpr ⟨lw_p40, List.forall_mem_cons.mpr ⟨lw_p41, List.forall_mem_cons.mpr ⟨lw_p42, List.forall_mem_cons.mpr ⟨lw_p43, List.forall_mem_cons.mpr ⟨lw_p44, List.forall_mem_cons.mpr ⟨lw_p45, List.forall_mem_cons.mpr ⟨lw_p46, List.forall_mem_cons.mpr ⟨lw_p47, fun _ h => absurd h List.not_mem_nil⟩⟩⟩⟩⟩⟩⟩⟩⟩⟩⟩⟩⟩⟩⟩⟩
theorem lw_p48 : lw_okq (⟨"CardTablesModel", "meets", "(IIIZ)I"⟩, 36) := ⟨⟨by decide +kernel, by decide +kernel⟩, List.mem_of_getElem? (i := 1010) (by decide +kernel), List.mem_of_getElem? (i := 1272) (by decide +kernel), List.mem_of_getElem? (i := 1273) (by decide +kernel)⟩
theorem lw_p49 : lw_okq (⟨"CardTablesModel", "look", "(II)V"⟩, 36) := ⟨⟨by decide +kernel, by decide +kernel⟩, List.mem_of_getElem? (i := 1010) (by decide +kernel), List.mem_of_getElem? (i := 1276) (by decide +kernel), List.mem_of_getElem? (i := 1277) (by decide +kernel)⟩
theorem lw_p50 : lw_okq (⟨"CardTablesModel", "allows", "(II)I"⟩, 36) := ⟨⟨by decide +kernel, by decide +kernel⟩, List.mem_of_getElem? (i := 1010) (by decide +kernel), List.mem_of_getElem? (i := 1280) (by decide +kernel), List.mem_of_getElem? (i := 1281) (by decide +kernel)⟩
theorem lw_p51 : lw_okq (⟨"CardTablesModel", "colour", "(II)I"⟩, 36) := ⟨⟨by decide +kernel, by decide +kernel⟩, List.mem_of_getElem? (i := 1010) (by decide +kernel), List.mem_of_getElem? (i := 1284) (by decide +kernel), List.mem_of_getElem? (i := 1285) (by decide +kernel)⟩
theorem lw_p52 : lw_okq (⟨"CardTablesModel", "hasOther", "(II)Z"⟩, 36) := ⟨⟨by decide +kernel, by decide +kernel⟩, List.mem_of_getElem? (i := 1010) (by decide +kernel), List.mem_of_getElem? (i := 1288) (by decide +kernel), List.mem_of_getElem? (i := 1289) (by decide +kernel)⟩
theorem lw_p53 : lw_okq (⟨"CardTablesModel", "has", "(II)Z"⟩, 36) := ⟨⟨by decide +kernel, by decide +kernel⟩, List.mem_of_getElem? (i := 1010) (by decide +kernel), List.mem_of_getElem? (i := 1292) (by decide +kernel), List.mem_of_getElem? (i := 1293) (by decide +kernel)⟩
theorem lw_p54 : lw_okq (⟨"CardTablesModel", "find", "(IIII)V"⟩, 36) := ⟨⟨by decide +kernel, by decide +kernel⟩, List.mem_of_getElem? (i := 1010) (by decide +kernel), List.mem_of_getElem? (i := 1296) (by decide +kernel), List.mem_of_getElem? (i := 1297) (by decide +kernel)⟩
theorem lw_p55 : lw_okq (⟨"CardTablesModel", "doLay", "(IIII)V"⟩, 36) := ⟨⟨by decide +kernel, by decide +kernel⟩, List.mem_of_getElem? (i := 1010) (by decide +kernel), List.mem_of_getElem? (i := 1300) (by decide +kernel), List.mem_of_getElem? (i := 1301) (by decide +kernel)⟩
theorem lw_p56 : lw_okq (⟨"CardTablesModel", "showFound", "(III)V"⟩, 36) := ⟨⟨by decide +kernel, by decide +kernel⟩, List.mem_of_getElem? (i := 1010) (by decide +kernel), List.mem_of_getElem? (i := 1304) (by decide +kernel), List.mem_of_getElem? (i := 1305) (by decide +kernel)⟩
theorem lw_p57 : lw_okq (⟨"CardTablesModel", "putRight", "(III)V"⟩, 36) := ⟨⟨by decide +kernel, by decide +kernel⟩, List.mem_of_getElem? (i := 1010) (by decide +kernel), List.mem_of_getElem? (i := 1308) (by decide +kernel), List.mem_of_getElem? (i := 1309) (by decide +kernel)⟩
theorem lw_p58 : lw_okq (⟨"CardTablesModel", "endTrick", "(II)V"⟩, 36) := ⟨⟨by decide +kernel, by decide +kernel⟩, List.mem_of_getElem? (i := 1010) (by decide +kernel), List.mem_of_getElem? (i := 1312) (by decide +kernel), List.mem_of_getElem? (i := 1313) (by decide +kernel)⟩
theorem lw_p59 : lw_okq (⟨"CardTablesModel", "wins", "(I)I"⟩, 36) := ⟨⟨by decide +kernel, by decide +kernel⟩, List.mem_of_getElem? (i := 1010) (by decide +kernel), List.mem_of_getElem? (i := 1316) (by decide +kernel), List.mem_of_getElem? (i := 1317) (by decide +kernel)⟩
theorem lw_p60 : lw_okq (⟨"CardTablesModel", "greatest", "(III)I"⟩, 36) := ⟨⟨by decide +kernel, by decide +kernel⟩, List.mem_of_getElem? (i := 1010) (by decide +kernel), List.mem_of_getElem? (i := 1320) (by decide +kernel), List.mem_of_getElem? (i := 1321) (by decide +kernel)⟩
theorem lw_p61 : lw_okq (⟨"CardTablesModel", "winsPlainly", "(I)I"⟩, 36) := ⟨⟨by decide +kernel, by decide +kernel⟩, List.mem_of_getElem? (i := 1010) (by decide +kernel), List.mem_of_getElem? (i := 1324) (by decide +kernel), List.mem_of_getElem? (i := 1325) (by decide +kernel)⟩
theorem lw_p62 : lw_okq (⟨"CardTablesModel", "score", "(II)I"⟩, 36) := ⟨⟨by decide +kernel, by decide +kernel⟩, List.mem_of_getElem? (i := 1010) (by decide +kernel), List.mem_of_getElem? (i := 1328) (by decide +kernel), List.mem_of_getElem? (i := 1329) (by decide +kernel)⟩
theorem lw_p63 : lw_okq (⟨"CardTablesModel", "scorePlainly", "(IZ)I"⟩, 36) := ⟨⟨by decide +kernel, by decide +kernel⟩, List.mem_of_getElem? (i := 1010) (by decide +kernel), List.mem_of_getElem? (i := 1332) (by decide +kernel), List.mem_of_getElem? (i := 1333) (by decide +kernel)⟩
def lw_privs_4 : List (MethodName × Nat) := [(⟨"CardTablesModel", "meets", "(IIIZ)I"⟩, 36), (⟨"CardTablesModel", "look", "(II)V"⟩, 36), (⟨"CardTablesModel", "allows", "(II)I"⟩, 36), (⟨"CardTablesModel", "colour", "(II)I"⟩, 36), (⟨"CardTablesModel", "hasOther", "(II)Z"⟩, 36), (⟨"CardTablesModel", "has", "(II)Z"⟩, 36), (⟨"CardTablesModel", "find", "(IIII)V"⟩, 36), (⟨"CardTablesModel", "doLay", "(IIII)V"⟩, 36), (⟨"CardTablesModel", "showFound", "(III)V"⟩, 36), (⟨"CardTablesModel", "putRight", "(III)V"⟩, 36), (⟨"CardTablesModel", "endTrick", "(II)V"⟩, 36), (⟨"CardTablesModel", "wins", "(I)I"⟩, 36), (⟨"CardTablesModel", "greatest", "(III)I"⟩, 36), (⟨"CardTablesModel", "winsPlainly", "(I)I"⟩, 36), (⟨"CardTablesModel", "score", "(II)I"⟩, 36), (⟨"CardTablesModel", "scorePlainly", "(IZ)I"⟩, 36)]
theorem lw_r4 : ∀ q ∈ lw_privs_4, lw_okq q := List.forall_mem_cons.mpr ⟨lw_p48, List.forall_mem_cons.mpr ⟨lw_p49, List.forall_mem_cons.mpr ⟨lw_p50, List.forall_mem_cons.mpr ⟨lw_p51, List.forall_mem_cons.mpr ⟨lw_p52, List.forall_mem_cons.mpr ⟨lw_p53, List.forall_mem_cons.mpr ⟨lw_p54, List.forall_mem_cons.mpr ⟨lw_p55, List.forall_mem_cons.mpr ⟨lw_p56, List.forall_mem_cons.mpr ⟨lw_p57, List.forall_mem_cons.mpr ⟨lw_p58, List.forall_mem_cons.mpr ⟨lw_p59, List.forall_mem_cons.mpr ⟨lw_p60, List.forall_mem_cons.mpr ⟨lw_p61, List.forall_mem_cons.mpr ⟨lw_p62, List.forall_mem_cons.mpr ⟨lw_p63, fun _ h => absurd h List.not_mem_nil⟩⟩⟩⟩⟩⟩⟩⟩⟩⟩⟩⟩⟩⟩⟩⟩
theorem lw_p64 : lw_okq (⟨"CardTablesModel", "endDeal", "(II)V"⟩, 36) := ⟨⟨by decide +kernel, by decide +kernel⟩, List.mem_of_getElem? (i := 1010) (by decide +kernel), List.mem_of_getElem? (i := 1336) (by decide +kernel), List.mem_of_getElem? (i := 1337) (by decide +kernel)⟩
theorem lw_p65 : lw_okq (⟨"CardTablesModel", "settle", "(II)I"⟩, 36) := ⟨⟨by decide +kernel, by decide +kernel⟩, List.mem_of_getElem? (i := 1010) (by decide +kernel), List.mem_of_getElem? (i := 1340) (by decide +kernel), List.mem_of_getElem? (i := 1341) (by decide +kernel)⟩
theorem lw_p66 : lw_okq (⟨"CardTablesModel", "endBars", "(II)I"⟩, 36) := ⟨⟨by decide +kernel, by decide +kernel⟩, List.mem_of_getElem? (i := 1010) (by decide +kernel), List.mem_of_getElem? (i := 1392) (by decide +kernel), List.mem_of_getElem? (i := 1393) (by decide +kernel)⟩
theorem lw_p67 : lw_okq (⟨"CardTablesModel", "isEnd", "(I)Z"⟩, 36) := ⟨⟨by decide +kernel, by decide +kernel⟩, List.mem_of_getElem? (i := 1010) (by decide +kernel), List.mem_of_getElem? (i := 1396) (by decide +kernel), List.mem_of_getElem? (i := 1397) (by decide +kernel)⟩
theorem lw_p68 : lw_okq (⟨"CardTablesModel", "sureAt", "(III)I"⟩, 36) := ⟨⟨by decide +kernel, by decide +kernel⟩, List.mem_of_getElem? (i := 1010) (by decide +kernel), List.mem_of_getElem? (i := 1400) (by decide +kernel), List.mem_of_getElem? (i := 1401) (by decide +kernel)⟩
theorem lw_p69 : lw_okq (⟨"CardTablesModel", "solve", "(III)V"⟩, 36) := ⟨⟨by decide +kernel, by decide +kernel⟩, List.mem_of_getElem? (i := 1010) (by decide +kernel), List.mem_of_getElem? (i := 1404) (by decide +kernel), List.mem_of_getElem? (i := 1405) (by decide +kernel)⟩
theorem lw_p70 : lw_okq (⟨"CardTablesModel", "isBetween", "(I)Z"⟩, 36) := ⟨⟨by decide +kernel, by decide +kernel⟩, List.mem_of_getElem? (i := 1010) (by decide +kernel), List.mem_of_getElem? (i := 1411) (by decide +kernel), List.mem_of_getElem? (i := 1412) (by decide +kernel)⟩
theorem lw_p71 : lw_okq (⟨"CardTablesModel", "seatAll", "(II)V"⟩, 36) := ⟨⟨by decide +kernel, by decide +kernel⟩, List.mem_of_getElem? (i := 1010) (by decide +kernel), List.mem_of_getElem? (i := 1421) (by decide +kernel), List.mem_of_getElem? (i := 1422) (by decide +kernel)⟩
theorem lw_p72 : lw_okq (⟨"CardTablesModel", "goThrough", "(II)V"⟩, 36) := ⟨⟨by decide +kernel, by decide +kernel⟩, List.mem_of_getElem? (i := 1010) (by decide +kernel), List.mem_of_getElem? (i := 1425) (by decide +kernel), List.mem_of_getElem? (i := 1426) (by decide +kernel)⟩
theorem lw_p73 : lw_okq (⟨"CardTablesModel", "nextPlace", "(II)I"⟩, 36) := ⟨⟨by decide +kernel, by decide +kernel⟩, List.mem_of_getElem? (i := 1010) (by decide +kernel), List.mem_of_getElem? (i := 1429) (by decide +kernel), List.mem_of_getElem? (i := 1430) (by decide +kernel)⟩
theorem lw_p74 : lw_okq (⟨"CardTablesModel", "handLeft", "(I)V"⟩, 36) := ⟨⟨by decide +kernel, by decide +kernel⟩, List.mem_of_getElem? (i := 1010) (by decide +kernel), List.mem_of_getElem? (i := 1433) (by decide +kernel), List.mem_of_getElem? (i := 1434) (by decide +kernel)⟩
theorem lw_p75 : lw_okq (⟨"CardTablesModel", "leaderFrom", "(II)I"⟩, 36) := ⟨⟨by decide +kernel, by decide +kernel⟩, List.mem_of_getElem? (i := 1010) (by decide +kernel), List.mem_of_getElem? (i := 1437) (by decide +kernel), List.mem_of_getElem? (i := 1438) (by decide +kernel)⟩
theorem lw_p76 : lw_okq (⟨"CardTablesModel", "takeUp", "(I)V"⟩, 36) := ⟨⟨by decide +kernel, by decide +kernel⟩, List.mem_of_getElem? (i := 1010) (by decide +kernel), List.mem_of_getElem? (i := 1441) (by decide +kernel), List.mem_of_getElem? (i := 1442) (by decide +kernel)⟩
theorem lw_p77 : lw_okq (⟨"CardTablesModel", "rate", "(III)V"⟩, 36) := ⟨⟨by decide +kernel, by decide +kernel⟩, List.mem_of_getElem? (i := 1010) (by decide +kernel), List.mem_of_getElem? (i := 1445) (by decide +kernel), List.mem_of_getElem? (i := 1446) (by decide +kernel)⟩
theorem lw_p78 : lw_okq (⟨"CardTablesModel", "doClaim", "(IIII)V"⟩, 36) := ⟨⟨by decide +kernel, by decide +kernel⟩, List.mem_of_getElem? (i := 1010) (by decide +kernel), List.mem_of_getElem? (i := 1461) (by decide +kernel), List.mem_of_getElem? (i := 1462) (by decide +kernel)⟩
theorem lw_p79 : lw_okq (⟨"CardTablesModel", "again", "(IIII)V"⟩, 36) := ⟨⟨by decide +kernel, by decide +kernel⟩, List.mem_of_getElem? (i := 1010) (by decide +kernel), List.mem_of_getElem? (i := 1473) (by decide +kernel), List.mem_of_getElem? (i := 1474) (by decide +kernel)⟩
def lw_privs_5 : List (MethodName × Nat) := [(⟨"CardTablesModel", "endDeal", "(II)V"⟩, 36), (⟨"CardTablesModel", "settle", "(II)I"⟩, 36), (⟨"CardTablesModel", "endBars", "(II)I"⟩, 36), (⟨"CardTablesModel", "isEnd", "(I)Z"⟩, 36), (⟨"CardTablesModel", "sureAt", "(III)I"⟩, 36), (⟨"CardTablesModel", "solve", "(III)V"⟩, 36), (⟨"CardTablesModel", "isBetween", "(I)Z"⟩, 36), (⟨"CardTablesModel", "seatAll", "(II)V"⟩, 36), (⟨"CardTablesModel", "goThrough", "(II)V"⟩, 36), (⟨"CardTablesModel", "nextPlace", "(II)I"⟩, 36), (⟨"CardTablesModel", "handLeft", "(I)V"⟩, 36), (⟨"CardTablesModel", "leaderFrom", "(II)I"⟩, 36), (⟨"CardTablesModel", "takeUp", "(I)V"⟩, 36), (⟨"CardTablesModel", "rate", "(III)V"⟩, 36), (⟨"CardTablesModel", "doClaim", "(IIII)V"⟩, 36), (⟨"CardTablesModel", "again", "(IIII)V"⟩, 36)]
theorem lw_r5 : ∀ q ∈ lw_privs_5, lw_okq q := List.forall_mem_cons.mpr ⟨lw_p64, List.forall_mem_cons.mpr ⟨lw_p65, List.forall_mem_cons.mpr ⟨lw_p66, List.forall_mem_cons.mpr ⟨lw_p67, List.forall_mem_cons.mpr ⟨lw_p68, List.forall_mem_cons.mpr ⟨lw_p69, List.forall_mem_cons.mpr ⟨lw_p70, List.forall_mem_cons.mpr ⟨lw_p71, List.forall_mem_cons.mpr ⟨lw_p72, List.forall_mem_cons.mpr ⟨lw_p73, List.forall_mem_cons.mpr ⟨lw_p74, List.forall_mem_cons.mpr ⟨lw_p75, List.forall_mem_cons.mpr ⟨lw_p76, List.forall_mem_cons.mpr ⟨lw_p77, List.forall_mem_cons.mpr ⟨lw_p78, List.forall_mem_cons.mpr ⟨lw_p79, fun _ h => absurd h List.not_mem_nil⟩⟩⟩⟩⟩⟩⟩⟩⟩⟩⟩⟩⟩⟩⟩⟩
def lw_privs : List (MethodName × Nat) := lw_privs_1 ++ (lw_privs_2 ++ (lw_privs_3 ++ (lw_privs_4 ++ (lw_privs_5))))
def lw_tbl : List Cond := k2_sels lw_privs ++ tables_1
theorem lw_privs_ok : ∀ q ∈ lw_privs, lw_okq q := by
  show ∀ q ∈ lw_privs_1 ++ (lw_privs_2 ++ (lw_privs_3 ++ (lw_privs_4 ++ (lw_privs_5)))), lw_okq q
  exact List.forall_mem_append.mpr ⟨lw_r1, List.forall_mem_append.mpr ⟨lw_r2, List.forall_mem_append.mpr ⟨lw_r3, List.forall_mem_append.mpr ⟨lw_r4, lw_r5⟩⟩⟩⟩
end
section
theorem goodIn_r {big : List Cond} (ws : List Cond) (ps : List Nat) (hp : ws = ps.filterMap (fun i => big[i]?)) (h : ws.all goodWord = true) : GoodIn big ws := by
  intro w hw
  have h1 := List.all_eq_true.mp h w hw
  rw [hp] at hw
  obtain ⟨i, -, hi⟩ := List.mem_filterMap.mp hw
  have hm : w ∈ big := by first | exact List.mem_of_getElem? hi | exact List.getElem?_mem hi
  exact ⟨hm, good_of_word h1⟩
def RX0 : String := "CardTables$Auction"
def TX0 : u_T := fun k => match k with
  | _ => ("CardTables$Game", "type", "I", true)
def RX1 : String := "CardTables$Deal"
def TX1 : u_T := fun k => match k with
  | 0 => ("CardTables$Deal", "state", "I", false)
  | 1 => ("CardTables$Deal", "number", "I", false)
  | 2 => ("CardTables$Deal", "turn", "I", false)
  | 3 => ("CardTables$Deal", "winner", "I", false)
  | 4 => ("CardTables$Deal", "bidTricks", "I", false)
  | 5 => ("CardTables$Deal", "bidSuit", "I", false)
  | 6 => ("CardTables$Deal", "bidSeat", "I", false)
  | 7 => ("CardTables$Deal", "doublings", "I", false)
  | 8 => ("CardTables$Deal", "played", "I", false)
  | 9 => ("CardTables$Deal", "seed", "I", false)
  | 10 => ("CardTables$Deal", "size", "I", false)
  | 11 => ("CardTables$Deal", "tricks", "[I", true)
  | 12 => ("CardTables$Deal", "points", "[I", true)
  | 13 => ("CardTables$Deal", "owners", "[I", true)
  | 14 => ("CardTables$Deal", "scores", "[I", true)
  | 15 => ("CardTables$Deal", "trickOf", "[I", true)
  | 16 => ("CardTables$Deal", "denied", "[I", true)
  | _ => ("CardTables$Deal", "calls", "LCardTables$Row;", true)
def tyX1 : Nat → FieldType := fun k => match k with
  | 0 => .int
  | 1 => .int
  | 2 => .int
  | 3 => .int
  | 4 => .int
  | 5 => .int
  | 6 => .int
  | 7 => .int
  | 8 => .int
  | 9 => .int
  | 10 => .int
  | 11 => .array .int
  | 12 => .array .int
  | 13 => .array .int
  | 14 => .array .int
  | 15 => .array .int
  | 16 => .array .int
  | _ => .object "CardTables$Row"
abbrev wsX10 : List Cond := u_ws RX1 TX1 18
theorem nmX1 : ∀ a, a < 18 → ∀ b, b < 18 → a ≠ b → (TX1 a).2.1 ≠ (TX1 b).2.1 := by decide +kernel
theorem tyX1_ok : ∀ k, k < 18 → parseFieldDescriptor (TX1 k).2.2.1 = some (tyX1 k) := by decide +kernel
abbrev cX1_init : ByteArray := prog_3_method_1_code
def yX1_init : MethodName := ⟨RX1, "<init>", "()V"⟩
def RX2 : String := "CardTables$Ends"
def TX2 : u_T := fun k => match k with
  | 0 => ("CardTables$Ends", "quiet", "LCardTables$Notes;", true)
  | 1 => ("CardTables$Ends", "bounds", "[I", true)
  | 2 => ("CardTables$Ends", "sures", "[I", true)
  | 3 => ("CardTables$Ends", "bits", "[I", true)
  | 4 => ("CardTables$Ends", "hands", "[LCardTables$Row;", true)
  | 5 => ("CardTables$Ends", "tricks", "[LCardTables$Row;", true)
  | 6 => ("CardTables$Ends", "layers", "[LCardTables$Row;", true)
  | 7 => ("CardTables$Ends", "table", "LCardTables$Table;", false)
  | 8 => ("CardTables$Ends", "game", "LCardTables$Follow;", false)
  | 9 => ("CardTables$Ends", "side", "I", false)
  | 10 => ("CardTables$Ends", "toCome", "I", false)
  | 11 => ("CardTables$Ends", "at", "I", false)
  | 12 => ("CardTables$Ends", "won", "I", false)
  | _ => ("CardTables$Ends", "stamp", "I", false)
def tyX2 : Nat → FieldType := fun k => match k with
  | 0 => .object "CardTables$Notes"
  | 1 => .array .int
  | 2 => .array .int
  | 3 => .array .int
  | 4 => .array (.object "CardTables$Row")
  | 5 => .array (.object "CardTables$Row")
  | 6 => .array (.object "CardTables$Row")
  | 7 => .object "CardTables$Table"
  | 8 => .object "CardTables$Follow"
  | 9 => .int
  | 10 => .int
  | 11 => .int
  | 12 => .int
  | _ => .int
abbrev wsX20 : List Cond := u_ws RX2 TX2 14
theorem nmX2 : ∀ a, a < 14 → ∀ b, b < 14 → a ≠ b → (TX2 a).2.1 ≠ (TX2 b).2.1 := by decide +kernel
theorem tyX2_ok : ∀ k, k < 14 → parseFieldDescriptor (TX2 k).2.2.1 = some (tyX2 k) := by decide +kernel
abbrev cX2_init : ByteArray := prog_4_method_1_code
def yX2_init : MethodName := ⟨RX2, "<init>", "()V"⟩
def RX3 : String := "CardTables$Follow"
def TX3 : u_T := fun k => match k with
  | _ => ("CardTables$Game", "type", "I", true)
def RX5 : String := "CardTables$Must"
def TX5 : u_T := fun k => match k with
  | _ => ("CardTables$Game", "type", "I", true)
def RX6 : String := "CardTables$Notes"
def TX6 : u_T := fun k => match k with
  | 0 => ("CardTables$Notes", "silent", "Z", true)
  | 1 => ("CardTables$Notes", "bodies", "[I", true)
  | 2 => ("CardTables$Notes", "findings", "[I", true)
  | 3 => ("CardTables$Notes", "bodyCount", "I", false)
  | 4 => ("CardTables$Notes", "findingCount", "I", false)
  | 5 => ("CardTables$Notes", "tries", "I", false)
  | _ => ("CardTables$Notes", "number", "I", false)
def tyX6 : Nat → FieldType := fun k => match k with
  | 0 => .boolean
  | 1 => .array .int
  | 2 => .array .int
  | 3 => .int
  | 4 => .int
  | 5 => .int
  | _ => .int
abbrev wsX60 : List Cond := u_ws RX6 TX6 7
theorem nmX6 : ∀ a, a < 7 → ∀ b, b < 7 → a ≠ b → (TX6 a).2.1 ≠ (TX6 b).2.1 := by decide +kernel
theorem tyX6_ok : ∀ k, k < 7 → parseFieldDescriptor (TX6 k).2.2.1 = some (tyX6 k) := by decide +kernel
abbrev cX6_init : ByteArray := prog_8_method_1_code
def yX6_init : MethodName := ⟨RX6, "<init>", "(Z)V"⟩
def RX7 : String := "CardTables$Pair"
def TX7 : u_T := fun k => match k with
  | 0 => ("CardTables$Game", "type", "I", true)
  | 1 => ("CardTables$Pair", "first", "LCardTables$Follow;", true)
  | _ => ("CardTables$Pair", "second", "LCardTables$Follow;", true)
def RX8 : String := "CardTables$Row"
def TX8 : u_T := fun k => match k with
  | 0 => ("CardTables$Row", "items", "[I", true)
  | _ => ("CardTables$Row", "length", "I", false)
def tyX8 : Nat → FieldType := fun k => match k with
  | 0 => .array .int
  | _ => .int
abbrev wsX80 : List Cond := u_ws RX8 TX8 2
theorem nmX8 : ∀ a, a < 2 → ∀ b, b < 2 → a ≠ b → (TX8 a).2.1 ≠ (TX8 b).2.1 := by decide +kernel
theorem tyX8_ok : ∀ k, k < 2 → parseFieldDescriptor (TX8 k).2.2.1 = some (tyX8 k) := by decide +kernel
abbrev cX8_init : ByteArray := prog_10_method_1_code
def yX8_init : MethodName := ⟨RX8, "<init>", "(I)V"⟩
def RX9 : String := "CardTables$Table"
def TX9 : u_T := fun k => match k with
  | 0 => ("CardTables$Table", "id", "I", true)
  | 1 => ("CardTables$Table", "game", "LCardTables$Game;", false)
  | 2 => ("CardTables$Table", "pack", "I", false)
  | 3 => ("CardTables$Table", "matchSize", "I", false)
  | 4 => ("CardTables$Table", "matchHad", "I", false)
  | 5 => ("CardTables$Table", "colours", "[I", true)
  | 6 => ("CardTables$Table", "places", "[I", true)
  | 7 => ("CardTables$Table", "taken", "[Z", true)
  | 8 => ("CardTables$Table", "sums", "[I", true)
  | 9 => ("CardTables$Table", "rest", "LCardTables$Row;", true)
  | 10 => ("CardTables$Table", "trick", "LCardTables$Row;", true)
  | 11 => ("CardTables$Table", "layers", "LCardTables$Row;", true)
  | 12 => ("CardTables$Table", "hands", "[LCardTables$Row;", true)
  | _ => ("CardTables$Table", "deal", "LCardTables$Deal;", true)
def tyX9 : Nat → FieldType := fun k => match k with
  | 0 => .int
  | 1 => .object "CardTables$Game"
  | 2 => .int
  | 3 => .int
  | 4 => .int
  | 5 => .array .int
  | 6 => .array .int
  | 7 => .array .boolean
  | 8 => .array .int
  | 9 => .object "CardTables$Row"
  | 10 => .object "CardTables$Row"
  | 11 => .object "CardTables$Row"
  | 12 => .array (.object "CardTables$Row")
  | _ => .object "CardTables$Deal"
abbrev wsX90 : List Cond := u_ws RX9 TX9 14
theorem nmX9 : ∀ a, a < 14 → ∀ b, b < 14 → a ≠ b → (TX9 a).2.1 ≠ (TX9 b).2.1 := by decide +kernel
theorem tyX9_ok : ∀ k, k < 14 → parseFieldDescriptor (TX9 k).2.2.1 = some (tyX9 k) := by decide +kernel
abbrev cX9_init : ByteArray := prog_11_method_1_code
def yX9_init : MethodName := ⟨RX9, "<init>", "(I)V"⟩
def RX10 : String := "CardTables$VoidGame"
def TX10 : u_T := fun k => match k with
  | _ => ("CardTables$Game", "type", "I", true)
def RX11 : String := "CardTables"
def TX11 : u_T := fun k => match k with
  | 0 => ("CardTables", "games", "[LCardTables$Game;", true)
  | 1 => ("CardTables", "tables", "[LCardTables$Table;", true)
  | 2 => ("CardTables", "kept", "[LCardTables$Table;", true)
  | 3 => ("CardTables", "keptNext", "[I", true)
  | 4 => ("CardTables", "keptCount", "[I", true)
  | 5 => ("CardTables", "aside", "LCardTables$Table;", true)
  | 6 => ("CardTables", "notes", "LCardTables$Notes;", true)
  | 7 => ("CardTables", "quiet", "LCardTables$Notes;", true)
  | _ => ("CardTables", "ends", "LCardTables$Ends;", true)
def RX12 : String := "CardTablesModel"
def TX12 : u_T := fun k => match k with
  | 0 => ("CardTablesModel", "cells", "[I", true)
  | 1 => ("CardTablesModel", "isThere", "[Z", true)
  | 2 => ("CardTablesModel", "kept", "[I", true)
  | 3 => ("CardTablesModel", "gameKind", "[I", true)
  | 4 => ("CardTablesModel", "gameFirst", "[I", true)
  | 5 => ("CardTablesModel", "gameSecond", "[I", true)
  | 6 => ("CardTablesModel", "numbers", "I", false)
  | 7 => ("CardTablesModel", "tries", "I", false)
  | 8 => ("CardTablesModel", "findings", "[I", true)
  | 9 => ("CardTablesModel", "found", "I", false)
  | 10 => ("CardTablesModel", "bodies", "[I", true)
  | 11 => ("CardTablesModel", "traced", "I", false)
  | 12 => ("CardTablesModel", "isQuiet", "Z", false)
  | 13 => ("CardTablesModel", "held", "[I", true)
  | 14 => ("CardTablesModel", "holds", "I", false)
  | 15 => ("CardTablesModel", "lies", "[I", true)
  | 16 => ("CardTablesModel", "lying", "I", false)
  | 17 => ("CardTablesModel", "rule", "I", false)
  | 18 => ("CardTablesModel", "slots", "[I", true)
  | 19 => ("CardTablesModel", "many", "[I", true)
  | 20 => ("CardTablesModel", "all", "I", false)
  | 21 => ("CardTablesModel", "sure", "[B", true)
  | 22 => ("CardTablesModel", "ruled", "[B", true)
  | 23 => ("CardTablesModel", "solvedTable", "I", false)
  | 24 => ("CardTablesModel", "solvedSide", "I", false)
  | 25 => ("CardTablesModel", "endSide", "I", false)
  | 26 => ("CardTablesModel", "seats", "[I", true)
  | 27 => ("CardTablesModel", "seated", "I", false)
  | 28 => ("CardTablesModel", "left", "I", false)
  | 29 => ("CardTablesModel", "tried", "[I", true)
  | 30 => ("CardTablesModel", "picked", "[I", true)
  | 31 => ("CardTablesModel", "has", "[Z", true)
  | 32 => ("CardTablesModel", "best", "[I", true)
  | 33 => ("CardTablesModel", "kept2", "[I", true)
  | 34 => ("CardTablesModel", "firstPick", "I", false)
  | _ => ("CardTablesModel", "from", "I", false)
def wsX8_init : List Cond := .code yX8_init cX8_init 2 none :: ([.methodLink RX8 3 objectInit, .instanceMethod objectInit, .code objectInit ⟨#[0xb1]⟩ 1 none, .methodLink RX8 9 Lib.Math.max.name, .static Lib.Math.max.name, .initialized "java/lang/Math", .code Lib.Math.max.name Lib.Math.max.code 2 (some .int), .arrayClass .int, .fieldLink RX8 15 "CardTables$Row" "items" "[I"] ++ wsX80)
def wsX1_init : List Cond := .code yX1_init cX1_init 1 none :: ([.methodLink RX1 3 objectInit, .instanceMethod objectInit, .code objectInit ⟨#[0xb1]⟩ 1 none, .arrayClass .int, .fieldLink RX1 9 "CardTables$Deal" "tricks" "[I", .fieldLink RX1 15 "CardTables$Deal" "points" "[I", .fieldLink RX1 18 "CardTables$Deal" "owners" "[I", .fieldLink RX1 21 "CardTables$Deal" "scores" "[I", .fieldLink RX1 24 "CardTables$Deal" "trickOf" "[I", .fieldLink RX1 27 "CardTables$Deal" "denied" "[I", .classLink RX1 30 RX8, .instantiable RX8 2, .initialized RX8, .fieldLink RX1 35 "CardTables$Deal" "calls" "LCardTables$Row;", .methodLink RX1 32 yX8_init, .instanceMethod yX8_init, .code yX8_init cX8_init 2 none, .methodLink RX8 3 objectInit, .methodLink RX8 9 Lib.Math.max.name, .static Lib.Math.max.name, .initialized "java/lang/Math", .code Lib.Math.max.name Lib.Math.max.code 2 (some .int), .fieldLink RX8 15 "CardTables$Row" "items" "[I"] ++ wsX10 ++ wsX80)
def wsX6_init : List Cond := .code yX6_init cX6_init 2 none :: ([.methodLink RX6 3 objectInit, .instanceMethod objectInit, .code objectInit ⟨#[0xb1]⟩ 1 none, .arrayClass .int, .fieldLink RX6 9 "CardTables$Notes" "bodies" "[I", .fieldLink RX6 15 "CardTables$Notes" "findings" "[I", .fieldLink RX6 18 "CardTables$Notes" "silent" "Z"] ++ wsX60)
def wsX2_init_r1 : List Cond := [Cond.methodLink RX2 3 objectInit, Cond.instanceMethod objectInit, Cond.code objectInit ⟨#[0xb1]⟩ 1 none, Cond.classLink RX2 9 RX6, Cond.instantiable RX6 7, Cond.initialized RX6, Cond.fieldLink RX2 14 "CardTables$Ends" "quiet" "LCardTables$Notes;", Cond.arrayClass .int, Cond.fieldLink RX2 20 "CardTables$Ends" "bounds" "[I", Cond.fieldLink RX2 24 "CardTables$Ends" "sures" "[I", Cond.fieldLink RX2 27 "CardTables$Ends" "bits" "[I", Cond.classLink RX2 30 RX8, Cond.fieldLink RX2 32 "CardTables$Ends" "hands" "[LCardTables$Row;", Cond.fieldLink RX2 36 "CardTables$Ends" "tricks" "[LCardTables$Row;", Cond.fieldLink RX2 39 "CardTables$Ends" "layers" "[LCardTables$Row;", Cond.instantiable RX8 2, Cond.initialized RX8, Cond.methodLink RX2 11 yX6_init, Cond.instanceMethod yX6_init, Cond.code yX6_init cX6_init 2 none, Cond.methodLink RX6 3 objectInit, Cond.fieldLink RX6 9 "CardTables$Notes" "bodies" "[I", Cond.fieldLink RX6 15 "CardTables$Notes" "findings" "[I", Cond.fieldLink RX6 18 "CardTables$Notes" "silent" "Z"]
def wsX2_init_r2 : List Cond := [Cond.methodLink RX2 42 yX8_init, Cond.instanceMethod yX8_init, Cond.code yX8_init cX8_init 2 none, Cond.methodLink RX8 3 objectInit, Cond.methodLink RX8 9 Lib.Math.max.name, Cond.static Lib.Math.max.name, Cond.initialized "java/lang/Math", Cond.code Lib.Math.max.name Lib.Math.max.code 2 (some .int), Cond.fieldLink RX8 15 "CardTables$Row" "items" "[I"]
def wsX2_init : List Cond := .code yX2_init cX2_init 2 none :: ((wsX2_init_r1 ++ wsX2_init_r2) ++ wsX60 ++ wsX20 ++ wsX80)
def wsX9_init_r1 : List Cond := [Cond.methodLink RX9 3 objectInit, Cond.instanceMethod objectInit, Cond.code objectInit ⟨#[0xb1]⟩ 1 none, Cond.arrayClass .int, Cond.fieldLink RX9 9 "CardTables$Table" "colours" "[I", Cond.fieldLink RX9 15 "CardTables$Table" "places" "[I", Cond.arrayClass .boolean, Cond.fieldLink RX9 18 "CardTables$Table" "taken" "[Z", Cond.fieldLink RX9 22 "CardTables$Table" "sums" "[I", Cond.classLink RX9 25 RX8, Cond.instantiable RX8 2, Cond.initialized RX8, Cond.fieldLink RX9 30 "CardTables$Table" "rest" "LCardTables$Row;", Cond.fieldLink RX9 34 "CardTables$Table" "trick" "LCardTables$Row;", Cond.fieldLink RX9 37 "CardTables$Table" "layers" "LCardTables$Row;", Cond.fieldLink RX9 40 "CardTables$Table" "hands" "[LCardTables$Row;", Cond.classLink RX9 44 RX1, Cond.instantiable RX1 18, Cond.initialized RX1, Cond.fieldLink RX9 47 "CardTables$Table" "deal" "LCardTables$Deal;", Cond.fieldLink RX9 51 "CardTables$Table" "id" "I", Cond.methodLink RX9 27 yX8_init, Cond.instanceMethod yX8_init, Cond.code yX8_init cX8_init 2 none]
def wsX9_init_r2 : List Cond := [Cond.methodLink RX8 3 objectInit, Cond.methodLink RX8 9 Lib.Math.max.name, Cond.static Lib.Math.max.name, Cond.initialized "java/lang/Math", Cond.code Lib.Math.max.name Lib.Math.max.code 2 (some .int), Cond.fieldLink RX8 15 "CardTables$Row" "items" "[I", Cond.instanceMethod yX1_init, Cond.code yX1_init cX1_init 1 none, Cond.methodLink RX1 3 objectInit, Cond.fieldLink RX1 9 "CardTables$Deal" "tricks" "[I", Cond.fieldLink RX1 15 "CardTables$Deal" "points" "[I", Cond.fieldLink RX1 18 "CardTables$Deal" "owners" "[I", Cond.fieldLink RX1 21 "CardTables$Deal" "scores" "[I", Cond.fieldLink RX1 24 "CardTables$Deal" "trickOf" "[I", Cond.fieldLink RX1 27 "CardTables$Deal" "denied" "[I", Cond.classLink RX1 30 RX8, Cond.fieldLink RX1 35 "CardTables$Deal" "calls" "LCardTables$Row;", Cond.methodLink RX1 32 yX8_init]
def wsX9_init : List Cond := .code yX9_init cX9_init 3 none :: ((wsX9_init_r1 ++ wsX9_init_r2) ++ wsX90 ++ wsX80 ++ wsX10)
set_option maxRecDepth 20000 in
theorem ggX1_init_X8_init : GoodIn wsX1_init wsX8_init := goodIn_r _ [17, 18, 2, 3, 19, 20, 21, 22, 4, 23, 42, 43] (by decide +kernel) (by decide +kernel)
set_option maxRecDepth 20000 in
theorem gX1_init_X8_init : GoodIn wsX1_init (wsX8_init) := ggX1_init_X8_init
theorem dX1_init_0 : decode cX1_init 0 = .ok (.aload_n 0, 1) := by decide +kernel
theorem dX1_init_1 : decode cX1_init 1 = .ok (.invokespecial 3, 3) := by decide +kernel
theorem dX1_init_4 : decode cX1_init 4 = .ok (.aload_n 0, 1) := by decide +kernel
theorem dX1_init_5 : decode cX1_init 5 = .ok (.iconst 2, 1) := by decide +kernel
theorem dX1_init_6 : decode cX1_init 6 = .ok (.newarray .int, 2) := by decide +kernel
theorem dX1_init_8 : decode cX1_init 8 = .ok (.putfield 9, 3) := by decide +kernel
theorem dX1_init_11 : decode cX1_init 11 = .ok (.aload_n 0, 1) := by decide +kernel
theorem dX1_init_12 : decode cX1_init 12 = .ok (.iconst 2, 1) := by decide +kernel
theorem dX1_init_13 : decode cX1_init 13 = .ok (.newarray .int, 2) := by decide +kernel
theorem dX1_init_15 : decode cX1_init 15 = .ok (.putfield 15, 3) := by decide +kernel
theorem dX1_init_18 : decode cX1_init 18 = .ok (.aload_n 0, 1) := by decide +kernel
theorem dX1_init_19 : decode cX1_init 19 = .ok (.bipush 15, 2) := by decide +kernel
theorem dX1_init_21 : decode cX1_init 21 = .ok (.newarray .int, 2) := by decide +kernel
theorem dX1_init_23 : decode cX1_init 23 = .ok (.putfield 18, 3) := by decide +kernel
theorem dX1_init_26 : decode cX1_init 26 = .ok (.aload_n 0, 1) := by decide +kernel
theorem dX1_init_27 : decode cX1_init 27 = .ok (.bipush 15, 2) := by decide +kernel
theorem dX1_init_29 : decode cX1_init 29 = .ok (.newarray .int, 2) := by decide +kernel
theorem dX1_init_31 : decode cX1_init 31 = .ok (.putfield 21, 3) := by decide +kernel
theorem dX1_init_34 : decode cX1_init 34 = .ok (.aload_n 0, 1) := by decide +kernel
theorem dX1_init_35 : decode cX1_init 35 = .ok (.bipush 60, 2) := by decide +kernel
theorem dX1_init_37 : decode cX1_init 37 = .ok (.newarray .int, 2) := by decide +kernel
theorem dX1_init_39 : decode cX1_init 39 = .ok (.putfield 24, 3) := by decide +kernel
theorem dX1_init_42 : decode cX1_init 42 = .ok (.aload_n 0, 1) := by decide +kernel
theorem dX1_init_43 : decode cX1_init 43 = .ok (.bipush 60, 2) := by decide +kernel
theorem dX1_init_45 : decode cX1_init 45 = .ok (.newarray .int, 2) := by decide +kernel
theorem dX1_init_47 : decode cX1_init 47 = .ok (.putfield 27, 3) := by decide +kernel
theorem dX1_init_50 : decode cX1_init 50 = .ok (.aload_n 0, 1) := by decide +kernel
theorem dX1_init_51 : decode cX1_init 51 = .ok (.new 30, 3) := by decide +kernel
theorem dX1_init_54 : decode cX1_init 54 = .ok (.dup, 1) := by decide +kernel
theorem dX1_init_55 : decode cX1_init 55 = .ok (.bipush 101, 2) := by decide +kernel
theorem dX1_init_57 : decode cX1_init 57 = .ok (.invokespecial 32, 3) := by decide +kernel
theorem dX1_init_60 : decode cX1_init 60 = .ok (.putfield 35, 3) := by decide +kernel
theorem dX1_init_63 : decode cX1_init 63 = .ok (.return_, 1) := by decide +kernel
set_option maxRecDepth 20000 in
theorem ggX2_init_X6_init : GoodIn wsX2_init wsX6_init := goodIn_r _ [20, 21, 2, 3, 8, 22, 23, 24, 34, 35, 36, 37, 38, 39, 40] (by decide +kernel) (by decide +kernel)
set_option maxRecDepth 20000 in
theorem gX2_init_X6_init : GoodIn wsX2_init (wsX6_init) := ggX2_init_X6_init
set_option maxRecDepth 20000 in
theorem ggX2_init_X8_init : GoodIn wsX2_init wsX8_init := goodIn_r _ [27, 28, 2, 3, 29, 30, 31, 32, 8, 33, 55, 56] (by decide +kernel) (by decide +kernel)
set_option maxRecDepth 20000 in
theorem gX2_init_X8_init : GoodIn wsX2_init (wsX8_init) := ggX2_init_X8_init
theorem dX2_init_0 : decode cX2_init 0 = .ok (.aload_n 0, 1) := by decide +kernel
theorem dX2_init_1 : decode cX2_init 1 = .ok (.invokespecial 3, 3) := by decide +kernel
theorem dX2_init_4 : decode cX2_init 4 = .ok (.aload_n 0, 1) := by decide +kernel
theorem dX2_init_5 : decode cX2_init 5 = .ok (.new 9, 3) := by decide +kernel
theorem dX2_init_8 : decode cX2_init 8 = .ok (.dup, 1) := by decide +kernel
theorem dX2_init_9 : decode cX2_init 9 = .ok (.iconst 1, 1) := by decide +kernel
theorem dX2_init_10 : decode cX2_init 10 = .ok (.invokespecial 11, 3) := by decide +kernel
theorem dX2_init_13 : decode cX2_init 13 = .ok (.putfield 14, 3) := by decide +kernel
theorem dX2_init_16 : decode cX2_init 16 = .ok (.aload_n 0, 1) := by decide +kernel
theorem dX2_init_17 : decode cX2_init 17 = .ok (.sipush 20736, 3) := by decide +kernel
theorem dX2_init_20 : decode cX2_init 20 = .ok (.newarray .int, 2) := by decide +kernel
theorem dX2_init_22 : decode cX2_init 22 = .ok (.putfield 20, 3) := by decide +kernel
theorem dX2_init_25 : decode cX2_init 25 = .ok (.aload_n 0, 1) := by decide +kernel
theorem dX2_init_26 : decode cX2_init 26 = .ok (.sipush 20736, 3) := by decide +kernel
theorem dX2_init_29 : decode cX2_init 29 = .ok (.newarray .int, 2) := by decide +kernel
theorem dX2_init_31 : decode cX2_init 31 = .ok (.putfield 24, 3) := by decide +kernel
theorem dX2_init_34 : decode cX2_init 34 = .ok (.aload_n 0, 1) := by decide +kernel
theorem dX2_init_35 : decode cX2_init 35 = .ok (.bipush 60, 2) := by decide +kernel
theorem dX2_init_37 : decode cX2_init 37 = .ok (.newarray .int, 2) := by decide +kernel
theorem dX2_init_39 : decode cX2_init 39 = .ok (.putfield 27, 3) := by decide +kernel
theorem dX2_init_42 : decode cX2_init 42 = .ok (.aload_n 0, 1) := by decide +kernel
theorem dX2_init_43 : decode cX2_init 43 = .ok (.iconst 4, 1) := by decide +kernel
theorem dX2_init_44 : decode cX2_init 44 = .ok (.anewarray 30, 3) := by decide +kernel
theorem dX2_init_47 : decode cX2_init 47 = .ok (.putfield 32, 3) := by decide +kernel
theorem dX2_init_50 : decode cX2_init 50 = .ok (.aload_n 0, 1) := by decide +kernel
theorem dX2_init_51 : decode cX2_init 51 = .ok (.iconst 5, 1) := by decide +kernel
theorem dX2_init_52 : decode cX2_init 52 = .ok (.anewarray 30, 3) := by decide +kernel
theorem dX2_init_55 : decode cX2_init 55 = .ok (.putfield 36, 3) := by decide +kernel
theorem dX2_init_58 : decode cX2_init 58 = .ok (.aload_n 0, 1) := by decide +kernel
theorem dX2_init_59 : decode cX2_init 59 = .ok (.iconst 5, 1) := by decide +kernel
theorem dX2_init_60 : decode cX2_init 60 = .ok (.anewarray 30, 3) := by decide +kernel
theorem dX2_init_63 : decode cX2_init 63 = .ok (.putfield 39, 3) := by decide +kernel
theorem dX2_init_66 : decode cX2_init 66 = .ok (.iconst 0, 1) := by decide +kernel
theorem dX2_init_67 : decode cX2_init 67 = .ok (.istore_n 1, 1) := by decide +kernel
theorem dX2_init_68 : decode cX2_init 68 = .ok (.iload_n 1, 1) := by decide +kernel
theorem dX2_init_69 : decode cX2_init 69 = .ok (.iconst 4, 1) := by decide +kernel
theorem dX2_init_70 : decode cX2_init 70 = .ok (.if_icmp .ge 23, 3) := by decide +kernel
theorem dX2_init_73 : decode cX2_init 73 = .ok (.aload_n 0, 1) := by decide +kernel
theorem dX2_init_74 : decode cX2_init 74 = .ok (.getfield 32, 3) := by decide +kernel
theorem dX2_init_77 : decode cX2_init 77 = .ok (.iload_n 1, 1) := by decide +kernel
theorem dX2_init_78 : decode cX2_init 78 = .ok (.new 30, 3) := by decide +kernel
theorem dX2_init_81 : decode cX2_init 81 = .ok (.dup, 1) := by decide +kernel
theorem dX2_init_82 : decode cX2_init 82 = .ok (.iconst 4, 1) := by decide +kernel
theorem dX2_init_83 : decode cX2_init 83 = .ok (.invokespecial 42, 3) := by decide +kernel
theorem dX2_init_86 : decode cX2_init 86 = .ok (.aastore, 1) := by decide +kernel
theorem dX2_init_87 : decode cX2_init 87 = .ok (.iinc 1 1, 3) := by decide +kernel
theorem dX2_init_90 : decode cX2_init 90 = .ok (.goto (-22), 3) := by decide +kernel
theorem dX2_init_93 : decode cX2_init 93 = .ok (.iconst 0, 1) := by decide +kernel
theorem dX2_init_94 : decode cX2_init 94 = .ok (.istore_n 1, 1) := by decide +kernel
theorem dX2_init_95 : decode cX2_init 95 = .ok (.iload_n 1, 1) := by decide +kernel
theorem dX2_init_96 : decode cX2_init 96 = .ok (.iconst 4, 1) := by decide +kernel
theorem dX2_init_97 : decode cX2_init 97 = .ok (.if_icmp .gt 37, 3) := by decide +kernel
theorem dX2_init_100 : decode cX2_init 100 = .ok (.aload_n 0, 1) := by decide +kernel
theorem dX2_init_101 : decode cX2_init 101 = .ok (.getfield 36, 3) := by decide +kernel
theorem dX2_init_104 : decode cX2_init 104 = .ok (.iload_n 1, 1) := by decide +kernel
theorem dX2_init_105 : decode cX2_init 105 = .ok (.new 30, 3) := by decide +kernel
theorem dX2_init_108 : decode cX2_init 108 = .ok (.dup, 1) := by decide +kernel
theorem dX2_init_109 : decode cX2_init 109 = .ok (.iconst 4, 1) := by decide +kernel
theorem dX2_init_110 : decode cX2_init 110 = .ok (.invokespecial 42, 3) := by decide +kernel
theorem dX2_init_113 : decode cX2_init 113 = .ok (.aastore, 1) := by decide +kernel
theorem dX2_init_114 : decode cX2_init 114 = .ok (.aload_n 0, 1) := by decide +kernel
theorem dX2_init_115 : decode cX2_init 115 = .ok (.getfield 39, 3) := by decide +kernel
theorem dX2_init_118 : decode cX2_init 118 = .ok (.iload_n 1, 1) := by decide +kernel
theorem dX2_init_119 : decode cX2_init 119 = .ok (.new 30, 3) := by decide +kernel
theorem dX2_init_122 : decode cX2_init 122 = .ok (.dup, 1) := by decide +kernel
theorem dX2_init_123 : decode cX2_init 123 = .ok (.iconst 4, 1) := by decide +kernel
theorem dX2_init_124 : decode cX2_init 124 = .ok (.invokespecial 42, 3) := by decide +kernel
theorem dX2_init_127 : decode cX2_init 127 = .ok (.aastore, 1) := by decide +kernel
theorem dX2_init_128 : decode cX2_init 128 = .ok (.iinc 1 1, 3) := by decide +kernel
theorem dX2_init_131 : decode cX2_init 131 = .ok (.goto (-36), 3) := by decide +kernel
theorem dX2_init_134 : decode cX2_init 134 = .ok (.return_, 1) := by decide +kernel
theorem dX6_init_0 : decode cX6_init 0 = .ok (.aload_n 0, 1) := by decide +kernel
theorem dX6_init_1 : decode cX6_init 1 = .ok (.invokespecial 3, 3) := by decide +kernel
theorem dX6_init_4 : decode cX6_init 4 = .ok (.aload_n 0, 1) := by decide +kernel
theorem dX6_init_5 : decode cX6_init 5 = .ok (.bipush 60, 2) := by decide +kernel
theorem dX6_init_7 : decode cX6_init 7 = .ok (.newarray .int, 2) := by decide +kernel
theorem dX6_init_9 : decode cX6_init 9 = .ok (.putfield 9, 3) := by decide +kernel
theorem dX6_init_12 : decode cX6_init 12 = .ok (.aload_n 0, 1) := by decide +kernel
theorem dX6_init_13 : decode cX6_init 13 = .ok (.sipush 300, 3) := by decide +kernel
theorem dX6_init_16 : decode cX6_init 16 = .ok (.newarray .int, 2) := by decide +kernel
theorem dX6_init_18 : decode cX6_init 18 = .ok (.putfield 15, 3) := by decide +kernel
theorem dX6_init_21 : decode cX6_init 21 = .ok (.aload_n 0, 1) := by decide +kernel
theorem dX6_init_22 : decode cX6_init 22 = .ok (.iload_n 1, 1) := by decide +kernel
theorem dX6_init_23 : decode cX6_init 23 = .ok (.putfield 18, 3) := by decide +kernel
theorem dX6_init_26 : decode cX6_init 26 = .ok (.return_, 1) := by decide +kernel
theorem dX8_init_0 : decode cX8_init 0 = .ok (.aload_n 0, 1) := by decide +kernel
theorem dX8_init_1 : decode cX8_init 1 = .ok (.invokespecial 3, 3) := by decide +kernel
theorem dX8_init_4 : decode cX8_init 4 = .ok (.aload_n 0, 1) := by decide +kernel
theorem dX8_init_5 : decode cX8_init 5 = .ok (.iconst 0, 1) := by decide +kernel
theorem dX8_init_6 : decode cX8_init 6 = .ok (.iload_n 1, 1) := by decide +kernel
theorem dX8_init_7 : decode cX8_init 7 = .ok (.invokestatic 9, 3) := by decide +kernel
theorem dX8_init_10 : decode cX8_init 10 = .ok (.newarray .int, 2) := by decide +kernel
theorem dX8_init_12 : decode cX8_init 12 = .ok (.putfield 15, 3) := by decide +kernel
theorem dX8_init_15 : decode cX8_init 15 = .ok (.return_, 1) := by decide +kernel
set_option maxRecDepth 20000 in
theorem ggX9_init_X8_init : GoodIn wsX9_init wsX8_init := goodIn_r _ [24, 25, 2, 3, 26, 27, 28, 29, 4, 30, 57, 58] (by decide +kernel) (by decide +kernel)
set_option maxRecDepth 20000 in
theorem gX9_init_X8_init : GoodIn wsX9_init (wsX8_init) := ggX9_init_X8_init
set_option maxRecDepth 20000 in
theorem ggX9_init_X1_init : GoodIn wsX9_init wsX1_init := goodIn_r _ [32, 33, 2, 3, 4, 34, 35, 36, 37, 38, 39, 40, 11, 12, 41, 42, 23, 24, 25, 26, 27, 28, 29, 30, 59, 60, 61, 62, 63, 64, 65, 66, 67, 68, 69, 70, 71, 72, 73, 74, 75, 76, 57, 58] (by decide +kernel) (by decide +kernel)
set_option maxRecDepth 20000 in
theorem gX9_init_X1_init_n46 : GoodIn wsX9_init (wsX1_init) := ggX9_init_X1_init
theorem dX9_init_0 : decode cX9_init 0 = .ok (.aload_n 0, 1) := by decide +kernel
theorem dX9_init_1 : decode cX9_init 1 = .ok (.invokespecial 3, 3) := by decide +kernel
theorem dX9_init_4 : decode cX9_init 4 = .ok (.aload_n 0, 1) := by decide +kernel
theorem dX9_init_5 : decode cX9_init 5 = .ok (.bipush 60, 2) := by decide +kernel
theorem dX9_init_7 : decode cX9_init 7 = .ok (.newarray .int, 2) := by decide +kernel
theorem dX9_init_9 : decode cX9_init 9 = .ok (.putfield 9, 3) := by decide +kernel
theorem dX9_init_12 : decode cX9_init 12 = .ok (.aload_n 0, 1) := by decide +kernel
theorem dX9_init_13 : decode cX9_init 13 = .ok (.bipush 60, 2) := by decide +kernel
theorem dX9_init_15 : decode cX9_init 15 = .ok (.newarray .int, 2) := by decide +kernel
theorem dX9_init_17 : decode cX9_init 17 = .ok (.putfield 15, 3) := by decide +kernel
theorem dX9_init_20 : decode cX9_init 20 = .ok (.aload_n 0, 1) := by decide +kernel
theorem dX9_init_21 : decode cX9_init 21 = .ok (.iconst 4, 1) := by decide +kernel
theorem dX9_init_22 : decode cX9_init 22 = .ok (.newarray .boolean, 2) := by decide +kernel
theorem dX9_init_24 : decode cX9_init 24 = .ok (.putfield 18, 3) := by decide +kernel
theorem dX9_init_27 : decode cX9_init 27 = .ok (.aload_n 0, 1) := by decide +kernel
theorem dX9_init_28 : decode cX9_init 28 = .ok (.iconst 4, 1) := by decide +kernel
theorem dX9_init_29 : decode cX9_init 29 = .ok (.newarray .int, 2) := by decide +kernel
theorem dX9_init_31 : decode cX9_init 31 = .ok (.putfield 22, 3) := by decide +kernel
theorem dX9_init_34 : decode cX9_init 34 = .ok (.aload_n 0, 1) := by decide +kernel
theorem dX9_init_35 : decode cX9_init 35 = .ok (.new 25, 3) := by decide +kernel
theorem dX9_init_38 : decode cX9_init 38 = .ok (.dup, 1) := by decide +kernel
theorem dX9_init_39 : decode cX9_init 39 = .ok (.bipush 60, 2) := by decide +kernel
theorem dX9_init_41 : decode cX9_init 41 = .ok (.invokespecial 27, 3) := by decide +kernel
theorem dX9_init_44 : decode cX9_init 44 = .ok (.putfield 30, 3) := by decide +kernel
theorem dX9_init_47 : decode cX9_init 47 = .ok (.aload_n 0, 1) := by decide +kernel
theorem dX9_init_48 : decode cX9_init 48 = .ok (.new 25, 3) := by decide +kernel
theorem dX9_init_51 : decode cX9_init 51 = .ok (.dup, 1) := by decide +kernel
theorem dX9_init_52 : decode cX9_init 52 = .ok (.iconst 4, 1) := by decide +kernel
theorem dX9_init_53 : decode cX9_init 53 = .ok (.invokespecial 27, 3) := by decide +kernel
theorem dX9_init_56 : decode cX9_init 56 = .ok (.putfield 34, 3) := by decide +kernel
theorem dX9_init_59 : decode cX9_init 59 = .ok (.aload_n 0, 1) := by decide +kernel
theorem dX9_init_60 : decode cX9_init 60 = .ok (.new 25, 3) := by decide +kernel
theorem dX9_init_63 : decode cX9_init 63 = .ok (.dup, 1) := by decide +kernel
theorem dX9_init_64 : decode cX9_init 64 = .ok (.iconst 4, 1) := by decide +kernel
theorem dX9_init_65 : decode cX9_init 65 = .ok (.invokespecial 27, 3) := by decide +kernel
theorem dX9_init_68 : decode cX9_init 68 = .ok (.putfield 37, 3) := by decide +kernel
theorem dX9_init_71 : decode cX9_init 71 = .ok (.aload_n 0, 1) := by decide +kernel
theorem dX9_init_72 : decode cX9_init 72 = .ok (.iconst 4, 1) := by decide +kernel
theorem dX9_init_73 : decode cX9_init 73 = .ok (.anewarray 25, 3) := by decide +kernel
theorem dX9_init_76 : decode cX9_init 76 = .ok (.putfield 40, 3) := by decide +kernel
theorem dX9_init_79 : decode cX9_init 79 = .ok (.aload_n 0, 1) := by decide +kernel
theorem dX9_init_80 : decode cX9_init 80 = .ok (.new 44, 3) := by decide +kernel
theorem dX9_init_83 : decode cX9_init 83 = .ok (.dup, 1) := by decide +kernel
theorem dX9_init_84 : decode cX9_init 84 = .ok (.invokespecial 46, 3) := by decide +kernel
theorem dX9_init_87 : decode cX9_init 87 = .ok (.putfield 47, 3) := by decide +kernel
theorem dX9_init_90 : decode cX9_init 90 = .ok (.aload_n 0, 1) := by decide +kernel
theorem dX9_init_91 : decode cX9_init 91 = .ok (.iload_n 1, 1) := by decide +kernel
theorem dX9_init_92 : decode cX9_init 92 = .ok (.putfield 51, 3) := by decide +kernel
theorem dX9_init_95 : decode cX9_init 95 = .ok (.iconst 0, 1) := by decide +kernel
theorem dX9_init_96 : decode cX9_init 96 = .ok (.istore_n 2, 1) := by decide +kernel
theorem dX9_init_97 : decode cX9_init 97 = .ok (.iload_n 2, 1) := by decide +kernel
theorem dX9_init_98 : decode cX9_init 98 = .ok (.iconst 4, 1) := by decide +kernel
theorem dX9_init_99 : decode cX9_init 99 = .ok (.if_icmp .ge 24, 3) := by decide +kernel
theorem dX9_init_102 : decode cX9_init 102 = .ok (.aload_n 0, 1) := by decide +kernel
theorem dX9_init_103 : decode cX9_init 103 = .ok (.getfield 40, 3) := by decide +kernel
theorem dX9_init_106 : decode cX9_init 106 = .ok (.iload_n 2, 1) := by decide +kernel
theorem dX9_init_107 : decode cX9_init 107 = .ok (.new 25, 3) := by decide +kernel
theorem dX9_init_110 : decode cX9_init 110 = .ok (.dup, 1) := by decide +kernel
theorem dX9_init_111 : decode cX9_init 111 = .ok (.bipush 15, 2) := by decide +kernel
theorem dX9_init_113 : decode cX9_init 113 = .ok (.invokespecial 27, 3) := by decide +kernel
theorem dX9_init_116 : decode cX9_init 116 = .ok (.aastore, 1) := by decide +kernel
theorem dX9_init_117 : decode cX9_init 117 = .ok (.iinc 2 1, 3) := by decide +kernel
theorem dX9_init_120 : decode cX9_init 120 = .ok (.goto (-23), 3) := by decide +kernel
theorem dX9_init_123 : decode cX9_init 123 = .ok (.return_, 1) := by decide +kernel
abbrev vwCl : List vw_C := [(RX0, TX0, 1), (RX1, TX1, 18), (RX2, TX2, 14), (RX3, TX3, 1), (RX5, TX5, 1), (RX6, TX6, 7), (RX7, TX7, 3), (RX8, TX8, 2), (RX9, TX9, 14), (RX10, TX10, 1), (RX11, TX11, 9), (RX12, TX12, 36)]
end
section
set_option maxHeartbeats 4000000 in
set_option maxRecDepth 100000 in
/-- Row(room): a new row of K places, none in use -/
theorem c_Row_init (l : Launch) (dC : Nat → ClassId) (dI : Nat → Nat → Nat) (h0 sz : Nat) (n : Int32) (K : Nat) (hmx : (if (0 : Int32) < n then n else 0) = n) (hn : ¬ n < 0) (hN : n.toNatClampNeg = K) (hB4 : K * 4 ≤ 536870912) : Met l yX8_init wsX8_init ({ frames := 1, cells := 1, slots := K, locals := 40 }) (va_Pc [.ref h0, .int n] (fun U => U.heap.size = sz ∧ va_P (dC, dI) vwCl [(h0, .inr (7, [.null, .int 0]))] U.heap ∧ va_K (dC, dI) vwCl [] U ∧ va_D (fun _ => True) [(h0, .inr (7, [.null, .int 0]))])) (va_Qv (fun _ : Unit => True) (fun _ t => ∃ (q : Nat) (cA : ClassId), va_P (dC, dI) vwCl [(h0, .inr (7, [.ref q, .int 0])), (q, .inl (cA, K, .inl (fun _ => 0)))] t.heap ∧ va_K (dC, dI) vwCl [(cA, .int)] t ∧ va_D (va_A [(h0, .inr (7, [.null, .int 0]))] sz) [(h0, .inr (7, [.ref q, .int 0])), (q, .inl (cA, K, .inl (fun _ => 0)))]) (va_A [(h0, .inr (7, [.null, .int 0]))] sz)) 1 K (va_A [(h0, .inr (7, [.null, .int 0]))] sz) := by
  refine Met.ofW (cc := cX8_init) (maxL := 2) (ret := none) (by decide) rfl ?_
  intro p e s m args below meth c s₁ B hml hv
  obtain ⟨rfl, hsz, hP, hK, hD0⟩ := hv
  have hx := B.exec
  have hb := B.bytes
  have hr := B.returns
  have hts := atoms_spec (ws := wsX8_init) B.pre
  have hown : s.vm.findClass RX8 = some m.cls := findClass_of_methodNamed B.named
  have hlocks := B.notSynchronized
  have hin : meth.name = "<init>" := (name_of_methodNamed B.named B.method).1
  subst hsz
  have hD := hD0.self (sz := s.heap.size)
  generalize hAe : va_A [(h0, .inr (7, [.null, .int 0]))] s.heap.size = A at hD ⊢
  have hA : ∀ q : Nat, s.heap.size ≤ q → A q := fun q h => by rw [← hAe]; exact Or.inr h
  have hS : va_S A s.heap s.heap [] := va_S.rf
  have hP : va_P (dC, dI) vwCl [(h0, .inr (7, [.null, .int 0]))] s.heap := hP
  have hl := lv_entry ([.ref h0, .int n]) (n := 2) (Nat.le_of_ble_eq_true rfl)
  rw [lg_entry_eq]
  generalize (lg_sl ([.ref h0, .int n]) ++ List.replicate (2 - (lg_sl ([.ref h0, .int n])).length) Slot.unset).toArray = ls at hl ⊢
  have hl : lv_has ls 2 [(0, .ref h0), (1, .int n)] := hl
  refine lv_aload_n hx hb dX8_init_0 rfl (lv_at hl 0 rfl) ?_
  refine W.objInit hx hb hown (hts (.methodLink RX8 3 objectInit) (List.mem_of_getElem? (l := wsX8_init) (i := 1) rfl)) (hts (.instanceMethod objectInit) (List.mem_of_getElem? (l := wsX8_init) (i := 2) rfl)) (hts (.code objectInit ⟨#[0xb1]⟩ 1 none) (List.mem_of_getElem? (l := wsX8_init) (i := 3) rfl)) rfl (by rw [hml]; exact hl.1) rfl dX8_init_1 (Nat.le_of_ble_eq_true rfl) (Nat.le_of_ble_eq_true rfl) ?_
  refine W.eq (g2 := F0 m 4 ls []) rfl ?_
  refine lv_aload_n hx hb dX8_init_4 rfl (lv_at hl 0 rfl) ?_
  refine lv_iconst (v := 0) hx hb dX8_init_5 (by decide) ?_
  refine lv_iload_n hx hb dX8_init_6 rfl (lv_at hl 1 rfl) ?_
  refine va_mmax hx hb (hml.trans hl.1.symm) hown (hts (.methodLink RX8 9 Lib.Math.max.name) (List.mem_of_getElem? (l := wsX8_init) (i := 4) rfl)) (hts (.static Lib.Math.max.name) (List.mem_of_getElem? (l := wsX8_init) (i := 5) rfl)) (hts (.initialized "java/lang/Math") (List.mem_of_getElem? (l := wsX8_init) (i := 6) rfl)) (hts (.code Lib.Math.max.name Lib.Math.max.code 2 (some .int)) (List.mem_of_getElem? (l := wsX8_init) (i := 7) rfl)) (Nat.le_of_ble_eq_true rfl) (Nat.le_of_ble_eq_true rfl) (Nat.zero_le _) (Nat.zero_le _) dX8_init_7 ?_
  refine lv_topi (fun x_1 ex_1 => ?_)
  obtain rfl : n = x_1 := (ex_1.trans hmx).symm
  refine va_newa (atype := .int) (a0 := (K, .inl (fun _ => 0))) (N' := K) (ty := .int) hx hb (hts (.arrayClass .int) (List.mem_of_getElem? (l := wsX8_init) (i := 8) rfl)) rfl hK hP hD hS hA (fun _ => rfl) hn hN hB4 (Nat.le_of_ble_eq_true rfl) (Nat.le_of_eq (Nat.zero_add K)) dX8_init_10 (fun q cA H hK hP hD hS => ?_)
  have hP : va_P (dC, dI) vwCl [(h0, .inr (7, [.null, .int 0])), (q, .inl (cA, K, .inl (fun _ => 0)))] H := hP
  have hD : va_D A [(h0, .inr (7, [.null, .int 0])), (q, .inl (cA, K, .inl (fun _ => 0)))] := hD
  have hK : va_K (dC, dI) vwCl [(cA, .int)] s := hK
  refine W.widen (k := 1) (n := K) (by omega) (by omega) ?_
  refine va_putF (D := (dC, dI)) (ci := 7) (v := .ref q) (ty := .array .int) (C := RX8) (T := TX8) (N := 2) hx hb hts (by decide +kernel) tyX8 tyX8_ok nmX8 hown hK hP hD hS 0 rfl rfl 0 (by decide) (hts (.fieldLink RX8 15 "CardTables$Row" "items" "[I") (List.mem_of_getElem? (l := wsX8_init) (i := 9) rfl)) (fun _ h9 => h9) rfl hin rfl (by decide +kernel) rfl rfl (Nat.le_of_ble_eq_true rfl) dX8_init_12 (fun H locs hP hD hS => ?_)
  have hP : va_P (dC, dI) vwCl [(h0, .inr (7, [.ref q, .int 0])), (q, .inl (cA, K, .inl (fun _ => 0)))] H := hP
  have hD : va_D A [(h0, .inr (7, [.ref q, .int 0])), (q, .inl (cA, K, .inl (fun _ => 0)))] := hD
  have hP9 := hP.sub (ws' := [(h0, .inr (7, [.ref q, .int 0])), (q, .inl (cA, K, .inl (fun _ => 0)))]) [0, 1] rfl
  have hD9 := hD.sub (ws' := [(h0, .inr (7, [.ref q, .int 0])), (q, .inl (cA, K, .inl (fun _ => 0)))]) [0, 1] (by decide) rfl
  have hK9 := hK.sub (tys' := [(cA, .int)]) [0] rfl
  exact W.vret hx hb hr (fun t ht hW => ⟨⟨(), rfl, trivial, q, cA, by rw [ht]; exact hP9, va_K.moved hW.alike hK9, hD9⟩, hS.F ht⟩) hS.2.2 dX8_init_15
end
section
set_option maxHeartbeats 4000000 in
set_option maxRecDepth 100000 in
/-- Notes(silent): nothing told yet -/
theorem c_Notes_init (l : Launch) (dC : Nat → ClassId) (dI : Nat → Nat → Nat) (h0 sz : Nat) (b : Int32) (hb1 : narrow .boolean (.int b) = .int b) (hb2 : fits .boolean (.int b) = true) : Met l yX6_init wsX6_init ({ frames := 1, cells := 2, slots := 360, locals := 12 }) (va_Pc [.ref h0, .int b] (fun U => U.heap.size = sz ∧ va_P (dC, dI) vwCl [(h0, .inr (5, [.int 0, .null, .null, .int 0, .int 0, .int 0, .int 0]))] U.heap ∧ va_K (dC, dI) vwCl [] U ∧ va_D (fun _ => True) [(h0, .inr (5, [.int 0, .null, .null, .int 0, .int 0, .int 0, .int 0]))])) (va_Qv (fun _ : Unit => True) (fun _ t => ∃ a1 a2 : Nat, va_P (dC, dI) vwCl [(h0, .inr (5, [.int b, .ref a1, .ref a2, .int 0, .int 0, .int 0, .int 0]))] t.heap ∧ va_K (dC, dI) vwCl [] t ∧ va_D (va_A [(h0, .inr (5, [.int 0, .null, .null, .int 0, .int 0, .int 0, .int 0]))] sz) [(h0, .inr (5, [.int b, .ref a1, .ref a2, .int 0, .int 0, .int 0, .int 0]))]) (va_A [(h0, .inr (5, [.int 0, .null, .null, .int 0, .int 0, .int 0, .int 0]))] sz)) 2 360 (va_A [(h0, .inr (5, [.int 0, .null, .null, .int 0, .int 0, .int 0, .int 0]))] sz) := by
  refine Met.ofW (cc := cX6_init) (maxL := 2) (ret := none) (by decide) rfl ?_
  intro p e s m args below meth c s₁ B hml hv
  obtain ⟨rfl, hsz, hP, hK, hD0⟩ := hv
  have hx := B.exec
  have hb := B.bytes
  have hr := B.returns
  have hts := atoms_spec (ws := wsX6_init) B.pre
  have hown : s.vm.findClass RX6 = some m.cls := findClass_of_methodNamed B.named
  have hlocks := B.notSynchronized
  have hin : meth.name = "<init>" := (name_of_methodNamed B.named B.method).1
  subst hsz
  have hD := hD0.self (sz := s.heap.size)
  generalize hAe : va_A [(h0, .inr (5, [.int 0, .null, .null, .int 0, .int 0, .int 0, .int 0]))] s.heap.size = A at hD ⊢
  have hA : ∀ q : Nat, s.heap.size ≤ q → A q := fun q h => by rw [← hAe]; exact Or.inr h
  have hS : va_S A s.heap s.heap [] := va_S.rf
  have hP : va_P (dC, dI) vwCl [(h0, .inr (5, [.int 0, .null, .null, .int 0, .int 0, .int 0, .int 0]))] s.heap := hP
  have hl := lv_entry ([.ref h0, .int b]) (n := 2) (Nat.le_of_ble_eq_true rfl)
  rw [lg_entry_eq]
  generalize (lg_sl ([.ref h0, .int b]) ++ List.replicate (2 - (lg_sl ([.ref h0, .int b])).length) Slot.unset).toArray = ls at hl ⊢
  have hl : lv_has ls 2 [(0, .ref h0), (1, .int b)] := hl
  refine lv_aload_n hx hb dX6_init_0 rfl (lv_at hl 0 rfl) ?_
  refine W.objInit hx hb hown (hts (.methodLink RX6 3 objectInit) (List.mem_of_getElem? (l := wsX6_init) (i := 1) rfl)) (hts (.instanceMethod objectInit) (List.mem_of_getElem? (l := wsX6_init) (i := 2) rfl)) (hts (.code objectInit ⟨#[0xb1]⟩ 1 none) (List.mem_of_getElem? (l := wsX6_init) (i := 3) rfl)) rfl (by rw [hml]; exact hl.1) rfl dX6_init_1 (Nat.le_of_ble_eq_true rfl) (Nat.le_of_ble_eq_true rfl) ?_
  refine W.eq (g2 := F0 m 4 ls []) rfl ?_
  refine lv_aload_n hx hb dX6_init_4 rfl (lv_at hl 0 rfl) ?_
  refine lv_bipush (v := 60) hx hb dX6_init_5 (by decide) ?_
  refine va_newa (atype := .int) (a0 := (60, .inl (fun _ => 0))) (N' := 60) (ty := .int) hx hb (hts (.arrayClass .int) (List.mem_of_getElem? (l := wsX6_init) (i := 4) rfl)) rfl hK hP hD hS hA (fun _ => rfl) (by decide +kernel) (by decide +kernel) (by decide +kernel) (Nat.le_of_ble_eq_true rfl) (Nat.le_of_ble_eq_true rfl) dX6_init_7 (fun q_1 cA_1 H hK hP hD hS => ?_)
  have hP : va_P (dC, dI) vwCl [(h0, .inr (5, [.int 0, .null, .null, .int 0, .int 0, .int 0, .int 0])), (q_1, .inl (cA_1, 60, .inl (fun _ => 0)))] H := hP
  have hD : va_D A [(h0, .inr (5, [.int 0, .null, .null, .int 0, .int 0, .int 0, .int 0])), (q_1, .inl (cA_1, 60, .inl (fun _ => 0)))] := hD
  have hK : va_K (dC, dI) vwCl [(cA_1, .int)] s := hK
  refine W.widen (k := 1) (n := 60) (by omega) (by omega) ?_
  refine va_putF (D := (dC, dI)) (ci := 5) (v := .ref q_1) (ty := .array .int) (C := RX6) (T := TX6) (N := 7) hx hb hts (by decide +kernel) tyX6 tyX6_ok nmX6 hown hK hP hD hS 0 rfl rfl 1 (by decide) (hts (.fieldLink RX6 9 "CardTables$Notes" "bodies" "[I") (List.mem_of_getElem? (l := wsX6_init) (i := 5) rfl)) (fun _ h9 => h9) rfl hin rfl (by decide +kernel) rfl rfl (Nat.le_of_ble_eq_true rfl) dX6_init_9 (fun H locs hP hD hS => ?_)
  have hP : va_P (dC, dI) vwCl [(h0, .inr (5, [.int 0, .ref q_1, .null, .int 0, .int 0, .int 0, .int 0])), (q_1, .inl (cA_1, 60, .inl (fun _ => 0)))] H := hP
  have hD : va_D A [(h0, .inr (5, [.int 0, .ref q_1, .null, .int 0, .int 0, .int 0, .int 0])), (q_1, .inl (cA_1, 60, .inl (fun _ => 0)))] := hD
  refine lv_aload_n hx hb dX6_init_12 rfl (lv_at hl 0 rfl) ?_
  refine lv_sipush (v := 300) hx hb dX6_init_13 (by decide) ?_
  refine va_newa (atype := .int) (a0 := (300, .inl (fun _ => 0))) (N' := 300) (ty := .int) hx hb (hts (.arrayClass .int) (List.mem_of_getElem? (l := wsX6_init) (i := 4) rfl)) rfl hK hP hD hS hA (fun _ => rfl) (by decide +kernel) (by decide +kernel) (by decide +kernel) (Nat.le_of_ble_eq_true rfl) (Nat.le_of_ble_eq_true rfl) dX6_init_16 (fun q_2 cA_2 H hK hP hD hS => ?_)
  have hP : va_P (dC, dI) vwCl [(h0, .inr (5, [.int 0, .ref q_1, .null, .int 0, .int 0, .int 0, .int 0])), (q_1, .inl (cA_1, 60, .inl (fun _ => 0))), (q_2, .inl (cA_2, 300, .inl (fun _ => 0)))] H := hP
  have hD : va_D A [(h0, .inr (5, [.int 0, .ref q_1, .null, .int 0, .int 0, .int 0, .int 0])), (q_1, .inl (cA_1, 60, .inl (fun _ => 0))), (q_2, .inl (cA_2, 300, .inl (fun _ => 0)))] := hD
  have hK : va_K (dC, dI) vwCl [(cA_1, .int), (cA_2, .int)] s := hK
  refine W.widen (k := 2) (n := 360) (by omega) (by omega) ?_
  refine va_putF (D := (dC, dI)) (ci := 5) (v := .ref q_2) (ty := .array .int) (C := RX6) (T := TX6) (N := 7) hx hb hts (by decide +kernel) tyX6 tyX6_ok nmX6 hown hK hP hD hS 0 rfl rfl 2 (by decide) (hts (.fieldLink RX6 15 "CardTables$Notes" "findings" "[I") (List.mem_of_getElem? (l := wsX6_init) (i := 6) rfl)) (fun _ h9 => h9) rfl hin rfl (by decide +kernel) rfl rfl (Nat.le_of_ble_eq_true rfl) dX6_init_18 (fun H locs hP hD hS => ?_)
  have hP : va_P (dC, dI) vwCl [(h0, .inr (5, [.int 0, .ref q_1, .ref q_2, .int 0, .int 0, .int 0, .int 0])), (q_1, .inl (cA_1, 60, .inl (fun _ => 0))), (q_2, .inl (cA_2, 300, .inl (fun _ => 0)))] H := hP
  have hD : va_D A [(h0, .inr (5, [.int 0, .ref q_1, .ref q_2, .int 0, .int 0, .int 0, .int 0])), (q_1, .inl (cA_1, 60, .inl (fun _ => 0))), (q_2, .inl (cA_2, 300, .inl (fun _ => 0)))] := hD
  refine lv_aload_n hx hb dX6_init_21 rfl (lv_at hl 0 rfl) ?_
  refine lv_iload_n hx hb dX6_init_22 rfl (lv_at hl 1 rfl) ?_
  refine va_putF (D := (dC, dI)) (ci := 5) (v := .int b) (ty := .boolean) (C := RX6) (T := TX6) (N := 7) hx hb hts (by decide +kernel) tyX6 tyX6_ok nmX6 hown hK hP hD hS 0 rfl rfl 0 (by decide) (hts (.fieldLink RX6 18 "CardTables$Notes" "silent" "Z") (List.mem_of_getElem? (l := wsX6_init) (i := 7) rfl)) (fun _ h9 => h9) rfl hin rfl (by decide +kernel) hb1 hb2 (Nat.le_of_ble_eq_true rfl) dX6_init_23 (fun H locs hP hD hS => ?_)
  have hP : va_P (dC, dI) vwCl [(h0, .inr (5, [.int b, .ref q_1, .ref q_2, .int 0, .int 0, .int 0, .int 0])), (q_1, .inl (cA_1, 60, .inl (fun _ => 0))), (q_2, .inl (cA_2, 300, .inl (fun _ => 0)))] H := hP
  have hD : va_D A [(h0, .inr (5, [.int b, .ref q_1, .ref q_2, .int 0, .int 0, .int 0, .int 0])), (q_1, .inl (cA_1, 60, .inl (fun _ => 0))), (q_2, .inl (cA_2, 300, .inl (fun _ => 0)))] := hD
  have hP9 := hP.sub (ws' := [(h0, .inr (5, [.int b, .ref q_1, .ref q_2, .int 0, .int 0, .int 0, .int 0]))]) [0] rfl
  have hD9 := hD.sub (ws' := [(h0, .inr (5, [.int b, .ref q_1, .ref q_2, .int 0, .int 0, .int 0, .int 0]))]) [0] (by decide) rfl
  have hK9 := hK.sub (tys' := []) [] rfl
  exact W.vret hx hb hr (fun t ht hW => ⟨⟨(), rfl, trivial, q_1, q_2, by rw [ht]; exact hP9, va_K.moved hW.alike hK9, hD9⟩, hS.F ht⟩) hS.2.2 dX6_init_26
end
section
set_option maxHeartbeats 4000000 in
set_option maxRecDepth 100000 in
/-- Deal(): its rows are made -/
theorem c_Deal_init (l : Launch) (dC : Nat → ClassId) (dI : Nat → Nat → Nat) (h0 sz : Nat) : Met l yX1_init wsX1_init ({ frames := 2, cells := 8, slots := 257, locals := 61 }) (va_Pc [.ref h0] (fun U => U.heap.size = sz ∧ va_P (dC, dI) vwCl [(h0, .inr (1, [.int 0, .int 0, .int 0, .int 0, .int 0, .int 0, .int 0, .int 0, .int 0, .int 0, .int 0, .null, .null, .null, .null, .null, .null, .null]))] U.heap ∧ va_K (dC, dI) vwCl [] U ∧ va_D (fun _ => True) [(h0, .inr (1, [.int 0, .int 0, .int 0, .int 0, .int 0, .int 0, .int 0, .int 0, .int 0, .int 0, .int 0, .null, .null, .null, .null, .null, .null, .null]))])) (va_Qv (fun _ : Unit => True) (fun _ t => ∃ fs : List Value, va_P (dC, dI) vwCl [(h0, .inr (1, fs))] t.heap ∧ va_K (dC, dI) vwCl [] t ∧ va_D (va_A [(h0, .inr (1, [.int 0, .int 0, .int 0, .int 0, .int 0, .int 0, .int 0, .int 0, .int 0, .int 0, .int 0, .null, .null, .null, .null, .null, .null, .null]))] sz) [(h0, .inr (1, fs))]) (va_A [(h0, .inr (1, [.int 0, .int 0, .int 0, .int 0, .int 0, .int 0, .int 0, .int 0, .int 0, .int 0, .int 0, .null, .null, .null, .null, .null, .null, .null]))] sz)) 8 257 (va_A [(h0, .inr (1, [.int 0, .int 0, .int 0, .int 0, .int 0, .int 0, .int 0, .int 0, .int 0, .int 0, .int 0, .null, .null, .null, .null, .null, .null, .null]))] sz) := by
  refine Met.ofW (cc := cX1_init) (maxL := 1) (ret := none) (by decide) rfl ?_
  intro p e s m args below meth c s₁ B hml hv
  obtain ⟨rfl, hsz, hP, hK, hD0⟩ := hv
  have hx := B.exec
  have hb := B.bytes
  have hr := B.returns
  have hts := atoms_spec (ws := wsX1_init) B.pre
  have hown : s.vm.findClass RX1 = some m.cls := findClass_of_methodNamed B.named
  have hlocks := B.notSynchronized
  have hin : meth.name = "<init>" := (name_of_methodNamed B.named B.method).1
  subst hsz
  have hD := hD0.self (sz := s.heap.size)
  generalize hAe : va_A [(h0, .inr (1, [.int 0, .int 0, .int 0, .int 0, .int 0, .int 0, .int 0, .int 0, .int 0, .int 0, .int 0, .null, .null, .null, .null, .null, .null, .null]))] s.heap.size = A at hD ⊢
  have hA : ∀ q : Nat, s.heap.size ≤ q → A q := fun q h => by rw [← hAe]; exact Or.inr h
  have hS : va_S A s.heap s.heap [] := va_S.rf
  have hP : va_P (dC, dI) vwCl [(h0, .inr (1, [.int 0, .int 0, .int 0, .int 0, .int 0, .int 0, .int 0, .int 0, .int 0, .int 0, .int 0, .null, .null, .null, .null, .null, .null, .null]))] s.heap := hP
  have hl := lv_entry ([.ref h0]) (n := 1) (Nat.le_of_ble_eq_true rfl)
  rw [lg_entry_eq]
  generalize (lg_sl ([.ref h0]) ++ List.replicate (1 - (lg_sl ([.ref h0])).length) Slot.unset).toArray = ls at hl ⊢
  have hl : lv_has ls 1 [(0, .ref h0)] := hl
  refine lv_aload_n hx hb dX1_init_0 rfl (lv_at hl 0 rfl) ?_
  refine W.objInit hx hb hown (hts (.methodLink RX1 3 objectInit) (List.mem_of_getElem? (l := wsX1_init) (i := 1) rfl)) (hts (.instanceMethod objectInit) (List.mem_of_getElem? (l := wsX1_init) (i := 2) rfl)) (hts (.code objectInit ⟨#[0xb1]⟩ 1 none) (List.mem_of_getElem? (l := wsX1_init) (i := 3) rfl)) rfl (by rw [hml]; exact hl.1) rfl dX1_init_1 (Nat.le_of_ble_eq_true rfl) (Nat.le_of_ble_eq_true rfl) ?_
  refine W.eq (g2 := F0 m 4 ls []) rfl ?_
  refine lv_aload_n hx hb dX1_init_4 rfl (lv_at hl 0 rfl) ?_
  refine lv_iconst (v := 2) hx hb dX1_init_5 (by decide) ?_
  refine va_newa (atype := .int) (a0 := (2, .inl (fun _ => 0))) (N' := 2) (ty := .int) hx hb (hts (.arrayClass .int) (List.mem_of_getElem? (l := wsX1_init) (i := 4) rfl)) rfl hK hP hD hS hA (fun _ => rfl) (by decide +kernel) (by decide +kernel) (by decide +kernel) (Nat.le_of_ble_eq_true rfl) (Nat.le_of_ble_eq_true rfl) dX1_init_6 (fun q_1 cA_1 H hK hP hD hS => ?_)
  have hP : va_P (dC, dI) vwCl [(h0, .inr (1, [.int 0, .int 0, .int 0, .int 0, .int 0, .int 0, .int 0, .int 0, .int 0, .int 0, .int 0, .null, .null, .null, .null, .null, .null, .null])), (q_1, .inl (cA_1, 2, .inl (fun _ => 0)))] H := hP
  have hD : va_D A [(h0, .inr (1, [.int 0, .int 0, .int 0, .int 0, .int 0, .int 0, .int 0, .int 0, .int 0, .int 0, .int 0, .null, .null, .null, .null, .null, .null, .null])), (q_1, .inl (cA_1, 2, .inl (fun _ => 0)))] := hD
  have hK : va_K (dC, dI) vwCl [(cA_1, .int)] s := hK
  refine W.widen (k := 1) (n := 2) (by omega) (by omega) ?_
  refine va_putF (D := (dC, dI)) (ci := 1) (v := .ref q_1) (ty := .array .int) (C := RX1) (T := TX1) (N := 18) hx hb hts (by decide +kernel) tyX1 tyX1_ok nmX1 hown hK hP hD hS 0 rfl rfl 11 (by decide) (hts (.fieldLink RX1 9 "CardTables$Deal" "tricks" "[I") (List.mem_of_getElem? (l := wsX1_init) (i := 5) rfl)) (fun _ h9 => h9) rfl hin rfl (by decide +kernel) rfl rfl (Nat.le_of_ble_eq_true rfl) dX1_init_8 (fun H locs hP hD hS => ?_)
  have hP : va_P (dC, dI) vwCl [(h0, .inr (1, [.int 0, .int 0, .int 0, .int 0, .int 0, .int 0, .int 0, .int 0, .int 0, .int 0, .int 0, .ref q_1, .null, .null, .null, .null, .null, .null])), (q_1, .inl (cA_1, 2, .inl (fun _ => 0)))] H := hP
  have hD : va_D A [(h0, .inr (1, [.int 0, .int 0, .int 0, .int 0, .int 0, .int 0, .int 0, .int 0, .int 0, .int 0, .int 0, .ref q_1, .null, .null, .null, .null, .null, .null])), (q_1, .inl (cA_1, 2, .inl (fun _ => 0)))] := hD
  have hP := hP.sub (ws' := [(h0, .inr (1, [.int 0, .int 0, .int 0, .int 0, .int 0, .int 0, .int 0, .int 0, .int 0, .int 0, .int 0, .ref q_1, .null, .null, .null, .null, .null, .null]))]) [0] rfl
  have hD := hD.sub (ws' := [(h0, .inr (1, [.int 0, .int 0, .int 0, .int 0, .int 0, .int 0, .int 0, .int 0, .int 0, .int 0, .int 0, .ref q_1, .null, .null, .null, .null, .null, .null]))]) [0] (by decide) rfl
  have hK := hK.sub (tys' := []) [] rfl
  refine lv_aload_n hx hb dX1_init_11 rfl (lv_at hl 0 rfl) ?_
  refine lv_iconst (v := 2) hx hb dX1_init_12 (by decide) ?_
  refine va_newa (atype := .int) (a0 := (2, .inl (fun _ => 0))) (N' := 2) (ty := .int) hx hb (hts (.arrayClass .int) (List.mem_of_getElem? (l := wsX1_init) (i := 4) rfl)) rfl hK hP hD hS hA (fun _ => rfl) (by decide +kernel) (by decide +kernel) (by decide +kernel) (Nat.le_of_ble_eq_true rfl) (Nat.le_of_ble_eq_true rfl) dX1_init_13 (fun q_2 cA_2 H hK hP hD hS => ?_)
  have hP : va_P (dC, dI) vwCl [(h0, .inr (1, [.int 0, .int 0, .int 0, .int 0, .int 0, .int 0, .int 0, .int 0, .int 0, .int 0, .int 0, .ref q_1, .null, .null, .null, .null, .null, .null])), (q_2, .inl (cA_2, 2, .inl (fun _ => 0)))] H := hP
  have hD : va_D A [(h0, .inr (1, [.int 0, .int 0, .int 0, .int 0, .int 0, .int 0, .int 0, .int 0, .int 0, .int 0, .int 0, .ref q_1, .null, .null, .null, .null, .null, .null])), (q_2, .inl (cA_2, 2, .inl (fun _ => 0)))] := hD
  have hK : va_K (dC, dI) vwCl [(cA_2, .int)] s := hK
  refine W.widen (k := 2) (n := 4) (by omega) (by omega) ?_
  refine va_putF (D := (dC, dI)) (ci := 1) (v := .ref q_2) (ty := .array .int) (C := RX1) (T := TX1) (N := 18) hx hb hts (by decide +kernel) tyX1 tyX1_ok nmX1 hown hK hP hD hS 0 rfl rfl 12 (by decide) (hts (.fieldLink RX1 15 "CardTables$Deal" "points" "[I") (List.mem_of_getElem? (l := wsX1_init) (i := 6) rfl)) (fun _ h9 => h9) rfl hin rfl (by decide +kernel) rfl rfl (Nat.le_of_ble_eq_true rfl) dX1_init_15 (fun H locs hP hD hS => ?_)
  have hP : va_P (dC, dI) vwCl [(h0, .inr (1, [.int 0, .int 0, .int 0, .int 0, .int 0, .int 0, .int 0, .int 0, .int 0, .int 0, .int 0, .ref q_1, .ref q_2, .null, .null, .null, .null, .null])), (q_2, .inl (cA_2, 2, .inl (fun _ => 0)))] H := hP
  have hD : va_D A [(h0, .inr (1, [.int 0, .int 0, .int 0, .int 0, .int 0, .int 0, .int 0, .int 0, .int 0, .int 0, .int 0, .ref q_1, .ref q_2, .null, .null, .null, .null, .null])), (q_2, .inl (cA_2, 2, .inl (fun _ => 0)))] := hD
  have hP := hP.sub (ws' := [(h0, .inr (1, [.int 0, .int 0, .int 0, .int 0, .int 0, .int 0, .int 0, .int 0, .int 0, .int 0, .int 0, .ref q_1, .ref q_2, .null, .null, .null, .null, .null]))]) [0] rfl
  have hD := hD.sub (ws' := [(h0, .inr (1, [.int 0, .int 0, .int 0, .int 0, .int 0, .int 0, .int 0, .int 0, .int 0, .int 0, .int 0, .ref q_1, .ref q_2, .null, .null, .null, .null, .null]))]) [0] (by decide) rfl
  have hK := hK.sub (tys' := []) [] rfl
  refine lv_aload_n hx hb dX1_init_18 rfl (lv_at hl 0 rfl) ?_
  refine lv_bipush (v := 15) hx hb dX1_init_19 (by decide) ?_
  refine va_newa (atype := .int) (a0 := (15, .inl (fun _ => 0))) (N' := 15) (ty := .int) hx hb (hts (.arrayClass .int) (List.mem_of_getElem? (l := wsX1_init) (i := 4) rfl)) rfl hK hP hD hS hA (fun _ => rfl) (by decide +kernel) (by decide +kernel) (by decide +kernel) (Nat.le_of_ble_eq_true rfl) (Nat.le_of_ble_eq_true rfl) dX1_init_21 (fun q_3 cA_3 H hK hP hD hS => ?_)
  have hP : va_P (dC, dI) vwCl [(h0, .inr (1, [.int 0, .int 0, .int 0, .int 0, .int 0, .int 0, .int 0, .int 0, .int 0, .int 0, .int 0, .ref q_1, .ref q_2, .null, .null, .null, .null, .null])), (q_3, .inl (cA_3, 15, .inl (fun _ => 0)))] H := hP
  have hD : va_D A [(h0, .inr (1, [.int 0, .int 0, .int 0, .int 0, .int 0, .int 0, .int 0, .int 0, .int 0, .int 0, .int 0, .ref q_1, .ref q_2, .null, .null, .null, .null, .null])), (q_3, .inl (cA_3, 15, .inl (fun _ => 0)))] := hD
  have hK : va_K (dC, dI) vwCl [(cA_3, .int)] s := hK
  refine W.widen (k := 3) (n := 19) (by omega) (by omega) ?_
  refine va_putF (D := (dC, dI)) (ci := 1) (v := .ref q_3) (ty := .array .int) (C := RX1) (T := TX1) (N := 18) hx hb hts (by decide +kernel) tyX1 tyX1_ok nmX1 hown hK hP hD hS 0 rfl rfl 13 (by decide) (hts (.fieldLink RX1 18 "CardTables$Deal" "owners" "[I") (List.mem_of_getElem? (l := wsX1_init) (i := 7) rfl)) (fun _ h9 => h9) rfl hin rfl (by decide +kernel) rfl rfl (Nat.le_of_ble_eq_true rfl) dX1_init_23 (fun H locs hP hD hS => ?_)
  have hP : va_P (dC, dI) vwCl [(h0, .inr (1, [.int 0, .int 0, .int 0, .int 0, .int 0, .int 0, .int 0, .int 0, .int 0, .int 0, .int 0, .ref q_1, .ref q_2, .ref q_3, .null, .null, .null, .null])), (q_3, .inl (cA_3, 15, .inl (fun _ => 0)))] H := hP
  have hD : va_D A [(h0, .inr (1, [.int 0, .int 0, .int 0, .int 0, .int 0, .int 0, .int 0, .int 0, .int 0, .int 0, .int 0, .ref q_1, .ref q_2, .ref q_3, .null, .null, .null, .null])), (q_3, .inl (cA_3, 15, .inl (fun _ => 0)))] := hD
  have hP := hP.sub (ws' := [(h0, .inr (1, [.int 0, .int 0, .int 0, .int 0, .int 0, .int 0, .int 0, .int 0, .int 0, .int 0, .int 0, .ref q_1, .ref q_2, .ref q_3, .null, .null, .null, .null]))]) [0] rfl
  have hD := hD.sub (ws' := [(h0, .inr (1, [.int 0, .int 0, .int 0, .int 0, .int 0, .int 0, .int 0, .int 0, .int 0, .int 0, .int 0, .ref q_1, .ref q_2, .ref q_3, .null, .null, .null, .null]))]) [0] (by decide) rfl
  have hK := hK.sub (tys' := []) [] rfl
  refine lv_aload_n hx hb dX1_init_26 rfl (lv_at hl 0 rfl) ?_
  refine lv_bipush (v := 15) hx hb dX1_init_27 (by decide) ?_
  refine va_newa (atype := .int) (a0 := (15, .inl (fun _ => 0))) (N' := 15) (ty := .int) hx hb (hts (.arrayClass .int) (List.mem_of_getElem? (l := wsX1_init) (i := 4) rfl)) rfl hK hP hD hS hA (fun _ => rfl) (by decide +kernel) (by decide +kernel) (by decide +kernel) (Nat.le_of_ble_eq_true rfl) (Nat.le_of_ble_eq_true rfl) dX1_init_29 (fun q_4 cA_4 H hK hP hD hS => ?_)
  have hP : va_P (dC, dI) vwCl [(h0, .inr (1, [.int 0, .int 0, .int 0, .int 0, .int 0, .int 0, .int 0, .int 0, .int 0, .int 0, .int 0, .ref q_1, .ref q_2, .ref q_3, .null, .null, .null, .null])), (q_4, .inl (cA_4, 15, .inl (fun _ => 0)))] H := hP
  have hD : va_D A [(h0, .inr (1, [.int 0, .int 0, .int 0, .int 0, .int 0, .int 0, .int 0, .int 0, .int 0, .int 0, .int 0, .ref q_1, .ref q_2, .ref q_3, .null, .null, .null, .null])), (q_4, .inl (cA_4, 15, .inl (fun _ => 0)))] := hD
  have hK : va_K (dC, dI) vwCl [(cA_4, .int)] s := hK
  refine W.widen (k := 4) (n := 34) (by omega) (by omega) ?_
  refine va_putF (D := (dC, dI)) (ci := 1) (v := .ref q_4) (ty := .array .int) (C := RX1) (T := TX1) (N := 18) hx hb hts (by decide +kernel) tyX1 tyX1_ok nmX1 hown hK hP hD hS 0 rfl rfl 14 (by decide) (hts (.fieldLink RX1 21 "CardTables$Deal" "scores" "[I") (List.mem_of_getElem? (l := wsX1_init) (i := 8) rfl)) (fun _ h9 => h9) rfl hin rfl (by decide +kernel) rfl rfl (Nat.le_of_ble_eq_true rfl) dX1_init_31 (fun H locs hP hD hS => ?_)
  have hP : va_P (dC, dI) vwCl [(h0, .inr (1, [.int 0, .int 0, .int 0, .int 0, .int 0, .int 0, .int 0, .int 0, .int 0, .int 0, .int 0, .ref q_1, .ref q_2, .ref q_3, .ref q_4, .null, .null, .null])), (q_4, .inl (cA_4, 15, .inl (fun _ => 0)))] H := hP
  have hD : va_D A [(h0, .inr (1, [.int 0, .int 0, .int 0, .int 0, .int 0, .int 0, .int 0, .int 0, .int 0, .int 0, .int 0, .ref q_1, .ref q_2, .ref q_3, .ref q_4, .null, .null, .null])), (q_4, .inl (cA_4, 15, .inl (fun _ => 0)))] := hD
  have hP := hP.sub (ws' := [(h0, .inr (1, [.int 0, .int 0, .int 0, .int 0, .int 0, .int 0, .int 0, .int 0, .int 0, .int 0, .int 0, .ref q_1, .ref q_2, .ref q_3, .ref q_4, .null, .null, .null]))]) [0] rfl
  have hD := hD.sub (ws' := [(h0, .inr (1, [.int 0, .int 0, .int 0, .int 0, .int 0, .int 0, .int 0, .int 0, .int 0, .int 0, .int 0, .ref q_1, .ref q_2, .ref q_3, .ref q_4, .null, .null, .null]))]) [0] (by decide) rfl
  have hK := hK.sub (tys' := []) [] rfl
  refine lv_aload_n hx hb dX1_init_34 rfl (lv_at hl 0 rfl) ?_
  refine lv_bipush (v := 60) hx hb dX1_init_35 (by decide) ?_
  refine va_newa (atype := .int) (a0 := (60, .inl (fun _ => 0))) (N' := 60) (ty := .int) hx hb (hts (.arrayClass .int) (List.mem_of_getElem? (l := wsX1_init) (i := 4) rfl)) rfl hK hP hD hS hA (fun _ => rfl) (by decide +kernel) (by decide +kernel) (by decide +kernel) (Nat.le_of_ble_eq_true rfl) (Nat.le_of_ble_eq_true rfl) dX1_init_37 (fun q_5 cA_5 H hK hP hD hS => ?_)
  have hP : va_P (dC, dI) vwCl [(h0, .inr (1, [.int 0, .int 0, .int 0, .int 0, .int 0, .int 0, .int 0, .int 0, .int 0, .int 0, .int 0, .ref q_1, .ref q_2, .ref q_3, .ref q_4, .null, .null, .null])), (q_5, .inl (cA_5, 60, .inl (fun _ => 0)))] H := hP
  have hD : va_D A [(h0, .inr (1, [.int 0, .int 0, .int 0, .int 0, .int 0, .int 0, .int 0, .int 0, .int 0, .int 0, .int 0, .ref q_1, .ref q_2, .ref q_3, .ref q_4, .null, .null, .null])), (q_5, .inl (cA_5, 60, .inl (fun _ => 0)))] := hD
  have hK : va_K (dC, dI) vwCl [(cA_5, .int)] s := hK
  refine W.widen (k := 5) (n := 94) (by omega) (by omega) ?_
  refine va_putF (D := (dC, dI)) (ci := 1) (v := .ref q_5) (ty := .array .int) (C := RX1) (T := TX1) (N := 18) hx hb hts (by decide +kernel) tyX1 tyX1_ok nmX1 hown hK hP hD hS 0 rfl rfl 15 (by decide) (hts (.fieldLink RX1 24 "CardTables$Deal" "trickOf" "[I") (List.mem_of_getElem? (l := wsX1_init) (i := 9) rfl)) (fun _ h9 => h9) rfl hin rfl (by decide +kernel) rfl rfl (Nat.le_of_ble_eq_true rfl) dX1_init_39 (fun H locs hP hD hS => ?_)
  have hP : va_P (dC, dI) vwCl [(h0, .inr (1, [.int 0, .int 0, .int 0, .int 0, .int 0, .int 0, .int 0, .int 0, .int 0, .int 0, .int 0, .ref q_1, .ref q_2, .ref q_3, .ref q_4, .ref q_5, .null, .null])), (q_5, .inl (cA_5, 60, .inl (fun _ => 0)))] H := hP
  have hD : va_D A [(h0, .inr (1, [.int 0, .int 0, .int 0, .int 0, .int 0, .int 0, .int 0, .int 0, .int 0, .int 0, .int 0, .ref q_1, .ref q_2, .ref q_3, .ref q_4, .ref q_5, .null, .null])), (q_5, .inl (cA_5, 60, .inl (fun _ => 0)))] := hD
  have hP := hP.sub (ws' := [(h0, .inr (1, [.int 0, .int 0, .int 0, .int 0, .int 0, .int 0, .int 0, .int 0, .int 0, .int 0, .int 0, .ref q_1, .ref q_2, .ref q_3, .ref q_4, .ref q_5, .null, .null]))]) [0] rfl
  have hD := hD.sub (ws' := [(h0, .inr (1, [.int 0, .int 0, .int 0, .int 0, .int 0, .int 0, .int 0, .int 0, .int 0, .int 0, .int 0, .ref q_1, .ref q_2, .ref q_3, .ref q_4, .ref q_5, .null, .null]))]) [0] (by decide) rfl
  have hK := hK.sub (tys' := []) [] rfl
  refine lv_aload_n hx hb dX1_init_42 rfl (lv_at hl 0 rfl) ?_
  refine lv_bipush (v := 60) hx hb dX1_init_43 (by decide) ?_
  refine va_newa (atype := .int) (a0 := (60, .inl (fun _ => 0))) (N' := 60) (ty := .int) hx hb (hts (.arrayClass .int) (List.mem_of_getElem? (l := wsX1_init) (i := 4) rfl)) rfl hK hP hD hS hA (fun _ => rfl) (by decide +kernel) (by decide +kernel) (by decide +kernel) (Nat.le_of_ble_eq_true rfl) (Nat.le_of_ble_eq_true rfl) dX1_init_45 (fun q_6 cA_6 H hK hP hD hS => ?_)
  have hP : va_P (dC, dI) vwCl [(h0, .inr (1, [.int 0, .int 0, .int 0, .int 0, .int 0, .int 0, .int 0, .int 0, .int 0, .int 0, .int 0, .ref q_1, .ref q_2, .ref q_3, .ref q_4, .ref q_5, .null, .null])), (q_6, .inl (cA_6, 60, .inl (fun _ => 0)))] H := hP
  have hD : va_D A [(h0, .inr (1, [.int 0, .int 0, .int 0, .int 0, .int 0, .int 0, .int 0, .int 0, .int 0, .int 0, .int 0, .ref q_1, .ref q_2, .ref q_3, .ref q_4, .ref q_5, .null, .null])), (q_6, .inl (cA_6, 60, .inl (fun _ => 0)))] := hD
  have hK : va_K (dC, dI) vwCl [(cA_6, .int)] s := hK
  refine W.widen (k := 6) (n := 154) (by omega) (by omega) ?_
  refine va_putF (D := (dC, dI)) (ci := 1) (v := .ref q_6) (ty := .array .int) (C := RX1) (T := TX1) (N := 18) hx hb hts (by decide +kernel) tyX1 tyX1_ok nmX1 hown hK hP hD hS 0 rfl rfl 16 (by decide) (hts (.fieldLink RX1 27 "CardTables$Deal" "denied" "[I") (List.mem_of_getElem? (l := wsX1_init) (i := 10) rfl)) (fun _ h9 => h9) rfl hin rfl (by decide +kernel) rfl rfl (Nat.le_of_ble_eq_true rfl) dX1_init_47 (fun H locs hP hD hS => ?_)
  have hP : va_P (dC, dI) vwCl [(h0, .inr (1, [.int 0, .int 0, .int 0, .int 0, .int 0, .int 0, .int 0, .int 0, .int 0, .int 0, .int 0, .ref q_1, .ref q_2, .ref q_3, .ref q_4, .ref q_5, .ref q_6, .null])), (q_6, .inl (cA_6, 60, .inl (fun _ => 0)))] H := hP
  have hD : va_D A [(h0, .inr (1, [.int 0, .int 0, .int 0, .int 0, .int 0, .int 0, .int 0, .int 0, .int 0, .int 0, .int 0, .ref q_1, .ref q_2, .ref q_3, .ref q_4, .ref q_5, .ref q_6, .null])), (q_6, .inl (cA_6, 60, .inl (fun _ => 0)))] := hD
  have hP := hP.sub (ws' := [(h0, .inr (1, [.int 0, .int 0, .int 0, .int 0, .int 0, .int 0, .int 0, .int 0, .int 0, .int 0, .int 0, .ref q_1, .ref q_2, .ref q_3, .ref q_4, .ref q_5, .ref q_6, .null]))]) [0] rfl
  have hD := hD.sub (ws' := [(h0, .inr (1, [.int 0, .int 0, .int 0, .int 0, .int 0, .int 0, .int 0, .int 0, .int 0, .int 0, .int 0, .ref q_1, .ref q_2, .ref q_3, .ref q_4, .ref q_5, .ref q_6, .null]))]) [0] (by decide) rfl
  have hK := hK.sub (tys' := []) [] rfl
  refine lv_aload_n hx hb dX1_init_50 rfl (lv_at hl 0 rfl) ?_
  refine va_new (ci := 7) (fs := [.null, .int 0]) (C := RX8) (T := TX8) (N := 2) hx hb hts (by decide +kernel) tyX8 tyX8_ok hown (hts (.classLink RX1 30 RX8) (List.mem_of_getElem? (l := wsX1_init) (i := 11) rfl)) (hts (.instantiable RX8 2) (List.mem_of_getElem? (l := wsX1_init) (i := 12) rfl)) (hts (.initialized RX8) (List.mem_of_getElem? (l := wsX1_init) (i := 13) rfl)) hK hP hD hS hA rfl (fun j hj => by rcases (show j = 0 ∨ j = 1 by omega) with rfl | rfl <;> rfl) (Nat.le_of_ble_eq_true rfl) (Nat.le_of_ble_eq_true rfl) dX1_init_51 (fun q_7 H hP hD hS => ?_)
  have hP : va_P (dC, dI) vwCl [(h0, .inr (1, [.int 0, .int 0, .int 0, .int 0, .int 0, .int 0, .int 0, .int 0, .int 0, .int 0, .int 0, .ref q_1, .ref q_2, .ref q_3, .ref q_4, .ref q_5, .ref q_6, .null])), (q_7, .inr (7, [.null, .int 0]))] H := hP
  have hD : va_D A [(h0, .inr (1, [.int 0, .int 0, .int 0, .int 0, .int 0, .int 0, .int 0, .int 0, .int 0, .int 0, .int 0, .ref q_1, .ref q_2, .ref q_3, .ref q_4, .ref q_5, .ref q_6, .null])), (q_7, .inr (7, [.null, .int 0]))] := hD
  refine W.widen (k := 7) (n := 156) (by omega) (by omega) ?_
  refine lv_dup hx hb dX1_init_54 rfl ?_
  refine lv_bipush (v := 101) hx hb dX1_init_55 (by decide) ?_
  have hPc := hP.sub (ws' := [(q_7, .inr (7, [.null, .int 0]))]) [1] rfl
  have hDc := hD.sub (ws' := [(q_7, .inr (7, [.null, .int 0]))]) [1] (by decide) rfl
  have hKc := hK.sub (tys' := []) [] rfl
  have hFc := va_free (wc := [(q_7, .inr (7, [.null, .int 0]))]) hD hS hA [1] rfl
  refine va_callv (va_runI (As := [.int 101]) (rest := [.ref q_7, .ref h0]) ⟨hx, hb, hml, hown, hts⟩ (c_Row_init l dC dI q_7 H.size 101 101 (by decide +kernel) (by decide +kernel) (by decide +kernel) (by decide +kernel)) (cwI 1 hts gX1_init_X8_init rfl rfl rfl (hts (.initialized RX8) (List.mem_of_getElem? (l := wsX1_init) (i := 13) rfl)) (hts (.methodLink RX1 32 yX8_init) (List.mem_of_getElem? (l := wsX1_init) (i := 15) rfl)) (hts (.instanceMethod yX8_init) (List.mem_of_getElem? (l := wsX1_init) (i := 16) rfl)) rfl (by decide +kernel) ⟨Nat.le_of_ble_eq_true rfl, Nat.le_of_ble_eq_true rfl⟩) ⟨fun a U g mk q => by obtain ⟨q0, q1, qP, qK, qD⟩ := q; exact ⟨q0, q1, qP, va_K.moved (u := U) (U := U.calling g mk a) (Vm.Alike.refl U.vm) qK, qD⟩, fun U hU hW => ⟨rfl, by rw [hU], by rw [hU]; exact hPc, va_K.moved hW.alike hKc, hDc.weaken (fun _ _ _ _ => trivial)⟩⟩ rfl rfl hl.1 rfl (lv_room (Nat.le_of_ble_eq_true rfl)) dX1_init_57 ⟨Nat.le_of_ble_eq_true rfl, Nat.le_of_ble_eq_true rfl⟩) hS (fun q _ h => hFc q h) hFc (fun u t H1 locs ht hvm hw hB hz1 hk1 hS => ?_)
  obtain ⟨rq_8, rc_8, hP1, hK1, hD1⟩ := hB
  rw [ht] at hP1
  have hK1 := va_K.moved hvm.symm hK1
  obtain ⟨hP, hD⟩ := va_join (wr := [(h0, .inr (1, [.int 0, .int 0, .int 0, .int 0, .int 0, .int 0, .int 0, .int 0, .int 0, .int 0, .int 0, .ref q_1, .ref q_2, .ref q_3, .ref q_4, .ref q_5, .ref q_6, .null]))]) (w1 := [(q_7, .inr (7, [.ref rq_8, .int 0])), (rq_8, .inl (rc_8, 101, .inl (fun _ => 0)))]) hP hD [1] [0] rfl rfl (by decide) (by decide) hk1 hFc hP1 hD1
  have hK := (hK.sub (tys' := []) [] rfl).app hK1
  generalize H1 = H at hP hS ⊢
  have hP : va_P (dC, dI) vwCl [(h0, .inr (1, [.int 0, .int 0, .int 0, .int 0, .int 0, .int 0, .int 0, .int 0, .int 0, .int 0, .int 0, .ref q_1, .ref q_2, .ref q_3, .ref q_4, .ref q_5, .ref q_6, .null])), (q_7, .inr (7, [.ref rq_8, .int 0])), (rq_8, .inl (rc_8, 101, .inl (fun _ => 0)))] H := hP
  have hD : va_D A [(h0, .inr (1, [.int 0, .int 0, .int 0, .int 0, .int 0, .int 0, .int 0, .int 0, .int 0, .int 0, .int 0, .ref q_1, .ref q_2, .ref q_3, .ref q_4, .ref q_5, .ref q_6, .null])), (q_7, .inr (7, [.ref rq_8, .int 0])), (rq_8, .inl (rc_8, 101, .inl (fun _ => 0)))] := hD
  have hK : va_K (dC, dI) vwCl [(rc_8, .int)] s := hK
  refine W.widen (k := 8) (n := 257) (by omega) (by omega) ?_
  refine va_putF (D := (dC, dI)) (ci := 1) (v := .ref q_7) (ty := .object "CardTables$Row") (C := RX1) (T := TX1) (N := 18) hx hb hts (by decide +kernel) tyX1 tyX1_ok nmX1 hown hK hP hD hS 0 rfl rfl 17 (by decide) (hts (.fieldLink RX1 35 "CardTables$Deal" "calls" "LCardTables$Row;") (List.mem_of_getElem? (l := wsX1_init) (i := 14) rfl)) (fun _ h9 => h9) rfl hin rfl (by decide +kernel) rfl rfl (Nat.le_of_ble_eq_true rfl) dX1_init_60 (fun H locs hP hD hS => ?_)
  have hP : va_P (dC, dI) vwCl [(h0, .inr (1, [.int 0, .int 0, .int 0, .int 0, .int 0, .int 0, .int 0, .int 0, .int 0, .int 0, .int 0, .ref q_1, .ref q_2, .ref q_3, .ref q_4, .ref q_5, .ref q_6, .ref q_7])), (q_7, .inr (7, [.ref rq_8, .int 0])), (rq_8, .inl (rc_8, 101, .inl (fun _ => 0)))] H := hP
  have hD : va_D A [(h0, .inr (1, [.int 0, .int 0, .int 0, .int 0, .int 0, .int 0, .int 0, .int 0, .int 0, .int 0, .int 0, .ref q_1, .ref q_2, .ref q_3, .ref q_4, .ref q_5, .ref q_6, .ref q_7])), (q_7, .inr (7, [.ref rq_8, .int 0])), (rq_8, .inl (rc_8, 101, .inl (fun _ => 0)))] := hD
  have hP := hP.sub (ws' := [(h0, .inr (1, [.int 0, .int 0, .int 0, .int 0, .int 0, .int 0, .int 0, .int 0, .int 0, .int 0, .int 0, .ref q_1, .ref q_2, .ref q_3, .ref q_4, .ref q_5, .ref q_6, .ref q_7]))]) [0] rfl
  have hD := hD.sub (ws' := [(h0, .inr (1, [.int 0, .int 0, .int 0, .int 0, .int 0, .int 0, .int 0, .int 0, .int 0, .int 0, .int 0, .ref q_1, .ref q_2, .ref q_3, .ref q_4, .ref q_5, .ref q_6, .ref q_7]))]) [0] (by decide) rfl
  have hK := hK.sub (tys' := []) [] rfl
  have hP9 := hP.sub (ws' := [(h0, .inr (1, [.int 0, .int 0, .int 0, .int 0, .int 0, .int 0, .int 0, .int 0, .int 0, .int 0, .int 0, .ref q_1, .ref q_2, .ref q_3, .ref q_4, .ref q_5, .ref q_6, .ref q_7]))]) [0] rfl
  have hD9 := hD.sub (ws' := [(h0, .inr (1, [.int 0, .int 0, .int 0, .int 0, .int 0, .int 0, .int 0, .int 0, .int 0, .int 0, .int 0, .ref q_1, .ref q_2, .ref q_3, .ref q_4, .ref q_5, .ref q_6, .ref q_7]))]) [0] (by decide) rfl
  have hK9 := hK.sub (tys' := []) [] rfl
  exact W.vret hx hb hr (fun t ht hW => ⟨⟨(), rfl, trivial, _, by rw [ht]; exact hP9, va_K.moved hW.alike hK9, hD9⟩, hS.F ht⟩) hS.2.2 dX1_init_63
end
section
set_option maxHeartbeats 4000000 in
set_option maxRecDepth 100000 in
/-- Table(id): no game yet -/
theorem c_Table_init (l : Launch) (dC : Nat → ClassId) (dI : Nat → Nat → Nat) (h0 sz : Nat) (i : Int32) : Met l yX9_init wsX9_init ({ frames := 3, cells := 28, slots := 549, locals := 81 }) (va_Pc [.ref h0, .int i] (fun U => U.heap.size = sz ∧ va_P (dC, dI) vwCl [(h0, .inr (8, [.int 0, .null, .int 0, .int 0, .int 0, .null, .null, .null, .null, .null, .null, .null, .null, .null]))] U.heap ∧ va_K (dC, dI) vwCl [] U ∧ va_D (fun _ => True) [(h0, .inr (8, [.int 0, .null, .int 0, .int 0, .int 0, .null, .null, .null, .null, .null, .null, .null, .null, .null]))] ∧ va_AO RX8 U ∧ va_Nw (.methodLinkNest RX9 46 yX1_init RX11) U)) (va_Qv (fun _ : Unit => True) (fun _ t => ∃ fs : List Value, fs[1]? = some .null ∧ va_P (dC, dI) vwCl [(h0, .inr (8, fs))] t.heap ∧ va_K (dC, dI) vwCl [] t ∧ va_D (va_A [(h0, .inr (8, [.int 0, .null, .int 0, .int 0, .int 0, .null, .null, .null, .null, .null, .null, .null, .null, .null]))] sz) [(h0, .inr (8, fs))]) (va_A [(h0, .inr (8, [.int 0, .null, .int 0, .int 0, .int 0, .null, .null, .null, .null, .null, .null, .null, .null, .null]))] sz)) 28 549 (va_A [(h0, .inr (8, [.int 0, .null, .int 0, .int 0, .int 0, .null, .null, .null, .null, .null, .null, .null, .null, .null]))] sz) := by
  refine Met.ofW (cc := cX9_init) (maxL := 3) (ret := none) (by decide) rfl ?_
  intro p e s m args below meth c s₁ B hml hv
  obtain ⟨rfl, hsz, hP, hK, hD0, hAO_RX8, hN46⟩ := hv
  have hx := B.exec
  have hb := B.bytes
  have hr := B.returns
  have hts := atoms_spec (ws := wsX9_init) B.pre
  have hown : s.vm.findClass RX9 = some m.cls := findClass_of_methodNamed B.named
  have hlocks := B.notSynchronized
  have hin : meth.name = "<init>" := (name_of_methodNamed B.named B.method).1
  subst hsz
  have hD := hD0.self (sz := s.heap.size)
  generalize hAe : va_A [(h0, .inr (8, [.int 0, .null, .int 0, .int 0, .int 0, .null, .null, .null, .null, .null, .null, .null, .null, .null]))] s.heap.size = A at hD ⊢
  have hA : ∀ q : Nat, s.heap.size ≤ q → A q := fun q h => by rw [← hAe]; exact Or.inr h
  have hS : va_S A s.heap s.heap [] := va_S.rf
  have hP : va_P (dC, dI) vwCl [(h0, .inr (8, [.int 0, .null, .int 0, .int 0, .int 0, .null, .null, .null, .null, .null, .null, .null, .null, .null]))] s.heap := hP
  have hl := lv_entry ([.ref h0, .int i]) (n := 3) (Nat.le_of_ble_eq_true rfl)
  rw [lg_entry_eq]
  generalize (lg_sl ([.ref h0, .int i]) ++ List.replicate (3 - (lg_sl ([.ref h0, .int i])).length) Slot.unset).toArray = ls at hl ⊢
  have hl : lv_has ls 3 [(0, .ref h0), (1, .int i)] := hl
  refine lv_aload_n hx hb dX9_init_0 rfl (lv_at hl 0 rfl) ?_
  refine W.objInit hx hb hown (hts (.methodLink RX9 3 objectInit) (List.mem_of_getElem? (l := wsX9_init) (i := 1) rfl)) (hts (.instanceMethod objectInit) (List.mem_of_getElem? (l := wsX9_init) (i := 2) rfl)) (hts (.code objectInit ⟨#[0xb1]⟩ 1 none) (List.mem_of_getElem? (l := wsX9_init) (i := 3) rfl)) rfl (by rw [hml]; exact hl.1) rfl dX9_init_1 (Nat.le_of_ble_eq_true rfl) (Nat.le_of_ble_eq_true rfl) ?_
  refine W.eq (g2 := F0 m 4 ls []) rfl ?_
  refine lv_aload_n hx hb dX9_init_4 rfl (lv_at hl 0 rfl) ?_
  refine lv_bipush (v := 60) hx hb dX9_init_5 (by decide) ?_
  refine va_newa (atype := .int) (a0 := (60, .inl (fun _ => 0))) (N' := 60) (ty := .int) hx hb (hts (.arrayClass .int) (List.mem_of_getElem? (l := wsX9_init) (i := 4) rfl)) rfl hK hP hD hS hA (fun _ => rfl) (by decide +kernel) (by decide +kernel) (by decide +kernel) (Nat.le_of_ble_eq_true rfl) (Nat.le_of_ble_eq_true rfl) dX9_init_7 (fun q_1 cA_1 H hK hP hD hS => ?_)
  have hP : va_P (dC, dI) vwCl [(h0, .inr (8, [.int 0, .null, .int 0, .int 0, .int 0, .null, .null, .null, .null, .null, .null, .null, .null, .null])), (q_1, .inl (cA_1, 60, .inl (fun _ => 0)))] H := hP
  have hD : va_D A [(h0, .inr (8, [.int 0, .null, .int 0, .int 0, .int 0, .null, .null, .null, .null, .null, .null, .null, .null, .null])), (q_1, .inl (cA_1, 60, .inl (fun _ => 0)))] := hD
  have hK : va_K (dC, dI) vwCl [(cA_1, .int)] s := hK
  refine W.widen (k := 1) (n := 60) (by omega) (by omega) ?_
  refine va_putF (D := (dC, dI)) (ci := 8) (v := .ref q_1) (ty := .array .int) (C := RX9) (T := TX9) (N := 14) hx hb hts (by decide +kernel) tyX9 tyX9_ok nmX9 hown hK hP hD hS 0 rfl rfl 5 (by decide) (hts (.fieldLink RX9 9 "CardTables$Table" "colours" "[I") (List.mem_of_getElem? (l := wsX9_init) (i := 5) rfl)) (fun _ h9 => h9) rfl hin rfl (by decide +kernel) rfl rfl (Nat.le_of_ble_eq_true rfl) dX9_init_9 (fun H locs hP hD hS => ?_)
  have hP : va_P (dC, dI) vwCl [(h0, .inr (8, [.int 0, .null, .int 0, .int 0, .int 0, .ref q_1, .null, .null, .null, .null, .null, .null, .null, .null])), (q_1, .inl (cA_1, 60, .inl (fun _ => 0)))] H := hP
  have hD : va_D A [(h0, .inr (8, [.int 0, .null, .int 0, .int 0, .int 0, .ref q_1, .null, .null, .null, .null, .null, .null, .null, .null])), (q_1, .inl (cA_1, 60, .inl (fun _ => 0)))] := hD
  have hP := hP.sub (ws' := [(h0, .inr (8, [.int 0, .null, .int 0, .int 0, .int 0, .ref q_1, .null, .null, .null, .null, .null, .null, .null, .null]))]) [0] rfl
  have hD := hD.sub (ws' := [(h0, .inr (8, [.int 0, .null, .int 0, .int 0, .int 0, .ref q_1, .null, .null, .null, .null, .null, .null, .null, .null]))]) [0] (by decide) rfl
  have hK := hK.sub (tys' := []) [] rfl
  refine lv_aload_n hx hb dX9_init_12 rfl (lv_at hl 0 rfl) ?_
  refine lv_bipush (v := 60) hx hb dX9_init_13 (by decide) ?_
  refine va_newa (atype := .int) (a0 := (60, .inl (fun _ => 0))) (N' := 60) (ty := .int) hx hb (hts (.arrayClass .int) (List.mem_of_getElem? (l := wsX9_init) (i := 4) rfl)) rfl hK hP hD hS hA (fun _ => rfl) (by decide +kernel) (by decide +kernel) (by decide +kernel) (Nat.le_of_ble_eq_true rfl) (Nat.le_of_ble_eq_true rfl) dX9_init_15 (fun q_2 cA_2 H hK hP hD hS => ?_)
  have hP : va_P (dC, dI) vwCl [(h0, .inr (8, [.int 0, .null, .int 0, .int 0, .int 0, .ref q_1, .null, .null, .null, .null, .null, .null, .null, .null])), (q_2, .inl (cA_2, 60, .inl (fun _ => 0)))] H := hP
  have hD : va_D A [(h0, .inr (8, [.int 0, .null, .int 0, .int 0, .int 0, .ref q_1, .null, .null, .null, .null, .null, .null, .null, .null])), (q_2, .inl (cA_2, 60, .inl (fun _ => 0)))] := hD
  have hK : va_K (dC, dI) vwCl [(cA_2, .int)] s := hK
  refine W.widen (k := 2) (n := 120) (by omega) (by omega) ?_
  refine va_putF (D := (dC, dI)) (ci := 8) (v := .ref q_2) (ty := .array .int) (C := RX9) (T := TX9) (N := 14) hx hb hts (by decide +kernel) tyX9 tyX9_ok nmX9 hown hK hP hD hS 0 rfl rfl 6 (by decide) (hts (.fieldLink RX9 15 "CardTables$Table" "places" "[I") (List.mem_of_getElem? (l := wsX9_init) (i := 6) rfl)) (fun _ h9 => h9) rfl hin rfl (by decide +kernel) rfl rfl (Nat.le_of_ble_eq_true rfl) dX9_init_17 (fun H locs hP hD hS => ?_)
  have hP : va_P (dC, dI) vwCl [(h0, .inr (8, [.int 0, .null, .int 0, .int 0, .int 0, .ref q_1, .ref q_2, .null, .null, .null, .null, .null, .null, .null])), (q_2, .inl (cA_2, 60, .inl (fun _ => 0)))] H := hP
  have hD : va_D A [(h0, .inr (8, [.int 0, .null, .int 0, .int 0, .int 0, .ref q_1, .ref q_2, .null, .null, .null, .null, .null, .null, .null])), (q_2, .inl (cA_2, 60, .inl (fun _ => 0)))] := hD
  have hP := hP.sub (ws' := [(h0, .inr (8, [.int 0, .null, .int 0, .int 0, .int 0, .ref q_1, .ref q_2, .null, .null, .null, .null, .null, .null, .null]))]) [0] rfl
  have hD := hD.sub (ws' := [(h0, .inr (8, [.int 0, .null, .int 0, .int 0, .int 0, .ref q_1, .ref q_2, .null, .null, .null, .null, .null, .null, .null]))]) [0] (by decide) rfl
  have hK := hK.sub (tys' := []) [] rfl
  refine lv_aload_n hx hb dX9_init_20 rfl (lv_at hl 0 rfl) ?_
  refine lv_iconst (v := 4) hx hb dX9_init_21 (by decide) ?_
  refine va_newa (atype := .boolean) (a0 := (4, .inl (fun _ => 0))) (N' := 4) (ty := .boolean) hx hb (hts (.arrayClass .boolean) (List.mem_of_getElem? (l := wsX9_init) (i := 7) rfl)) rfl hK hP hD hS hA (fun _ => rfl) (by decide +kernel) (by decide +kernel) (by decide +kernel) (Nat.le_of_ble_eq_true rfl) (Nat.le_of_ble_eq_true rfl) dX9_init_22 (fun q_3 cA_3 H hK hP hD hS => ?_)
  have hP : va_P (dC, dI) vwCl [(h0, .inr (8, [.int 0, .null, .int 0, .int 0, .int 0, .ref q_1, .ref q_2, .null, .null, .null, .null, .null, .null, .null])), (q_3, .inl (cA_3, 4, .inl (fun _ => 0)))] H := hP
  have hD : va_D A [(h0, .inr (8, [.int 0, .null, .int 0, .int 0, .int 0, .ref q_1, .ref q_2, .null, .null, .null, .null, .null, .null, .null])), (q_3, .inl (cA_3, 4, .inl (fun _ => 0)))] := hD
  have hK : va_K (dC, dI) vwCl [(cA_3, .boolean)] s := hK
  refine W.widen (k := 3) (n := 124) (by omega) (by omega) ?_
  refine va_putF (D := (dC, dI)) (ci := 8) (v := .ref q_3) (ty := .array .boolean) (C := RX9) (T := TX9) (N := 14) hx hb hts (by decide +kernel) tyX9 tyX9_ok nmX9 hown hK hP hD hS 0 rfl rfl 7 (by decide) (hts (.fieldLink RX9 18 "CardTables$Table" "taken" "[Z") (List.mem_of_getElem? (l := wsX9_init) (i := 8) rfl)) (fun _ h9 => h9) rfl hin rfl (by decide +kernel) rfl rfl (Nat.le_of_ble_eq_true rfl) dX9_init_24 (fun H locs hP hD hS => ?_)
  have hP : va_P (dC, dI) vwCl [(h0, .inr (8, [.int 0, .null, .int 0, .int 0, .int 0, .ref q_1, .ref q_2, .ref q_3, .null, .null, .null, .null, .null, .null])), (q_3, .inl (cA_3, 4, .inl (fun _ => 0)))] H := hP
  have hD : va_D A [(h0, .inr (8, [.int 0, .null, .int 0, .int 0, .int 0, .ref q_1, .ref q_2, .ref q_3, .null, .null, .null, .null, .null, .null])), (q_3, .inl (cA_3, 4, .inl (fun _ => 0)))] := hD
  have hP := hP.sub (ws' := [(h0, .inr (8, [.int 0, .null, .int 0, .int 0, .int 0, .ref q_1, .ref q_2, .ref q_3, .null, .null, .null, .null, .null, .null]))]) [0] rfl
  have hD := hD.sub (ws' := [(h0, .inr (8, [.int 0, .null, .int 0, .int 0, .int 0, .ref q_1, .ref q_2, .ref q_3, .null, .null, .null, .null, .null, .null]))]) [0] (by decide) rfl
  have hK := hK.sub (tys' := []) [] rfl
  refine lv_aload_n hx hb dX9_init_27 rfl (lv_at hl 0 rfl) ?_
  refine lv_iconst (v := 4) hx hb dX9_init_28 (by decide) ?_
  refine va_newa (atype := .int) (a0 := (4, .inl (fun _ => 0))) (N' := 4) (ty := .int) hx hb (hts (.arrayClass .int) (List.mem_of_getElem? (l := wsX9_init) (i := 4) rfl)) rfl hK hP hD hS hA (fun _ => rfl) (by decide +kernel) (by decide +kernel) (by decide +kernel) (Nat.le_of_ble_eq_true rfl) (Nat.le_of_ble_eq_true rfl) dX9_init_29 (fun q_4 cA_4 H hK hP hD hS => ?_)
  have hP : va_P (dC, dI) vwCl [(h0, .inr (8, [.int 0, .null, .int 0, .int 0, .int 0, .ref q_1, .ref q_2, .ref q_3, .null, .null, .null, .null, .null, .null])), (q_4, .inl (cA_4, 4, .inl (fun _ => 0)))] H := hP
  have hD : va_D A [(h0, .inr (8, [.int 0, .null, .int 0, .int 0, .int 0, .ref q_1, .ref q_2, .ref q_3, .null, .null, .null, .null, .null, .null])), (q_4, .inl (cA_4, 4, .inl (fun _ => 0)))] := hD
  have hK : va_K (dC, dI) vwCl [(cA_4, .int)] s := hK
  refine W.widen (k := 4) (n := 128) (by omega) (by omega) ?_
  refine va_putF (D := (dC, dI)) (ci := 8) (v := .ref q_4) (ty := .array .int) (C := RX9) (T := TX9) (N := 14) hx hb hts (by decide +kernel) tyX9 tyX9_ok nmX9 hown hK hP hD hS 0 rfl rfl 8 (by decide) (hts (.fieldLink RX9 22 "CardTables$Table" "sums" "[I") (List.mem_of_getElem? (l := wsX9_init) (i := 9) rfl)) (fun _ h9 => h9) rfl hin rfl (by decide +kernel) rfl rfl (Nat.le_of_ble_eq_true rfl) dX9_init_31 (fun H locs hP hD hS => ?_)
  have hP : va_P (dC, dI) vwCl [(h0, .inr (8, [.int 0, .null, .int 0, .int 0, .int 0, .ref q_1, .ref q_2, .ref q_3, .ref q_4, .null, .null, .null, .null, .null])), (q_4, .inl (cA_4, 4, .inl (fun _ => 0)))] H := hP
  have hD : va_D A [(h0, .inr (8, [.int 0, .null, .int 0, .int 0, .int 0, .ref q_1, .ref q_2, .ref q_3, .ref q_4, .null, .null, .null, .null, .null])), (q_4, .inl (cA_4, 4, .inl (fun _ => 0)))] := hD
  have hP := hP.sub (ws' := [(h0, .inr (8, [.int 0, .null, .int 0, .int 0, .int 0, .ref q_1, .ref q_2, .ref q_3, .ref q_4, .null, .null, .null, .null, .null]))]) [0] rfl
  have hD := hD.sub (ws' := [(h0, .inr (8, [.int 0, .null, .int 0, .int 0, .int 0, .ref q_1, .ref q_2, .ref q_3, .ref q_4, .null, .null, .null, .null, .null]))]) [0] (by decide) rfl
  have hK := hK.sub (tys' := []) [] rfl
  refine lv_aload_n hx hb dX9_init_34 rfl (lv_at hl 0 rfl) ?_
  refine va_new (ci := 7) (fs := [.null, .int 0]) (C := RX8) (T := TX8) (N := 2) hx hb hts (by decide +kernel) tyX8 tyX8_ok hown (hts (.classLink RX9 25 RX8) (List.mem_of_getElem? (l := wsX9_init) (i := 10) rfl)) (hts (.instantiable RX8 2) (List.mem_of_getElem? (l := wsX9_init) (i := 11) rfl)) (hts (.initialized RX8) (List.mem_of_getElem? (l := wsX9_init) (i := 12) rfl)) hK hP hD hS hA rfl (fun j hj => by rcases (show j = 0 ∨ j = 1 by omega) with rfl | rfl <;> rfl) (Nat.le_of_ble_eq_true rfl) (Nat.le_of_ble_eq_true rfl) dX9_init_35 (fun q_5 H hP hD hS => ?_)
  have hP : va_P (dC, dI) vwCl [(h0, .inr (8, [.int 0, .null, .int 0, .int 0, .int 0, .ref q_1, .ref q_2, .ref q_3, .ref q_4, .null, .null, .null, .null, .null])), (q_5, .inr (7, [.null, .int 0]))] H := hP
  have hD : va_D A [(h0, .inr (8, [.int 0, .null, .int 0, .int 0, .int 0, .ref q_1, .ref q_2, .ref q_3, .ref q_4, .null, .null, .null, .null, .null])), (q_5, .inr (7, [.null, .int 0]))] := hD
  refine W.widen (k := 5) (n := 130) (by omega) (by omega) ?_
  refine lv_dup hx hb dX9_init_38 rfl ?_
  refine lv_bipush (v := 60) hx hb dX9_init_39 (by decide) ?_
  have hPc := hP.sub (ws' := [(q_5, .inr (7, [.null, .int 0]))]) [1] rfl
  have hDc := hD.sub (ws' := [(q_5, .inr (7, [.null, .int 0]))]) [1] (by decide) rfl
  have hKc := hK.sub (tys' := []) [] rfl
  have hFc := va_free (wc := [(q_5, .inr (7, [.null, .int 0]))]) hD hS hA [1] rfl
  refine va_callv (va_runI (As := [.int 60]) (rest := [.ref q_5, .ref h0]) ⟨hx, hb, hml, hown, hts⟩ (c_Row_init l dC dI q_5 H.size 60 60 (by decide +kernel) (by decide +kernel) (by decide +kernel) (by decide +kernel)) (cwI 1 hts gX9_init_X8_init rfl rfl rfl (hts (.initialized RX8) (List.mem_of_getElem? (l := wsX9_init) (i := 12) rfl)) (hts (.methodLink RX9 27 yX8_init) (List.mem_of_getElem? (l := wsX9_init) (i := 22) rfl)) (hts (.instanceMethod yX8_init) (List.mem_of_getElem? (l := wsX9_init) (i := 23) rfl)) rfl (by decide +kernel) ⟨Nat.le_of_ble_eq_true rfl, Nat.le_of_ble_eq_true rfl⟩) ⟨fun a U g mk q => by obtain ⟨q0, q1, qP, qK, qD⟩ := q; exact ⟨q0, q1, qP, va_K.moved (u := U) (U := U.calling g mk a) (Vm.Alike.refl U.vm) qK, qD⟩, fun U hU hW => ⟨rfl, by rw [hU], by rw [hU]; exact hPc, va_K.moved hW.alike hKc, hDc.weaken (fun _ _ _ _ => trivial)⟩⟩ rfl rfl hl.1 rfl (lv_room (Nat.le_of_ble_eq_true rfl)) dX9_init_41 ⟨Nat.le_of_ble_eq_true rfl, Nat.le_of_ble_eq_true rfl⟩) hS (fun q _ h => hFc q h) hFc (fun u t H1 locs ht hvm hw hB hz1 hk1 hS => ?_)
  obtain ⟨rq_6, rc_6, hP1, hK1, hD1⟩ := hB
  rw [ht] at hP1
  have hK1 := va_K.moved hvm.symm hK1
  obtain ⟨hP, hD⟩ := va_join (wr := [(h0, .inr (8, [.int 0, .null, .int 0, .int 0, .int 0, .ref q_1, .ref q_2, .ref q_3, .ref q_4, .null, .null, .null, .null, .null]))]) (w1 := [(q_5, .inr (7, [.ref rq_6, .int 0])), (rq_6, .inl (rc_6, 60, .inl (fun _ => 0)))]) hP hD [1] [0] rfl rfl (by decide) (by decide) hk1 hFc hP1 hD1
  have hK := (hK.sub (tys' := []) [] rfl).app hK1
  generalize H1 = H at hP hS ⊢
  have hP : va_P (dC, dI) vwCl [(h0, .inr (8, [.int 0, .null, .int 0, .int 0, .int 0, .ref q_1, .ref q_2, .ref q_3, .ref q_4, .null, .null, .null, .null, .null])), (q_5, .inr (7, [.ref rq_6, .int 0])), (rq_6, .inl (rc_6, 60, .inl (fun _ => 0)))] H := hP
  have hD : va_D A [(h0, .inr (8, [.int 0, .null, .int 0, .int 0, .int 0, .ref q_1, .ref q_2, .ref q_3, .ref q_4, .null, .null, .null, .null, .null])), (q_5, .inr (7, [.ref rq_6, .int 0])), (rq_6, .inl (rc_6, 60, .inl (fun _ => 0)))] := hD
  have hK : va_K (dC, dI) vwCl [(rc_6, .int)] s := hK
  refine W.widen (k := 6) (n := 190) (by omega) (by omega) ?_
  refine va_putF (D := (dC, dI)) (ci := 8) (v := .ref q_5) (ty := .object "CardTables$Row") (C := RX9) (T := TX9) (N := 14) hx hb hts (by decide +kernel) tyX9 tyX9_ok nmX9 hown hK hP hD hS 0 rfl rfl 9 (by decide) (hts (.fieldLink RX9 30 "CardTables$Table" "rest" "LCardTables$Row;") (List.mem_of_getElem? (l := wsX9_init) (i := 13) rfl)) (fun _ h9 => h9) rfl hin rfl (by decide +kernel) rfl rfl (Nat.le_of_ble_eq_true rfl) dX9_init_44 (fun H locs hP hD hS => ?_)
  have hP : va_P (dC, dI) vwCl [(h0, .inr (8, [.int 0, .null, .int 0, .int 0, .int 0, .ref q_1, .ref q_2, .ref q_3, .ref q_4, .ref q_5, .null, .null, .null, .null])), (q_5, .inr (7, [.ref rq_6, .int 0])), (rq_6, .inl (rc_6, 60, .inl (fun _ => 0)))] H := hP
  have hD : va_D A [(h0, .inr (8, [.int 0, .null, .int 0, .int 0, .int 0, .ref q_1, .ref q_2, .ref q_3, .ref q_4, .ref q_5, .null, .null, .null, .null])), (q_5, .inr (7, [.ref rq_6, .int 0])), (rq_6, .inl (rc_6, 60, .inl (fun _ => 0)))] := hD
  have hP := hP.sub (ws' := [(h0, .inr (8, [.int 0, .null, .int 0, .int 0, .int 0, .ref q_1, .ref q_2, .ref q_3, .ref q_4, .ref q_5, .null, .null, .null, .null]))]) [0] rfl
  have hD := hD.sub (ws' := [(h0, .inr (8, [.int 0, .null, .int 0, .int 0, .int 0, .ref q_1, .ref q_2, .ref q_3, .ref q_4, .ref q_5, .null, .null, .null, .null]))]) [0] (by decide) rfl
  have hK := hK.sub (tys' := []) [] rfl
  refine lv_aload_n hx hb dX9_init_47 rfl (lv_at hl 0 rfl) ?_
  refine va_new (ci := 7) (fs := [.null, .int 0]) (C := RX8) (T := TX8) (N := 2) hx hb hts (by decide +kernel) tyX8 tyX8_ok hown (hts (.classLink RX9 25 RX8) (List.mem_of_getElem? (l := wsX9_init) (i := 10) rfl)) (hts (.instantiable RX8 2) (List.mem_of_getElem? (l := wsX9_init) (i := 11) rfl)) (hts (.initialized RX8) (List.mem_of_getElem? (l := wsX9_init) (i := 12) rfl)) hK hP hD hS hA rfl (fun j hj => by rcases (show j = 0 ∨ j = 1 by omega) with rfl | rfl <;> rfl) (Nat.le_of_ble_eq_true rfl) (Nat.le_of_ble_eq_true rfl) dX9_init_48 (fun q_7 H hP hD hS => ?_)
  have hP : va_P (dC, dI) vwCl [(h0, .inr (8, [.int 0, .null, .int 0, .int 0, .int 0, .ref q_1, .ref q_2, .ref q_3, .ref q_4, .ref q_5, .null, .null, .null, .null])), (q_7, .inr (7, [.null, .int 0]))] H := hP
  have hD : va_D A [(h0, .inr (8, [.int 0, .null, .int 0, .int 0, .int 0, .ref q_1, .ref q_2, .ref q_3, .ref q_4, .ref q_5, .null, .null, .null, .null])), (q_7, .inr (7, [.null, .int 0]))] := hD
  refine W.widen (k := 7) (n := 192) (by omega) (by omega) ?_
  refine lv_dup hx hb dX9_init_51 rfl ?_
  refine lv_iconst (v := 4) hx hb dX9_init_52 (by decide) ?_
  have hPc := hP.sub (ws' := [(q_7, .inr (7, [.null, .int 0]))]) [1] rfl
  have hDc := hD.sub (ws' := [(q_7, .inr (7, [.null, .int 0]))]) [1] (by decide) rfl
  have hKc := hK.sub (tys' := []) [] rfl
  have hFc := va_free (wc := [(q_7, .inr (7, [.null, .int 0]))]) hD hS hA [1] rfl
  refine va_callv (va_runI (As := [.int 4]) (rest := [.ref q_7, .ref h0]) ⟨hx, hb, hml, hown, hts⟩ (c_Row_init l dC dI q_7 H.size 4 4 (by decide +kernel) (by decide +kernel) (by decide +kernel) (by decide +kernel)) (cwI 1 hts gX9_init_X8_init rfl rfl rfl (hts (.initialized RX8) (List.mem_of_getElem? (l := wsX9_init) (i := 12) rfl)) (hts (.methodLink RX9 27 yX8_init) (List.mem_of_getElem? (l := wsX9_init) (i := 22) rfl)) (hts (.instanceMethod yX8_init) (List.mem_of_getElem? (l := wsX9_init) (i := 23) rfl)) rfl (by decide +kernel) ⟨Nat.le_of_ble_eq_true rfl, Nat.le_of_ble_eq_true rfl⟩) ⟨fun a U g mk q => by obtain ⟨q0, q1, qP, qK, qD⟩ := q; exact ⟨q0, q1, qP, va_K.moved (u := U) (U := U.calling g mk a) (Vm.Alike.refl U.vm) qK, qD⟩, fun U hU hW => ⟨rfl, by rw [hU], by rw [hU]; exact hPc, va_K.moved hW.alike hKc, hDc.weaken (fun _ _ _ _ => trivial)⟩⟩ rfl rfl hl.1 rfl (lv_room (Nat.le_of_ble_eq_true rfl)) dX9_init_53 ⟨Nat.le_of_ble_eq_true rfl, Nat.le_of_ble_eq_true rfl⟩) hS (fun q _ h => hFc q h) hFc (fun u t H1 locs ht hvm hw hB hz1 hk1 hS => ?_)
  obtain ⟨rq_8, rc_8, hP1, hK1, hD1⟩ := hB
  rw [ht] at hP1
  have hK1 := va_K.moved hvm.symm hK1
  obtain ⟨hP, hD⟩ := va_join (wr := [(h0, .inr (8, [.int 0, .null, .int 0, .int 0, .int 0, .ref q_1, .ref q_2, .ref q_3, .ref q_4, .ref q_5, .null, .null, .null, .null]))]) (w1 := [(q_7, .inr (7, [.ref rq_8, .int 0])), (rq_8, .inl (rc_8, 4, .inl (fun _ => 0)))]) hP hD [1] [0] rfl rfl (by decide) (by decide) hk1 hFc hP1 hD1
  have hK := (hK.sub (tys' := []) [] rfl).app hK1
  generalize H1 = H at hP hS ⊢
  have hP : va_P (dC, dI) vwCl [(h0, .inr (8, [.int 0, .null, .int 0, .int 0, .int 0, .ref q_1, .ref q_2, .ref q_3, .ref q_4, .ref q_5, .null, .null, .null, .null])), (q_7, .inr (7, [.ref rq_8, .int 0])), (rq_8, .inl (rc_8, 4, .inl (fun _ => 0)))] H := hP
  have hD : va_D A [(h0, .inr (8, [.int 0, .null, .int 0, .int 0, .int 0, .ref q_1, .ref q_2, .ref q_3, .ref q_4, .ref q_5, .null, .null, .null, .null])), (q_7, .inr (7, [.ref rq_8, .int 0])), (rq_8, .inl (rc_8, 4, .inl (fun _ => 0)))] := hD
  have hK : va_K (dC, dI) vwCl [(rc_8, .int)] s := hK
  refine W.widen (k := 8) (n := 196) (by omega) (by omega) ?_
  refine va_putF (D := (dC, dI)) (ci := 8) (v := .ref q_7) (ty := .object "CardTables$Row") (C := RX9) (T := TX9) (N := 14) hx hb hts (by decide +kernel) tyX9 tyX9_ok nmX9 hown hK hP hD hS 0 rfl rfl 10 (by decide) (hts (.fieldLink RX9 34 "CardTables$Table" "trick" "LCardTables$Row;") (List.mem_of_getElem? (l := wsX9_init) (i := 14) rfl)) (fun _ h9 => h9) rfl hin rfl (by decide +kernel) rfl rfl (Nat.le_of_ble_eq_true rfl) dX9_init_56 (fun H locs hP hD hS => ?_)
  have hP : va_P (dC, dI) vwCl [(h0, .inr (8, [.int 0, .null, .int 0, .int 0, .int 0, .ref q_1, .ref q_2, .ref q_3, .ref q_4, .ref q_5, .ref q_7, .null, .null, .null])), (q_7, .inr (7, [.ref rq_8, .int 0])), (rq_8, .inl (rc_8, 4, .inl (fun _ => 0)))] H := hP
  have hD : va_D A [(h0, .inr (8, [.int 0, .null, .int 0, .int 0, .int 0, .ref q_1, .ref q_2, .ref q_3, .ref q_4, .ref q_5, .ref q_7, .null, .null, .null])), (q_7, .inr (7, [.ref rq_8, .int 0])), (rq_8, .inl (rc_8, 4, .inl (fun _ => 0)))] := hD
  have hP := hP.sub (ws' := [(h0, .inr (8, [.int 0, .null, .int 0, .int 0, .int 0, .ref q_1, .ref q_2, .ref q_3, .ref q_4, .ref q_5, .ref q_7, .null, .null, .null]))]) [0] rfl
  have hD := hD.sub (ws' := [(h0, .inr (8, [.int 0, .null, .int 0, .int 0, .int 0, .ref q_1, .ref q_2, .ref q_3, .ref q_4, .ref q_5, .ref q_7, .null, .null, .null]))]) [0] (by decide) rfl
  have hK := hK.sub (tys' := []) [] rfl
  refine lv_aload_n hx hb dX9_init_59 rfl (lv_at hl 0 rfl) ?_
  refine va_new (ci := 7) (fs := [.null, .int 0]) (C := RX8) (T := TX8) (N := 2) hx hb hts (by decide +kernel) tyX8 tyX8_ok hown (hts (.classLink RX9 25 RX8) (List.mem_of_getElem? (l := wsX9_init) (i := 10) rfl)) (hts (.instantiable RX8 2) (List.mem_of_getElem? (l := wsX9_init) (i := 11) rfl)) (hts (.initialized RX8) (List.mem_of_getElem? (l := wsX9_init) (i := 12) rfl)) hK hP hD hS hA rfl (fun j hj => by rcases (show j = 0 ∨ j = 1 by omega) with rfl | rfl <;> rfl) (Nat.le_of_ble_eq_true rfl) (Nat.le_of_ble_eq_true rfl) dX9_init_60 (fun q_9 H hP hD hS => ?_)
  have hP : va_P (dC, dI) vwCl [(h0, .inr (8, [.int 0, .null, .int 0, .int 0, .int 0, .ref q_1, .ref q_2, .ref q_3, .ref q_4, .ref q_5, .ref q_7, .null, .null, .null])), (q_9, .inr (7, [.null, .int 0]))] H := hP
  have hD : va_D A [(h0, .inr (8, [.int 0, .null, .int 0, .int 0, .int 0, .ref q_1, .ref q_2, .ref q_3, .ref q_4, .ref q_5, .ref q_7, .null, .null, .null])), (q_9, .inr (7, [.null, .int 0]))] := hD
  refine W.widen (k := 9) (n := 198) (by omega) (by omega) ?_
  refine lv_dup hx hb dX9_init_63 rfl ?_
  refine lv_iconst (v := 4) hx hb dX9_init_64 (by decide) ?_
  have hPc := hP.sub (ws' := [(q_9, .inr (7, [.null, .int 0]))]) [1] rfl
  have hDc := hD.sub (ws' := [(q_9, .inr (7, [.null, .int 0]))]) [1] (by decide) rfl
  have hKc := hK.sub (tys' := []) [] rfl
  have hFc := va_free (wc := [(q_9, .inr (7, [.null, .int 0]))]) hD hS hA [1] rfl
  refine va_callv (va_runI (As := [.int 4]) (rest := [.ref q_9, .ref h0]) ⟨hx, hb, hml, hown, hts⟩ (c_Row_init l dC dI q_9 H.size 4 4 (by decide +kernel) (by decide +kernel) (by decide +kernel) (by decide +kernel)) (cwI 1 hts gX9_init_X8_init rfl rfl rfl (hts (.initialized RX8) (List.mem_of_getElem? (l := wsX9_init) (i := 12) rfl)) (hts (.methodLink RX9 27 yX8_init) (List.mem_of_getElem? (l := wsX9_init) (i := 22) rfl)) (hts (.instanceMethod yX8_init) (List.mem_of_getElem? (l := wsX9_init) (i := 23) rfl)) rfl (by decide +kernel) ⟨Nat.le_of_ble_eq_true rfl, Nat.le_of_ble_eq_true rfl⟩) ⟨fun a U g mk q => by obtain ⟨q0, q1, qP, qK, qD⟩ := q; exact ⟨q0, q1, qP, va_K.moved (u := U) (U := U.calling g mk a) (Vm.Alike.refl U.vm) qK, qD⟩, fun U hU hW => ⟨rfl, by rw [hU], by rw [hU]; exact hPc, va_K.moved hW.alike hKc, hDc.weaken (fun _ _ _ _ => trivial)⟩⟩ rfl rfl hl.1 rfl (lv_room (Nat.le_of_ble_eq_true rfl)) dX9_init_65 ⟨Nat.le_of_ble_eq_true rfl, Nat.le_of_ble_eq_true rfl⟩) hS (fun q _ h => hFc q h) hFc (fun u t H1 locs ht hvm hw hB hz1 hk1 hS => ?_)
  obtain ⟨rq_10, rc_10, hP1, hK1, hD1⟩ := hB
  rw [ht] at hP1
  have hK1 := va_K.moved hvm.symm hK1
  obtain ⟨hP, hD⟩ := va_join (wr := [(h0, .inr (8, [.int 0, .null, .int 0, .int 0, .int 0, .ref q_1, .ref q_2, .ref q_3, .ref q_4, .ref q_5, .ref q_7, .null, .null, .null]))]) (w1 := [(q_9, .inr (7, [.ref rq_10, .int 0])), (rq_10, .inl (rc_10, 4, .inl (fun _ => 0)))]) hP hD [1] [0] rfl rfl (by decide) (by decide) hk1 hFc hP1 hD1
  have hK := (hK.sub (tys' := []) [] rfl).app hK1
  generalize H1 = H at hP hS ⊢
  have hP : va_P (dC, dI) vwCl [(h0, .inr (8, [.int 0, .null, .int 0, .int 0, .int 0, .ref q_1, .ref q_2, .ref q_3, .ref q_4, .ref q_5, .ref q_7, .null, .null, .null])), (q_9, .inr (7, [.ref rq_10, .int 0])), (rq_10, .inl (rc_10, 4, .inl (fun _ => 0)))] H := hP
  have hD : va_D A [(h0, .inr (8, [.int 0, .null, .int 0, .int 0, .int 0, .ref q_1, .ref q_2, .ref q_3, .ref q_4, .ref q_5, .ref q_7, .null, .null, .null])), (q_9, .inr (7, [.ref rq_10, .int 0])), (rq_10, .inl (rc_10, 4, .inl (fun _ => 0)))] := hD
  have hK : va_K (dC, dI) vwCl [(rc_10, .int)] s := hK
  refine W.widen (k := 10) (n := 202) (by omega) (by omega) ?_
  refine va_putF (D := (dC, dI)) (ci := 8) (v := .ref q_9) (ty := .object "CardTables$Row") (C := RX9) (T := TX9) (N := 14) hx hb hts (by decide +kernel) tyX9 tyX9_ok nmX9 hown hK hP hD hS 0 rfl rfl 11 (by decide) (hts (.fieldLink RX9 37 "CardTables$Table" "layers" "LCardTables$Row;") (List.mem_of_getElem? (l := wsX9_init) (i := 15) rfl)) (fun _ h9 => h9) rfl hin rfl (by decide +kernel) rfl rfl (Nat.le_of_ble_eq_true rfl) dX9_init_68 (fun H locs hP hD hS => ?_)
  have hP : va_P (dC, dI) vwCl [(h0, .inr (8, [.int 0, .null, .int 0, .int 0, .int 0, .ref q_1, .ref q_2, .ref q_3, .ref q_4, .ref q_5, .ref q_7, .ref q_9, .null, .null])), (q_9, .inr (7, [.ref rq_10, .int 0])), (rq_10, .inl (rc_10, 4, .inl (fun _ => 0)))] H := hP
  have hD : va_D A [(h0, .inr (8, [.int 0, .null, .int 0, .int 0, .int 0, .ref q_1, .ref q_2, .ref q_3, .ref q_4, .ref q_5, .ref q_7, .ref q_9, .null, .null])), (q_9, .inr (7, [.ref rq_10, .int 0])), (rq_10, .inl (rc_10, 4, .inl (fun _ => 0)))] := hD
  have hP := hP.sub (ws' := [(h0, .inr (8, [.int 0, .null, .int 0, .int 0, .int 0, .ref q_1, .ref q_2, .ref q_3, .ref q_4, .ref q_5, .ref q_7, .ref q_9, .null, .null]))]) [0] rfl
  have hD := hD.sub (ws' := [(h0, .inr (8, [.int 0, .null, .int 0, .int 0, .int 0, .ref q_1, .ref q_2, .ref q_3, .ref q_4, .ref q_5, .ref q_7, .ref q_9, .null, .null]))]) [0] (by decide) rfl
  have hK := hK.sub (tys' := []) [] rfl
  refine lv_aload_n hx hb dX9_init_71 rfl (lv_at hl 0 rfl) ?_
  refine lv_iconst (v := 4) hx hb dX9_init_72 (by decide) ?_
  refine va_newq (C := RX8) (N' := 4) hx hb hown (hts (.classLink RX9 25 RX8) (List.mem_of_getElem? (l := wsX9_init) (i := 10) rfl)) hAO_RX8 hK hP hD hS hA (by decide +kernel) (by decide +kernel) (by decide +kernel) (Nat.le_of_ble_eq_true rfl) (Nat.le_of_ble_eq_true rfl) dX9_init_73 (fun q_11 cA_11 H hK hP hD hS => ?_)
  have hP : va_P (dC, dI) vwCl [(h0, .inr (8, [.int 0, .null, .int 0, .int 0, .int 0, .ref q_1, .ref q_2, .ref q_3, .ref q_4, .ref q_5, .ref q_7, .ref q_9, .null, .null])), (q_11, .inl (cA_11, 4, .inr (.inr (.inr (.inr (fun _ => none))))))] H := hP
  have hD : va_D A [(h0, .inr (8, [.int 0, .null, .int 0, .int 0, .int 0, .ref q_1, .ref q_2, .ref q_3, .ref q_4, .ref q_5, .ref q_7, .ref q_9, .null, .null])), (q_11, .inl (cA_11, 4, .inr (.inr (.inr (.inr (fun _ => none))))))] := hD
  have hK : va_K (dC, dI) vwCl [(cA_11, .object RX8)] s := hK
  refine W.widen (k := 11) (n := 206) (by omega) (by omega) ?_
  refine va_putF (D := (dC, dI)) (ci := 8) (v := .ref q_11) (ty := .array (.object "CardTables$Row")) (C := RX9) (T := TX9) (N := 14) hx hb hts (by decide +kernel) tyX9 tyX9_ok nmX9 hown hK hP hD hS 0 rfl rfl 12 (by decide) (hts (.fieldLink RX9 40 "CardTables$Table" "hands" "[LCardTables$Row;") (List.mem_of_getElem? (l := wsX9_init) (i := 16) rfl)) (fun _ h9 => h9) rfl hin rfl (by decide +kernel) rfl rfl (Nat.le_of_ble_eq_true rfl) dX9_init_76 (fun H locs hP hD hS => ?_)
  have hP : va_P (dC, dI) vwCl [(h0, .inr (8, [.int 0, .null, .int 0, .int 0, .int 0, .ref q_1, .ref q_2, .ref q_3, .ref q_4, .ref q_5, .ref q_7, .ref q_9, .ref q_11, .null])), (q_11, .inl (cA_11, 4, .inr (.inr (.inr (.inr (fun _ => none))))))] H := hP
  have hD : va_D A [(h0, .inr (8, [.int 0, .null, .int 0, .int 0, .int 0, .ref q_1, .ref q_2, .ref q_3, .ref q_4, .ref q_5, .ref q_7, .ref q_9, .ref q_11, .null])), (q_11, .inl (cA_11, 4, .inr (.inr (.inr (.inr (fun _ => none))))))] := hD
  have hP := hP.sub (ws' := [(h0, .inr (8, [.int 0, .null, .int 0, .int 0, .int 0, .ref q_1, .ref q_2, .ref q_3, .ref q_4, .ref q_5, .ref q_7, .ref q_9, .ref q_11, .null])), (q_11, .inl (cA_11, 4, .inr (.inr (.inr (.inr (fun _ => none))))))]) [0, 1] rfl
  have hD := hD.sub (ws' := [(h0, .inr (8, [.int 0, .null, .int 0, .int 0, .int 0, .ref q_1, .ref q_2, .ref q_3, .ref q_4, .ref q_5, .ref q_7, .ref q_9, .ref q_11, .null])), (q_11, .inl (cA_11, 4, .inr (.inr (.inr (.inr (fun _ => none))))))]) [0, 1] (by decide) rfl
  have hK := hK.sub (tys' := [(cA_11, .object RX8)]) [0] rfl
  refine lv_aload_n hx hb dX9_init_79 rfl (lv_at hl 0 rfl) ?_
  refine va_new (ci := 1) (fs := [.int 0, .int 0, .int 0, .int 0, .int 0, .int 0, .int 0, .int 0, .int 0, .int 0, .int 0, .null, .null, .null, .null, .null, .null, .null]) (C := RX1) (T := TX1) (N := 18) hx hb hts (by decide +kernel) tyX1 tyX1_ok hown (hts (.classLink RX9 44 RX1) (List.mem_of_getElem? (l := wsX9_init) (i := 17) rfl)) (hts (.instantiable RX1 18) (List.mem_of_getElem? (l := wsX9_init) (i := 18) rfl)) (hts (.initialized RX1) (List.mem_of_getElem? (l := wsX9_init) (i := 19) rfl)) hK hP hD hS hA rfl (fun j hj => by rcases (show j = 0 ∨ j = 1 ∨ j = 2 ∨ j = 3 ∨ j = 4 ∨ j = 5 ∨ j = 6 ∨ j = 7 ∨ j = 8 ∨ j = 9 ∨ j = 10 ∨ j = 11 ∨ j = 12 ∨ j = 13 ∨ j = 14 ∨ j = 15 ∨ j = 16 ∨ j = 17 by omega) with rfl | rfl | rfl | rfl | rfl | rfl | rfl | rfl | rfl | rfl | rfl | rfl | rfl | rfl | rfl | rfl | rfl | rfl <;> rfl) (Nat.le_of_ble_eq_true rfl) (Nat.le_of_ble_eq_true rfl) dX9_init_80 (fun q_12 H hP hD hS => ?_)
  have hP : va_P (dC, dI) vwCl [(h0, .inr (8, [.int 0, .null, .int 0, .int 0, .int 0, .ref q_1, .ref q_2, .ref q_3, .ref q_4, .ref q_5, .ref q_7, .ref q_9, .ref q_11, .null])), (q_11, .inl (cA_11, 4, .inr (.inr (.inr (.inr (fun _ => none)))))), (q_12, .inr (1, [.int 0, .int 0, .int 0, .int 0, .int 0, .int 0, .int 0, .int 0, .int 0, .int 0, .int 0, .null, .null, .null, .null, .null, .null, .null]))] H := hP
  have hD : va_D A [(h0, .inr (8, [.int 0, .null, .int 0, .int 0, .int 0, .ref q_1, .ref q_2, .ref q_3, .ref q_4, .ref q_5, .ref q_7, .ref q_9, .ref q_11, .null])), (q_11, .inl (cA_11, 4, .inr (.inr (.inr (.inr (fun _ => none)))))), (q_12, .inr (1, [.int 0, .int 0, .int 0, .int 0, .int 0, .int 0, .int 0, .int 0, .int 0, .int 0, .int 0, .null, .null, .null, .null, .null, .null, .null]))] := hD
  refine W.widen (k := 12) (n := 224) (by omega) (by omega) ?_
  refine lv_dup hx hb dX9_init_83 rfl ?_
  have hPc := hP.sub (ws' := [(q_12, .inr (1, [.int 0, .int 0, .int 0, .int 0, .int 0, .int 0, .int 0, .int 0, .int 0, .int 0, .int 0, .null, .null, .null, .null, .null, .null, .null]))]) [2] rfl
  have hDc := hD.sub (ws' := [(q_12, .inr (1, [.int 0, .int 0, .int 0, .int 0, .int 0, .int 0, .int 0, .int 0, .int 0, .int 0, .int 0, .null, .null, .null, .null, .null, .null, .null]))]) [2] (by decide) rfl
  have hKc := hK.sub (tys' := []) [] rfl
  have hFc := va_free (wc := [(q_12, .inr (1, [.int 0, .int 0, .int 0, .int 0, .int 0, .int 0, .int 0, .int 0, .int 0, .int 0, .int 0, .null, .null, .null, .null, .null, .null, .null]))]) hD hS hA [2] rfl
  refine va_callv (va_runIN (As := []) (rest := [.ref q_12, .ref h0]) ⟨hx, hb, hml, hown, hts⟩ (c_Deal_init l dC dI q_12 H.size) ⟨va_cnB 0 hts gX9_init_X1_init_n46 rfl rfl rfl hN46 (hts (.initialized RX1) (List.mem_of_getElem? (l := wsX9_init) (i := 19) rfl)) (by decide +kernel) ⟨Nat.le_of_ble_eq_true rfl, Nat.le_of_ble_eq_true rfl⟩, rfl, (hts (.instanceMethod yX1_init) (List.mem_of_getElem? (l := wsX9_init) (i := 31) rfl))⟩ ⟨fun a U g mk q => by obtain ⟨q0, q1, qP, qK, qD⟩ := q; exact ⟨q0, q1, qP, va_K.moved (u := U) (U := U.calling g mk a) (Vm.Alike.refl U.vm) qK, qD⟩, fun U hU hW => ⟨rfl, by rw [hU], by rw [hU]; exact hPc, va_K.moved hW.alike hKc, hDc.weaken (fun _ _ _ _ => trivial)⟩⟩ rfl rfl hl.1 rfl (lv_room (Nat.le_of_ble_eq_true rfl)) dX9_init_84 ⟨Nat.le_of_ble_eq_true rfl, Nat.le_of_ble_eq_true rfl⟩) hS (fun q _ h => hFc q h) hFc (fun u t H1 locs ht hvm hw hB hz1 hk1 hS => ?_)
  obtain ⟨df_13, hP1, hK1, hD1⟩ := hB
  rw [ht] at hP1
  have hK1 := va_K.moved hvm.symm hK1
  obtain ⟨hP, hD⟩ := va_join (wr := [(h0, .inr (8, [.int 0, .null, .int 0, .int 0, .int 0, .ref q_1, .ref q_2, .ref q_3, .ref q_4, .ref q_5, .ref q_7, .ref q_9, .ref q_11, .null])), (q_11, .inl (cA_11, 4, .inr (.inr (.inr (.inr (fun _ => none))))))]) (w1 := [(q_12, .inr (1, df_13))]) hP hD [2] [0, 1] rfl rfl (by decide) (by decide) hk1 hFc hP1 hD1
  have hK := (hK.sub (tys' := [(cA_11, .object RX8)]) [0] rfl).app hK1
  generalize H1 = H at hP hS ⊢
  have hP : va_P (dC, dI) vwCl [(h0, .inr (8, [.int 0, .null, .int 0, .int 0, .int 0, .ref q_1, .ref q_2, .ref q_3, .ref q_4, .ref q_5, .ref q_7, .ref q_9, .ref q_11, .null])), (q_11, .inl (cA_11, 4, .inr (.inr (.inr (.inr (fun _ => none)))))), (q_12, .inr (1, df_13))] H := hP
  have hD : va_D A [(h0, .inr (8, [.int 0, .null, .int 0, .int 0, .int 0, .ref q_1, .ref q_2, .ref q_3, .ref q_4, .ref q_5, .ref q_7, .ref q_9, .ref q_11, .null])), (q_11, .inl (cA_11, 4, .inr (.inr (.inr (.inr (fun _ => none)))))), (q_12, .inr (1, df_13))] := hD
  have hK : va_K (dC, dI) vwCl [(cA_11, .object RX8)] s := hK
  refine W.widen (k := 20) (n := 481) (by omega) (by omega) ?_
  refine va_putF (D := (dC, dI)) (ci := 8) (v := .ref q_12) (ty := .object "CardTables$Deal") (C := RX9) (T := TX9) (N := 14) hx hb hts (by decide +kernel) tyX9 tyX9_ok nmX9 hown hK hP hD hS 0 rfl rfl 13 (by decide) (hts (.fieldLink RX9 47 "CardTables$Table" "deal" "LCardTables$Deal;") (List.mem_of_getElem? (l := wsX9_init) (i := 20) rfl)) (fun _ h9 => h9) rfl hin rfl (by decide +kernel) rfl rfl (Nat.le_of_ble_eq_true rfl) dX9_init_87 (fun H locs hP hD hS => ?_)
  have hP : va_P (dC, dI) vwCl [(h0, .inr (8, [.int 0, .null, .int 0, .int 0, .int 0, .ref q_1, .ref q_2, .ref q_3, .ref q_4, .ref q_5, .ref q_7, .ref q_9, .ref q_11, .ref q_12])), (q_11, .inl (cA_11, 4, .inr (.inr (.inr (.inr (fun _ => none)))))), (q_12, .inr (1, df_13))] H := hP
  have hD : va_D A [(h0, .inr (8, [.int 0, .null, .int 0, .int 0, .int 0, .ref q_1, .ref q_2, .ref q_3, .ref q_4, .ref q_5, .ref q_7, .ref q_9, .ref q_11, .ref q_12])), (q_11, .inl (cA_11, 4, .inr (.inr (.inr (.inr (fun _ => none)))))), (q_12, .inr (1, df_13))] := hD
  have hP := hP.sub (ws' := [(h0, .inr (8, [.int 0, .null, .int 0, .int 0, .int 0, .ref q_1, .ref q_2, .ref q_3, .ref q_4, .ref q_5, .ref q_7, .ref q_9, .ref q_11, .ref q_12])), (q_11, .inl (cA_11, 4, .inr (.inr (.inr (.inr (fun _ => none))))))]) [0, 1] rfl
  have hD := hD.sub (ws' := [(h0, .inr (8, [.int 0, .null, .int 0, .int 0, .int 0, .ref q_1, .ref q_2, .ref q_3, .ref q_4, .ref q_5, .ref q_7, .ref q_9, .ref q_11, .ref q_12])), (q_11, .inl (cA_11, 4, .inr (.inr (.inr (.inr (fun _ => none))))))]) [0, 1] (by decide) rfl
  have hK := hK.sub (tys' := [(cA_11, .object RX8)]) [0] rfl
  refine lv_aload_n hx hb dX9_init_90 rfl (lv_at hl 0 rfl) ?_
  refine lv_iload_n hx hb dX9_init_91 rfl (lv_at hl 1 rfl) ?_
  refine va_putF (D := (dC, dI)) (ci := 8) (v := .int i) (ty := .int) (C := RX9) (T := TX9) (N := 14) hx hb hts (by decide +kernel) tyX9 tyX9_ok nmX9 hown hK hP hD hS 0 rfl rfl 0 (by decide) (hts (.fieldLink RX9 51 "CardTables$Table" "id" "I") (List.mem_of_getElem? (l := wsX9_init) (i := 21) rfl)) (fun _ h9 => h9) rfl hin rfl (by decide +kernel) rfl rfl (Nat.le_of_ble_eq_true rfl) dX9_init_92 (fun H locs hP hD hS => ?_)
  have hP : va_P (dC, dI) vwCl [(h0, .inr (8, [.int i, .null, .int 0, .int 0, .int 0, .ref q_1, .ref q_2, .ref q_3, .ref q_4, .ref q_5, .ref q_7, .ref q_9, .ref q_11, .ref q_12])), (q_11, .inl (cA_11, 4, .inr (.inr (.inr (.inr (fun _ => none))))))] H := hP
  have hD : va_D A [(h0, .inr (8, [.int i, .null, .int 0, .int 0, .int 0, .ref q_1, .ref q_2, .ref q_3, .ref q_4, .ref q_5, .ref q_7, .ref q_9, .ref q_11, .ref q_12])), (q_11, .inl (cA_11, 4, .inr (.inr (.inr (.inr (fun _ => none))))))] := hD
  have hP := hP.sub (ws' := [(h0, .inr (8, [.int i, .null, .int 0, .int 0, .int 0, .ref q_1, .ref q_2, .ref q_3, .ref q_4, .ref q_5, .ref q_7, .ref q_9, .ref q_11, .ref q_12])), (q_11, .inl (cA_11, 4, .inr (.inr (.inr (.inr (fun _ => none))))))]) [0, 1] rfl
  have hD := hD.sub (ws' := [(h0, .inr (8, [.int i, .null, .int 0, .int 0, .int 0, .ref q_1, .ref q_2, .ref q_3, .ref q_4, .ref q_5, .ref q_7, .ref q_9, .ref q_11, .ref q_12])), (q_11, .inl (cA_11, 4, .inr (.inr (.inr (.inr (fun _ => none))))))]) [0, 1] (by decide) rfl
  have hK := hK.sub (tys' := [(cA_11, .object RX8)]) [0] rfl
  refine lv_iconst (v := 0) hx hb dX9_init_95 (by decide) ?_
  refine lv_istore_n (lv' := [(2, .int 0), (0, .ref h0), (1, .int i)]) hx hb dX9_init_96 rfl hl (by decide) rfl (fun ls hl => ?_)
  refine lv_iload_n hx hb dX9_init_97 rfl (lv_at hl 0 rfl) ?_
  refine lv_iconst (v := 4) hx hb dX9_init_98 (by decide) ?_
  refine lv_icmp_ge (tgt := 123) hx hb dX9_init_99 (by decide) (fun c_14 => ?_) (fun c_14 => ?_)
  · exact absurd c_14 (by decide +kernel)
  · skip
    refine lv_aload_n hx hb dX9_init_102 rfl (lv_at hl 1 rfl) ?_
    refine va_get (D := (dC, dI)) (ci := 8) (v := .ref q_11) (C := RX9) (T := TX9) (N := 14) hx hb hts (by decide +kernel) hown hK hP 0 rfl rfl 12 (by decide) (hts (.fieldLink RX9 40 "CardTables$Table" "hands" "[LCardTables$Row;") (List.mem_of_getElem? (l := wsX9_init) (i := 16) rfl)) (fun _ h9 => h9) rfl dX9_init_103 ?_
    refine lv_iload_n hx hb dX9_init_106 rfl (lv_at hl 0 rfl) ?_
    refine va_new (ci := 7) (fs := [.null, .int 0]) (C := RX8) (T := TX8) (N := 2) hx hb hts (by decide +kernel) tyX8 tyX8_ok hown (hts (.classLink RX9 25 RX8) (List.mem_of_getElem? (l := wsX9_init) (i := 10) rfl)) (hts (.instantiable RX8 2) (List.mem_of_getElem? (l := wsX9_init) (i := 11) rfl)) (hts (.initialized RX8) (List.mem_of_getElem? (l := wsX9_init) (i := 12) rfl)) hK hP hD hS hA rfl (fun j hj => by rcases (show j = 0 ∨ j = 1 by omega) with rfl | rfl <;> rfl) (Nat.le_of_ble_eq_true rfl) (Nat.le_of_ble_eq_true rfl) dX9_init_107 (fun q_15 H hP hD hS => ?_)
    have hP : va_P (dC, dI) vwCl [(h0, .inr (8, [.int i, .null, .int 0, .int 0, .int 0, .ref q_1, .ref q_2, .ref q_3, .ref q_4, .ref q_5, .ref q_7, .ref q_9, .ref q_11, .ref q_12])), (q_11, .inl (cA_11, 4, .inr (.inr (.inr (.inr (fun _ => none)))))), (q_15, .inr (7, [.null, .int 0]))] H := hP
    have hD : va_D A [(h0, .inr (8, [.int i, .null, .int 0, .int 0, .int 0, .ref q_1, .ref q_2, .ref q_3, .ref q_4, .ref q_5, .ref q_7, .ref q_9, .ref q_11, .ref q_12])), (q_11, .inl (cA_11, 4, .inr (.inr (.inr (.inr (fun _ => none)))))), (q_15, .inr (7, [.null, .int 0]))] := hD
    refine W.widen (k := 21) (n := 483) (by omega) (by omega) ?_
    refine lv_dup hx hb dX9_init_110 rfl ?_
    refine lv_bipush (v := 15) hx hb dX9_init_111 (by decide) ?_
    have hPc := hP.sub (ws' := [(q_15, .inr (7, [.null, .int 0]))]) [2] rfl
    have hDc := hD.sub (ws' := [(q_15, .inr (7, [.null, .int 0]))]) [2] (by decide) rfl
    have hKc := hK.sub (tys' := []) [] rfl
    have hFc := va_free (wc := [(q_15, .inr (7, [.null, .int 0]))]) hD hS hA [2] rfl
    refine va_callv (va_runI (As := [.int 15]) (rest := [.ref q_15, .int 0, .ref q_11]) ⟨hx, hb, hml, hown, hts⟩ (c_Row_init l dC dI q_15 H.size 15 15 (by decide +kernel) (by decide +kernel) (by decide +kernel) (by decide +kernel)) (cwI 1 hts gX9_init_X8_init rfl rfl rfl (hts (.initialized RX8) (List.mem_of_getElem? (l := wsX9_init) (i := 12) rfl)) (hts (.methodLink RX9 27 yX8_init) (List.mem_of_getElem? (l := wsX9_init) (i := 22) rfl)) (hts (.instanceMethod yX8_init) (List.mem_of_getElem? (l := wsX9_init) (i := 23) rfl)) rfl (by decide +kernel) ⟨Nat.le_of_ble_eq_true rfl, Nat.le_of_ble_eq_true rfl⟩) ⟨fun a U g mk q => by obtain ⟨q0, q1, qP, qK, qD⟩ := q; exact ⟨q0, q1, qP, va_K.moved (u := U) (U := U.calling g mk a) (Vm.Alike.refl U.vm) qK, qD⟩, fun U hU hW => ⟨rfl, by rw [hU], by rw [hU]; exact hPc, va_K.moved hW.alike hKc, hDc.weaken (fun _ _ _ _ => trivial)⟩⟩ rfl rfl hl.1 rfl (lv_room (Nat.le_of_ble_eq_true rfl)) dX9_init_113 ⟨Nat.le_of_ble_eq_true rfl, Nat.le_of_ble_eq_true rfl⟩) hS (fun q _ h => hFc q h) hFc (fun u t H1 locs ht hvm hw hB hz1 hk1 hS => ?_)
    obtain ⟨rq_16, rc_16, hP1, hK1, hD1⟩ := hB
    rw [ht] at hP1
    have hK1 := va_K.moved hvm.symm hK1
    obtain ⟨hP, hD⟩ := va_join (wr := [(h0, .inr (8, [.int i, .null, .int 0, .int 0, .int 0, .ref q_1, .ref q_2, .ref q_3, .ref q_4, .ref q_5, .ref q_7, .ref q_9, .ref q_11, .ref q_12])), (q_11, .inl (cA_11, 4, .inr (.inr (.inr (.inr (fun _ => none))))))]) (w1 := [(q_15, .inr (7, [.ref rq_16, .int 0])), (rq_16, .inl (rc_16, 15, .inl (fun _ => 0)))]) hP hD [2] [0, 1] rfl rfl (by decide) (by decide) hk1 hFc hP1 hD1
    have hK := (hK.sub (tys' := [(cA_11, .object RX8)]) [0] rfl).app hK1
    generalize H1 = H at hP hS ⊢
    have hP : va_P (dC, dI) vwCl [(h0, .inr (8, [.int i, .null, .int 0, .int 0, .int 0, .ref q_1, .ref q_2, .ref q_3, .ref q_4, .ref q_5, .ref q_7, .ref q_9, .ref q_11, .ref q_12])), (q_11, .inl (cA_11, 4, .inr (.inr (.inr (.inr (fun _ => none)))))), (q_15, .inr (7, [.ref rq_16, .int 0])), (rq_16, .inl (rc_16, 15, .inl (fun _ => 0)))] H := hP
    have hD : va_D A [(h0, .inr (8, [.int i, .null, .int 0, .int 0, .int 0, .ref q_1, .ref q_2, .ref q_3, .ref q_4, .ref q_5, .ref q_7, .ref q_9, .ref q_11, .ref q_12])), (q_11, .inl (cA_11, 4, .inr (.inr (.inr (.inr (fun _ => none)))))), (q_15, .inr (7, [.ref rq_16, .int 0])), (rq_16, .inl (rc_16, 15, .inl (fun _ => 0)))] := hD
    have hK : va_K (dC, dI) vwCl [(cA_11, .object RX8), (rc_16, .int)] s := hK
    refine W.widen (k := 22) (n := 498) (by omega) (by omega) ?_
    refine va_astq hx hb hK hP hD hS 1 0 2 7 rfl rfl rfl rfl (by unfold vp_in; decide +kernel) dX9_init_116 (fun H locs hP hD hS => ?_)
    have hP : va_P (dC, dI) vwCl [(h0, .inr (8, [.int i, .null, .int 0, .int 0, .int 0, .ref q_1, .ref q_2, .ref q_3, .ref q_4, .ref q_5, .ref q_7, .ref q_9, .ref q_11, .ref q_12])), (q_11, .inl (cA_11, 4, .inr (.inr (.inr (.inr (va_up (fun _ => none) 0 (some q_15))))))), (q_15, .inr (7, [.ref rq_16, .int 0])), (rq_16, .inl (rc_16, 15, .inl (fun _ => 0)))] H := hP
    have hD : va_D A [(h0, .inr (8, [.int i, .null, .int 0, .int 0, .int 0, .ref q_1, .ref q_2, .ref q_3, .ref q_4, .ref q_5, .ref q_7, .ref q_9, .ref q_11, .ref q_12])), (q_11, .inl (cA_11, 4, .inr (.inr (.inr (.inr (va_up (fun _ => none) 0 (some q_15))))))), (q_15, .inr (7, [.ref rq_16, .int 0])), (rq_16, .inl (rc_16, 15, .inl (fun _ => 0)))] := hD
    generalize hg_17 : va_up (fun _ => none) 0 (some q_15) = fg_17 at hP hD
    have hP : va_P (dC, dI) vwCl [(h0, .inr (8, [.int i, .null, .int 0, .int 0, .int 0, .ref q_1, .ref q_2, .ref q_3, .ref q_4, .ref q_5, .ref q_7, .ref q_9, .ref q_11, .ref q_12])), (q_11, .inl (cA_11, 4, .inr (.inr (.inr (.inr fg_17))))), (q_15, .inr (7, [.ref rq_16, .int 0])), (rq_16, .inl (rc_16, 15, .inl (fun _ => 0)))] H := hP
    have hD : va_D A [(h0, .inr (8, [.int i, .null, .int 0, .int 0, .int 0, .ref q_1, .ref q_2, .ref q_3, .ref q_4, .ref q_5, .ref q_7, .ref q_9, .ref q_11, .ref q_12])), (q_11, .inl (cA_11, 4, .inr (.inr (.inr (.inr fg_17))))), (q_15, .inr (7, [.ref rq_16, .int 0])), (rq_16, .inl (rc_16, 15, .inl (fun _ => 0)))] := hD
    have hP := hP.sub (ws' := [(h0, .inr (8, [.int i, .null, .int 0, .int 0, .int 0, .ref q_1, .ref q_2, .ref q_3, .ref q_4, .ref q_5, .ref q_7, .ref q_9, .ref q_11, .ref q_12])), (q_11, .inl (cA_11, 4, .inr (.inr (.inr (.inr fg_17)))))]) [0, 1] rfl
    have hD := hD.sub (ws' := [(h0, .inr (8, [.int i, .null, .int 0, .int 0, .int 0, .ref q_1, .ref q_2, .ref q_3, .ref q_4, .ref q_5, .ref q_7, .ref q_9, .ref q_11, .ref q_12])), (q_11, .inl (cA_11, 4, .inr (.inr (.inr (.inr fg_17)))))]) [0, 1] (by decide) rfl
    have hK := hK.sub (tys' := [(cA_11, .object RX8)]) [0] rfl
    refine lv_iinc (v := 1) (lv' := [(2, .int 1), (0, .ref h0), (1, .int i)]) hx hb dX9_init_117 hl (k := 0) rfl (by decide) (by decide) rfl (fun ls hl => ?_)
    refine lv_goto (tgt := 97) hx hb dX9_init_120 (by decide) ?_
    refine lv_iload_n hx hb dX9_init_97 rfl (lv_at hl 0 rfl) ?_
    refine lv_iconst (v := 4) hx hb dX9_init_98 (by decide) ?_
    refine lv_icmp_ge (tgt := 123) hx hb dX9_init_99 (by decide) (fun c_19 => ?_) (fun c_19 => ?_)
    · exact absurd c_19 (by decide +kernel)
    · skip
      refine lv_aload_n hx hb dX9_init_102 rfl (lv_at hl 1 rfl) ?_
      refine va_get (D := (dC, dI)) (ci := 8) (v := .ref q_11) (C := RX9) (T := TX9) (N := 14) hx hb hts (by decide +kernel) hown hK hP 0 rfl rfl 12 (by decide) (hts (.fieldLink RX9 40 "CardTables$Table" "hands" "[LCardTables$Row;") (List.mem_of_getElem? (l := wsX9_init) (i := 16) rfl)) (fun _ h9 => h9) rfl dX9_init_103 ?_
      refine lv_iload_n hx hb dX9_init_106 rfl (lv_at hl 0 rfl) ?_
      refine va_new (ci := 7) (fs := [.null, .int 0]) (C := RX8) (T := TX8) (N := 2) hx hb hts (by decide +kernel) tyX8 tyX8_ok hown (hts (.classLink RX9 25 RX8) (List.mem_of_getElem? (l := wsX9_init) (i := 10) rfl)) (hts (.instantiable RX8 2) (List.mem_of_getElem? (l := wsX9_init) (i := 11) rfl)) (hts (.initialized RX8) (List.mem_of_getElem? (l := wsX9_init) (i := 12) rfl)) hK hP hD hS hA rfl (fun j hj => by rcases (show j = 0 ∨ j = 1 by omega) with rfl | rfl <;> rfl) (Nat.le_of_ble_eq_true rfl) (Nat.le_of_ble_eq_true rfl) dX9_init_107 (fun q_20 H hP hD hS => ?_)
      have hP : va_P (dC, dI) vwCl [(h0, .inr (8, [.int i, .null, .int 0, .int 0, .int 0, .ref q_1, .ref q_2, .ref q_3, .ref q_4, .ref q_5, .ref q_7, .ref q_9, .ref q_11, .ref q_12])), (q_11, .inl (cA_11, 4, .inr (.inr (.inr (.inr fg_17))))), (q_20, .inr (7, [.null, .int 0]))] H := hP
      have hD : va_D A [(h0, .inr (8, [.int i, .null, .int 0, .int 0, .int 0, .ref q_1, .ref q_2, .ref q_3, .ref q_4, .ref q_5, .ref q_7, .ref q_9, .ref q_11, .ref q_12])), (q_11, .inl (cA_11, 4, .inr (.inr (.inr (.inr fg_17))))), (q_20, .inr (7, [.null, .int 0]))] := hD
      refine W.widen (k := 23) (n := 500) (by omega) (by omega) ?_
      refine lv_dup hx hb dX9_init_110 rfl ?_
      refine lv_bipush (v := 15) hx hb dX9_init_111 (by decide) ?_
      have hPc := hP.sub (ws' := [(q_20, .inr (7, [.null, .int 0]))]) [2] rfl
      have hDc := hD.sub (ws' := [(q_20, .inr (7, [.null, .int 0]))]) [2] (by decide) rfl
      have hKc := hK.sub (tys' := []) [] rfl
      have hFc := va_free (wc := [(q_20, .inr (7, [.null, .int 0]))]) hD hS hA [2] rfl
      refine va_callv (va_runI (As := [.int 15]) (rest := [.ref q_20, .int 1, .ref q_11]) ⟨hx, hb, hml, hown, hts⟩ (c_Row_init l dC dI q_20 H.size 15 15 (by decide +kernel) (by decide +kernel) (by decide +kernel) (by decide +kernel)) (cwI 1 hts gX9_init_X8_init rfl rfl rfl (hts (.initialized RX8) (List.mem_of_getElem? (l := wsX9_init) (i := 12) rfl)) (hts (.methodLink RX9 27 yX8_init) (List.mem_of_getElem? (l := wsX9_init) (i := 22) rfl)) (hts (.instanceMethod yX8_init) (List.mem_of_getElem? (l := wsX9_init) (i := 23) rfl)) rfl (by decide +kernel) ⟨Nat.le_of_ble_eq_true rfl, Nat.le_of_ble_eq_true rfl⟩) ⟨fun a U g mk q => by obtain ⟨q0, q1, qP, qK, qD⟩ := q; exact ⟨q0, q1, qP, va_K.moved (u := U) (U := U.calling g mk a) (Vm.Alike.refl U.vm) qK, qD⟩, fun U hU hW => ⟨rfl, by rw [hU], by rw [hU]; exact hPc, va_K.moved hW.alike hKc, hDc.weaken (fun _ _ _ _ => trivial)⟩⟩ rfl rfl hl.1 rfl (lv_room (Nat.le_of_ble_eq_true rfl)) dX9_init_113 ⟨Nat.le_of_ble_eq_true rfl, Nat.le_of_ble_eq_true rfl⟩) hS (fun q _ h => hFc q h) hFc (fun u t H1 locs ht hvm hw hB hz1 hk1 hS => ?_)
      obtain ⟨rq_21, rc_21, hP1, hK1, hD1⟩ := hB
      rw [ht] at hP1
      have hK1 := va_K.moved hvm.symm hK1
      obtain ⟨hP, hD⟩ := va_join (wr := [(h0, .inr (8, [.int i, .null, .int 0, .int 0, .int 0, .ref q_1, .ref q_2, .ref q_3, .ref q_4, .ref q_5, .ref q_7, .ref q_9, .ref q_11, .ref q_12])), (q_11, .inl (cA_11, 4, .inr (.inr (.inr (.inr fg_17)))))]) (w1 := [(q_20, .inr (7, [.ref rq_21, .int 0])), (rq_21, .inl (rc_21, 15, .inl (fun _ => 0)))]) hP hD [2] [0, 1] rfl rfl (by decide) (by decide) hk1 hFc hP1 hD1
      have hK := (hK.sub (tys' := [(cA_11, .object RX8)]) [0] rfl).app hK1
      generalize H1 = H at hP hS ⊢
      have hP : va_P (dC, dI) vwCl [(h0, .inr (8, [.int i, .null, .int 0, .int 0, .int 0, .ref q_1, .ref q_2, .ref q_3, .ref q_4, .ref q_5, .ref q_7, .ref q_9, .ref q_11, .ref q_12])), (q_11, .inl (cA_11, 4, .inr (.inr (.inr (.inr fg_17))))), (q_20, .inr (7, [.ref rq_21, .int 0])), (rq_21, .inl (rc_21, 15, .inl (fun _ => 0)))] H := hP
      have hD : va_D A [(h0, .inr (8, [.int i, .null, .int 0, .int 0, .int 0, .ref q_1, .ref q_2, .ref q_3, .ref q_4, .ref q_5, .ref q_7, .ref q_9, .ref q_11, .ref q_12])), (q_11, .inl (cA_11, 4, .inr (.inr (.inr (.inr fg_17))))), (q_20, .inr (7, [.ref rq_21, .int 0])), (rq_21, .inl (rc_21, 15, .inl (fun _ => 0)))] := hD
      have hK : va_K (dC, dI) vwCl [(cA_11, .object RX8), (rc_21, .int)] s := hK
      refine W.widen (k := 24) (n := 515) (by omega) (by omega) ?_
      refine va_astq hx hb hK hP hD hS 1 0 2 7 rfl rfl rfl rfl (by unfold vp_in; decide +kernel) dX9_init_116 (fun H locs hP hD hS => ?_)
      have hP : va_P (dC, dI) vwCl [(h0, .inr (8, [.int i, .null, .int 0, .int 0, .int 0, .ref q_1, .ref q_2, .ref q_3, .ref q_4, .ref q_5, .ref q_7, .ref q_9, .ref q_11, .ref q_12])), (q_11, .inl (cA_11, 4, .inr (.inr (.inr (.inr (va_up (fg_17) 1 (some q_20))))))), (q_20, .inr (7, [.ref rq_21, .int 0])), (rq_21, .inl (rc_21, 15, .inl (fun _ => 0)))] H := hP
      have hD : va_D A [(h0, .inr (8, [.int i, .null, .int 0, .int 0, .int 0, .ref q_1, .ref q_2, .ref q_3, .ref q_4, .ref q_5, .ref q_7, .ref q_9, .ref q_11, .ref q_12])), (q_11, .inl (cA_11, 4, .inr (.inr (.inr (.inr (va_up (fg_17) 1 (some q_20))))))), (q_20, .inr (7, [.ref rq_21, .int 0])), (rq_21, .inl (rc_21, 15, .inl (fun _ => 0)))] := hD
      generalize hg_22 : va_up (fg_17) 1 (some q_20) = fg_22 at hP hD
      have hP : va_P (dC, dI) vwCl [(h0, .inr (8, [.int i, .null, .int 0, .int 0, .int 0, .ref q_1, .ref q_2, .ref q_3, .ref q_4, .ref q_5, .ref q_7, .ref q_9, .ref q_11, .ref q_12])), (q_11, .inl (cA_11, 4, .inr (.inr (.inr (.inr fg_22))))), (q_20, .inr (7, [.ref rq_21, .int 0])), (rq_21, .inl (rc_21, 15, .inl (fun _ => 0)))] H := hP
      have hD : va_D A [(h0, .inr (8, [.int i, .null, .int 0, .int 0, .int 0, .ref q_1, .ref q_2, .ref q_3, .ref q_4, .ref q_5, .ref q_7, .ref q_9, .ref q_11, .ref q_12])), (q_11, .inl (cA_11, 4, .inr (.inr (.inr (.inr fg_22))))), (q_20, .inr (7, [.ref rq_21, .int 0])), (rq_21, .inl (rc_21, 15, .inl (fun _ => 0)))] := hD
      have hP := hP.sub (ws' := [(h0, .inr (8, [.int i, .null, .int 0, .int 0, .int 0, .ref q_1, .ref q_2, .ref q_3, .ref q_4, .ref q_5, .ref q_7, .ref q_9, .ref q_11, .ref q_12])), (q_11, .inl (cA_11, 4, .inr (.inr (.inr (.inr fg_22)))))]) [0, 1] rfl
      have hD := hD.sub (ws' := [(h0, .inr (8, [.int i, .null, .int 0, .int 0, .int 0, .ref q_1, .ref q_2, .ref q_3, .ref q_4, .ref q_5, .ref q_7, .ref q_9, .ref q_11, .ref q_12])), (q_11, .inl (cA_11, 4, .inr (.inr (.inr (.inr fg_22)))))]) [0, 1] (by decide) rfl
      have hK := hK.sub (tys' := [(cA_11, .object RX8)]) [0] rfl
      refine lv_iinc (v := 2) (lv' := [(2, .int 2), (0, .ref h0), (1, .int i)]) hx hb dX9_init_117 hl (k := 0) rfl (by decide) (by decide) rfl (fun ls hl => ?_)
      refine lv_goto (tgt := 97) hx hb dX9_init_120 (by decide) ?_
      refine lv_iload_n hx hb dX9_init_97 rfl (lv_at hl 0 rfl) ?_
      refine lv_iconst (v := 4) hx hb dX9_init_98 (by decide) ?_
      refine lv_icmp_ge (tgt := 123) hx hb dX9_init_99 (by decide) (fun c_24 => ?_) (fun c_24 => ?_)
      · exact absurd c_24 (by decide +kernel)
      · skip
        refine lv_aload_n hx hb dX9_init_102 rfl (lv_at hl 1 rfl) ?_
        refine va_get (D := (dC, dI)) (ci := 8) (v := .ref q_11) (C := RX9) (T := TX9) (N := 14) hx hb hts (by decide +kernel) hown hK hP 0 rfl rfl 12 (by decide) (hts (.fieldLink RX9 40 "CardTables$Table" "hands" "[LCardTables$Row;") (List.mem_of_getElem? (l := wsX9_init) (i := 16) rfl)) (fun _ h9 => h9) rfl dX9_init_103 ?_
        refine lv_iload_n hx hb dX9_init_106 rfl (lv_at hl 0 rfl) ?_
        refine va_new (ci := 7) (fs := [.null, .int 0]) (C := RX8) (T := TX8) (N := 2) hx hb hts (by decide +kernel) tyX8 tyX8_ok hown (hts (.classLink RX9 25 RX8) (List.mem_of_getElem? (l := wsX9_init) (i := 10) rfl)) (hts (.instantiable RX8 2) (List.mem_of_getElem? (l := wsX9_init) (i := 11) rfl)) (hts (.initialized RX8) (List.mem_of_getElem? (l := wsX9_init) (i := 12) rfl)) hK hP hD hS hA rfl (fun j hj => by rcases (show j = 0 ∨ j = 1 by omega) with rfl | rfl <;> rfl) (Nat.le_of_ble_eq_true rfl) (Nat.le_of_ble_eq_true rfl) dX9_init_107 (fun q_25 H hP hD hS => ?_)
        have hP : va_P (dC, dI) vwCl [(h0, .inr (8, [.int i, .null, .int 0, .int 0, .int 0, .ref q_1, .ref q_2, .ref q_3, .ref q_4, .ref q_5, .ref q_7, .ref q_9, .ref q_11, .ref q_12])), (q_11, .inl (cA_11, 4, .inr (.inr (.inr (.inr fg_22))))), (q_25, .inr (7, [.null, .int 0]))] H := hP
        have hD : va_D A [(h0, .inr (8, [.int i, .null, .int 0, .int 0, .int 0, .ref q_1, .ref q_2, .ref q_3, .ref q_4, .ref q_5, .ref q_7, .ref q_9, .ref q_11, .ref q_12])), (q_11, .inl (cA_11, 4, .inr (.inr (.inr (.inr fg_22))))), (q_25, .inr (7, [.null, .int 0]))] := hD
        refine W.widen (k := 25) (n := 517) (by omega) (by omega) ?_
        refine lv_dup hx hb dX9_init_110 rfl ?_
        refine lv_bipush (v := 15) hx hb dX9_init_111 (by decide) ?_
        have hPc := hP.sub (ws' := [(q_25, .inr (7, [.null, .int 0]))]) [2] rfl
        have hDc := hD.sub (ws' := [(q_25, .inr (7, [.null, .int 0]))]) [2] (by decide) rfl
        have hKc := hK.sub (tys' := []) [] rfl
        have hFc := va_free (wc := [(q_25, .inr (7, [.null, .int 0]))]) hD hS hA [2] rfl
        refine va_callv (va_runI (As := [.int 15]) (rest := [.ref q_25, .int 2, .ref q_11]) ⟨hx, hb, hml, hown, hts⟩ (c_Row_init l dC dI q_25 H.size 15 15 (by decide +kernel) (by decide +kernel) (by decide +kernel) (by decide +kernel)) (cwI 1 hts gX9_init_X8_init rfl rfl rfl (hts (.initialized RX8) (List.mem_of_getElem? (l := wsX9_init) (i := 12) rfl)) (hts (.methodLink RX9 27 yX8_init) (List.mem_of_getElem? (l := wsX9_init) (i := 22) rfl)) (hts (.instanceMethod yX8_init) (List.mem_of_getElem? (l := wsX9_init) (i := 23) rfl)) rfl (by decide +kernel) ⟨Nat.le_of_ble_eq_true rfl, Nat.le_of_ble_eq_true rfl⟩) ⟨fun a U g mk q => by obtain ⟨q0, q1, qP, qK, qD⟩ := q; exact ⟨q0, q1, qP, va_K.moved (u := U) (U := U.calling g mk a) (Vm.Alike.refl U.vm) qK, qD⟩, fun U hU hW => ⟨rfl, by rw [hU], by rw [hU]; exact hPc, va_K.moved hW.alike hKc, hDc.weaken (fun _ _ _ _ => trivial)⟩⟩ rfl rfl hl.1 rfl (lv_room (Nat.le_of_ble_eq_true rfl)) dX9_init_113 ⟨Nat.le_of_ble_eq_true rfl, Nat.le_of_ble_eq_true rfl⟩) hS (fun q _ h => hFc q h) hFc (fun u t H1 locs ht hvm hw hB hz1 hk1 hS => ?_)
        obtain ⟨rq_26, rc_26, hP1, hK1, hD1⟩ := hB
        rw [ht] at hP1
        have hK1 := va_K.moved hvm.symm hK1
        obtain ⟨hP, hD⟩ := va_join (wr := [(h0, .inr (8, [.int i, .null, .int 0, .int 0, .int 0, .ref q_1, .ref q_2, .ref q_3, .ref q_4, .ref q_5, .ref q_7, .ref q_9, .ref q_11, .ref q_12])), (q_11, .inl (cA_11, 4, .inr (.inr (.inr (.inr fg_22)))))]) (w1 := [(q_25, .inr (7, [.ref rq_26, .int 0])), (rq_26, .inl (rc_26, 15, .inl (fun _ => 0)))]) hP hD [2] [0, 1] rfl rfl (by decide) (by decide) hk1 hFc hP1 hD1
        have hK := (hK.sub (tys' := [(cA_11, .object RX8)]) [0] rfl).app hK1
        generalize H1 = H at hP hS ⊢
        have hP : va_P (dC, dI) vwCl [(h0, .inr (8, [.int i, .null, .int 0, .int 0, .int 0, .ref q_1, .ref q_2, .ref q_3, .ref q_4, .ref q_5, .ref q_7, .ref q_9, .ref q_11, .ref q_12])), (q_11, .inl (cA_11, 4, .inr (.inr (.inr (.inr fg_22))))), (q_25, .inr (7, [.ref rq_26, .int 0])), (rq_26, .inl (rc_26, 15, .inl (fun _ => 0)))] H := hP
        have hD : va_D A [(h0, .inr (8, [.int i, .null, .int 0, .int 0, .int 0, .ref q_1, .ref q_2, .ref q_3, .ref q_4, .ref q_5, .ref q_7, .ref q_9, .ref q_11, .ref q_12])), (q_11, .inl (cA_11, 4, .inr (.inr (.inr (.inr fg_22))))), (q_25, .inr (7, [.ref rq_26, .int 0])), (rq_26, .inl (rc_26, 15, .inl (fun _ => 0)))] := hD
        have hK : va_K (dC, dI) vwCl [(cA_11, .object RX8), (rc_26, .int)] s := hK
        refine W.widen (k := 26) (n := 532) (by omega) (by omega) ?_
        refine va_astq hx hb hK hP hD hS 1 0 2 7 rfl rfl rfl rfl (by unfold vp_in; decide +kernel) dX9_init_116 (fun H locs hP hD hS => ?_)
        have hP : va_P (dC, dI) vwCl [(h0, .inr (8, [.int i, .null, .int 0, .int 0, .int 0, .ref q_1, .ref q_2, .ref q_3, .ref q_4, .ref q_5, .ref q_7, .ref q_9, .ref q_11, .ref q_12])), (q_11, .inl (cA_11, 4, .inr (.inr (.inr (.inr (va_up (fg_22) 2 (some q_25))))))), (q_25, .inr (7, [.ref rq_26, .int 0])), (rq_26, .inl (rc_26, 15, .inl (fun _ => 0)))] H := hP
        have hD : va_D A [(h0, .inr (8, [.int i, .null, .int 0, .int 0, .int 0, .ref q_1, .ref q_2, .ref q_3, .ref q_4, .ref q_5, .ref q_7, .ref q_9, .ref q_11, .ref q_12])), (q_11, .inl (cA_11, 4, .inr (.inr (.inr (.inr (va_up (fg_22) 2 (some q_25))))))), (q_25, .inr (7, [.ref rq_26, .int 0])), (rq_26, .inl (rc_26, 15, .inl (fun _ => 0)))] := hD
        generalize hg_27 : va_up (fg_22) 2 (some q_25) = fg_27 at hP hD
        have hP : va_P (dC, dI) vwCl [(h0, .inr (8, [.int i, .null, .int 0, .int 0, .int 0, .ref q_1, .ref q_2, .ref q_3, .ref q_4, .ref q_5, .ref q_7, .ref q_9, .ref q_11, .ref q_12])), (q_11, .inl (cA_11, 4, .inr (.inr (.inr (.inr fg_27))))), (q_25, .inr (7, [.ref rq_26, .int 0])), (rq_26, .inl (rc_26, 15, .inl (fun _ => 0)))] H := hP
        have hD : va_D A [(h0, .inr (8, [.int i, .null, .int 0, .int 0, .int 0, .ref q_1, .ref q_2, .ref q_3, .ref q_4, .ref q_5, .ref q_7, .ref q_9, .ref q_11, .ref q_12])), (q_11, .inl (cA_11, 4, .inr (.inr (.inr (.inr fg_27))))), (q_25, .inr (7, [.ref rq_26, .int 0])), (rq_26, .inl (rc_26, 15, .inl (fun _ => 0)))] := hD
        have hP := hP.sub (ws' := [(h0, .inr (8, [.int i, .null, .int 0, .int 0, .int 0, .ref q_1, .ref q_2, .ref q_3, .ref q_4, .ref q_5, .ref q_7, .ref q_9, .ref q_11, .ref q_12])), (q_11, .inl (cA_11, 4, .inr (.inr (.inr (.inr fg_27)))))]) [0, 1] rfl
        have hD := hD.sub (ws' := [(h0, .inr (8, [.int i, .null, .int 0, .int 0, .int 0, .ref q_1, .ref q_2, .ref q_3, .ref q_4, .ref q_5, .ref q_7, .ref q_9, .ref q_11, .ref q_12])), (q_11, .inl (cA_11, 4, .inr (.inr (.inr (.inr fg_27)))))]) [0, 1] (by decide) rfl
        have hK := hK.sub (tys' := [(cA_11, .object RX8)]) [0] rfl
        refine lv_iinc (v := 3) (lv' := [(2, .int 3), (0, .ref h0), (1, .int i)]) hx hb dX9_init_117 hl (k := 0) rfl (by decide) (by decide) rfl (fun ls hl => ?_)
        refine lv_goto (tgt := 97) hx hb dX9_init_120 (by decide) ?_
        refine lv_iload_n hx hb dX9_init_97 rfl (lv_at hl 0 rfl) ?_
        refine lv_iconst (v := 4) hx hb dX9_init_98 (by decide) ?_
        refine lv_icmp_ge (tgt := 123) hx hb dX9_init_99 (by decide) (fun c_29 => ?_) (fun c_29 => ?_)
        · exact absurd c_29 (by decide +kernel)
        · skip
          refine lv_aload_n hx hb dX9_init_102 rfl (lv_at hl 1 rfl) ?_
          refine va_get (D := (dC, dI)) (ci := 8) (v := .ref q_11) (C := RX9) (T := TX9) (N := 14) hx hb hts (by decide +kernel) hown hK hP 0 rfl rfl 12 (by decide) (hts (.fieldLink RX9 40 "CardTables$Table" "hands" "[LCardTables$Row;") (List.mem_of_getElem? (l := wsX9_init) (i := 16) rfl)) (fun _ h9 => h9) rfl dX9_init_103 ?_
          refine lv_iload_n hx hb dX9_init_106 rfl (lv_at hl 0 rfl) ?_
          refine va_new (ci := 7) (fs := [.null, .int 0]) (C := RX8) (T := TX8) (N := 2) hx hb hts (by decide +kernel) tyX8 tyX8_ok hown (hts (.classLink RX9 25 RX8) (List.mem_of_getElem? (l := wsX9_init) (i := 10) rfl)) (hts (.instantiable RX8 2) (List.mem_of_getElem? (l := wsX9_init) (i := 11) rfl)) (hts (.initialized RX8) (List.mem_of_getElem? (l := wsX9_init) (i := 12) rfl)) hK hP hD hS hA rfl (fun j hj => by rcases (show j = 0 ∨ j = 1 by omega) with rfl | rfl <;> rfl) (Nat.le_of_ble_eq_true rfl) (Nat.le_of_ble_eq_true rfl) dX9_init_107 (fun q_30 H hP hD hS => ?_)
          have hP : va_P (dC, dI) vwCl [(h0, .inr (8, [.int i, .null, .int 0, .int 0, .int 0, .ref q_1, .ref q_2, .ref q_3, .ref q_4, .ref q_5, .ref q_7, .ref q_9, .ref q_11, .ref q_12])), (q_11, .inl (cA_11, 4, .inr (.inr (.inr (.inr fg_27))))), (q_30, .inr (7, [.null, .int 0]))] H := hP
          have hD : va_D A [(h0, .inr (8, [.int i, .null, .int 0, .int 0, .int 0, .ref q_1, .ref q_2, .ref q_3, .ref q_4, .ref q_5, .ref q_7, .ref q_9, .ref q_11, .ref q_12])), (q_11, .inl (cA_11, 4, .inr (.inr (.inr (.inr fg_27))))), (q_30, .inr (7, [.null, .int 0]))] := hD
          refine W.widen (k := 27) (n := 534) (by omega) (by omega) ?_
          refine lv_dup hx hb dX9_init_110 rfl ?_
          refine lv_bipush (v := 15) hx hb dX9_init_111 (by decide) ?_
          have hPc := hP.sub (ws' := [(q_30, .inr (7, [.null, .int 0]))]) [2] rfl
          have hDc := hD.sub (ws' := [(q_30, .inr (7, [.null, .int 0]))]) [2] (by decide) rfl
          have hKc := hK.sub (tys' := []) [] rfl
          have hFc := va_free (wc := [(q_30, .inr (7, [.null, .int 0]))]) hD hS hA [2] rfl
          refine va_callv (va_runI (As := [.int 15]) (rest := [.ref q_30, .int 3, .ref q_11]) ⟨hx, hb, hml, hown, hts⟩ (c_Row_init l dC dI q_30 H.size 15 15 (by decide +kernel) (by decide +kernel) (by decide +kernel) (by decide +kernel)) (cwI 1 hts gX9_init_X8_init rfl rfl rfl (hts (.initialized RX8) (List.mem_of_getElem? (l := wsX9_init) (i := 12) rfl)) (hts (.methodLink RX9 27 yX8_init) (List.mem_of_getElem? (l := wsX9_init) (i := 22) rfl)) (hts (.instanceMethod yX8_init) (List.mem_of_getElem? (l := wsX9_init) (i := 23) rfl)) rfl (by decide +kernel) ⟨Nat.le_of_ble_eq_true rfl, Nat.le_of_ble_eq_true rfl⟩) ⟨fun a U g mk q => by obtain ⟨q0, q1, qP, qK, qD⟩ := q; exact ⟨q0, q1, qP, va_K.moved (u := U) (U := U.calling g mk a) (Vm.Alike.refl U.vm) qK, qD⟩, fun U hU hW => ⟨rfl, by rw [hU], by rw [hU]; exact hPc, va_K.moved hW.alike hKc, hDc.weaken (fun _ _ _ _ => trivial)⟩⟩ rfl rfl hl.1 rfl (lv_room (Nat.le_of_ble_eq_true rfl)) dX9_init_113 ⟨Nat.le_of_ble_eq_true rfl, Nat.le_of_ble_eq_true rfl⟩) hS (fun q _ h => hFc q h) hFc (fun u t H1 locs ht hvm hw hB hz1 hk1 hS => ?_)
          obtain ⟨rq_31, rc_31, hP1, hK1, hD1⟩ := hB
          rw [ht] at hP1
          have hK1 := va_K.moved hvm.symm hK1
          obtain ⟨hP, hD⟩ := va_join (wr := [(h0, .inr (8, [.int i, .null, .int 0, .int 0, .int 0, .ref q_1, .ref q_2, .ref q_3, .ref q_4, .ref q_5, .ref q_7, .ref q_9, .ref q_11, .ref q_12])), (q_11, .inl (cA_11, 4, .inr (.inr (.inr (.inr fg_27)))))]) (w1 := [(q_30, .inr (7, [.ref rq_31, .int 0])), (rq_31, .inl (rc_31, 15, .inl (fun _ => 0)))]) hP hD [2] [0, 1] rfl rfl (by decide) (by decide) hk1 hFc hP1 hD1
          have hK := (hK.sub (tys' := [(cA_11, .object RX8)]) [0] rfl).app hK1
          generalize H1 = H at hP hS ⊢
          have hP : va_P (dC, dI) vwCl [(h0, .inr (8, [.int i, .null, .int 0, .int 0, .int 0, .ref q_1, .ref q_2, .ref q_3, .ref q_4, .ref q_5, .ref q_7, .ref q_9, .ref q_11, .ref q_12])), (q_11, .inl (cA_11, 4, .inr (.inr (.inr (.inr fg_27))))), (q_30, .inr (7, [.ref rq_31, .int 0])), (rq_31, .inl (rc_31, 15, .inl (fun _ => 0)))] H := hP
          have hD : va_D A [(h0, .inr (8, [.int i, .null, .int 0, .int 0, .int 0, .ref q_1, .ref q_2, .ref q_3, .ref q_4, .ref q_5, .ref q_7, .ref q_9, .ref q_11, .ref q_12])), (q_11, .inl (cA_11, 4, .inr (.inr (.inr (.inr fg_27))))), (q_30, .inr (7, [.ref rq_31, .int 0])), (rq_31, .inl (rc_31, 15, .inl (fun _ => 0)))] := hD
          have hK : va_K (dC, dI) vwCl [(cA_11, .object RX8), (rc_31, .int)] s := hK
          refine W.widen (k := 28) (n := 549) (by omega) (by omega) ?_
          refine va_astq hx hb hK hP hD hS 1 0 2 7 rfl rfl rfl rfl (by unfold vp_in; decide +kernel) dX9_init_116 (fun H locs hP hD hS => ?_)
          have hP : va_P (dC, dI) vwCl [(h0, .inr (8, [.int i, .null, .int 0, .int 0, .int 0, .ref q_1, .ref q_2, .ref q_3, .ref q_4, .ref q_5, .ref q_7, .ref q_9, .ref q_11, .ref q_12])), (q_11, .inl (cA_11, 4, .inr (.inr (.inr (.inr (va_up (fg_27) 3 (some q_30))))))), (q_30, .inr (7, [.ref rq_31, .int 0])), (rq_31, .inl (rc_31, 15, .inl (fun _ => 0)))] H := hP
          have hD : va_D A [(h0, .inr (8, [.int i, .null, .int 0, .int 0, .int 0, .ref q_1, .ref q_2, .ref q_3, .ref q_4, .ref q_5, .ref q_7, .ref q_9, .ref q_11, .ref q_12])), (q_11, .inl (cA_11, 4, .inr (.inr (.inr (.inr (va_up (fg_27) 3 (some q_30))))))), (q_30, .inr (7, [.ref rq_31, .int 0])), (rq_31, .inl (rc_31, 15, .inl (fun _ => 0)))] := hD
          generalize hg_32 : va_up (fg_27) 3 (some q_30) = fg_32 at hP hD
          have hP : va_P (dC, dI) vwCl [(h0, .inr (8, [.int i, .null, .int 0, .int 0, .int 0, .ref q_1, .ref q_2, .ref q_3, .ref q_4, .ref q_5, .ref q_7, .ref q_9, .ref q_11, .ref q_12])), (q_11, .inl (cA_11, 4, .inr (.inr (.inr (.inr fg_32))))), (q_30, .inr (7, [.ref rq_31, .int 0])), (rq_31, .inl (rc_31, 15, .inl (fun _ => 0)))] H := hP
          have hD : va_D A [(h0, .inr (8, [.int i, .null, .int 0, .int 0, .int 0, .ref q_1, .ref q_2, .ref q_3, .ref q_4, .ref q_5, .ref q_7, .ref q_9, .ref q_11, .ref q_12])), (q_11, .inl (cA_11, 4, .inr (.inr (.inr (.inr fg_32))))), (q_30, .inr (7, [.ref rq_31, .int 0])), (rq_31, .inl (rc_31, 15, .inl (fun _ => 0)))] := hD
          have hP := hP.sub (ws' := [(h0, .inr (8, [.int i, .null, .int 0, .int 0, .int 0, .ref q_1, .ref q_2, .ref q_3, .ref q_4, .ref q_5, .ref q_7, .ref q_9, .ref q_11, .ref q_12])), (q_11, .inl (cA_11, 4, .inr (.inr (.inr (.inr fg_32)))))]) [0, 1] rfl
          have hD := hD.sub (ws' := [(h0, .inr (8, [.int i, .null, .int 0, .int 0, .int 0, .ref q_1, .ref q_2, .ref q_3, .ref q_4, .ref q_5, .ref q_7, .ref q_9, .ref q_11, .ref q_12])), (q_11, .inl (cA_11, 4, .inr (.inr (.inr (.inr fg_32)))))]) [0, 1] (by decide) rfl
          have hK := hK.sub (tys' := [(cA_11, .object RX8)]) [0] rfl
          refine lv_iinc (v := 4) (lv' := [(2, .int 4), (0, .ref h0), (1, .int i)]) hx hb dX9_init_117 hl (k := 0) rfl (by decide) (by decide) rfl (fun ls hl => ?_)
          refine lv_goto (tgt := 97) hx hb dX9_init_120 (by decide) ?_
          refine lv_iload_n hx hb dX9_init_97 rfl (lv_at hl 0 rfl) ?_
          refine lv_iconst (v := 4) hx hb dX9_init_98 (by decide) ?_
          refine lv_icmp_ge (tgt := 123) hx hb dX9_init_99 (by decide) (fun c_34 => ?_) (fun c_34 => ?_)
          · skip
            have hP9 := hP.sub (ws' := [(h0, .inr (8, [.int i, .null, .int 0, .int 0, .int 0, .ref q_1, .ref q_2, .ref q_3, .ref q_4, .ref q_5, .ref q_7, .ref q_9, .ref q_11, .ref q_12]))]) [0] rfl
            have hD9 := hD.sub (ws' := [(h0, .inr (8, [.int i, .null, .int 0, .int 0, .int 0, .ref q_1, .ref q_2, .ref q_3, .ref q_4, .ref q_5, .ref q_7, .ref q_9, .ref q_11, .ref q_12]))]) [0] (by decide) rfl
            have hK9 := hK.sub (tys' := []) [] rfl
            exact W.vret hx hb hr (fun t ht hW => ⟨⟨(), rfl, trivial, _, rfl, by rw [ht]; exact hP9, va_K.moved hW.alike hK9, hD9⟩, hS.F ht⟩) hS.2.2 dX9_init_123
          · exact absurd c_34 (by decide +kernel)
end
section
set_option maxHeartbeats 4000000 in
set_option maxRecDepth 100000 in
/-- Ends(): its rows are made -/
theorem c_Ends_init (l : Launch) (dC : Nat → ClassId) (dI : Nat → Nat → Nat) (h0 sz : Nat) : Met l yX2_init wsX2_init ({ frames := 2, cells := 37, slots := 41997, locals := 61 }) (va_Pc [.ref h0] (fun U => U.heap.size = sz ∧ va_P (dC, dI) vwCl [(h0, .inr (2, [.null, .null, .null, .null, .null, .null, .null, .null, .null, .int 0, .int 0, .int 0, .int 0, .int 0]))] U.heap ∧ va_K (dC, dI) vwCl [] U ∧ va_D (fun _ => True) [(h0, .inr (2, [.null, .null, .null, .null, .null, .null, .null, .null, .null, .int 0, .int 0, .int 0, .int 0, .int 0]))] ∧ va_AO RX8 U)) (va_Qv (fun _ : Unit => True) (fun _ t => ∃ fs : List Value, va_P (dC, dI) vwCl [(h0, .inr (2, fs))] t.heap ∧ va_K (dC, dI) vwCl [] t ∧ va_D (va_A [(h0, .inr (2, [.null, .null, .null, .null, .null, .null, .null, .null, .null, .int 0, .int 0, .int 0, .int 0, .int 0]))] sz) [(h0, .inr (2, fs))]) (va_A [(h0, .inr (2, [.null, .null, .null, .null, .null, .null, .null, .null, .null, .int 0, .int 0, .int 0, .int 0, .int 0]))] sz)) 37 41997 (va_A [(h0, .inr (2, [.null, .null, .null, .null, .null, .null, .null, .null, .null, .int 0, .int 0, .int 0, .int 0, .int 0]))] sz) := by
  refine Met.ofW (cc := cX2_init) (maxL := 2) (ret := none) (by decide) rfl ?_
  intro p e s m args below meth c s₁ B hml hv
  obtain ⟨rfl, hsz, hP, hK, hD0, hAO_RX8⟩ := hv
  have hx := B.exec
  have hb := B.bytes
  have hr := B.returns
  have hts := atoms_spec (ws := wsX2_init) B.pre
  have hown : s.vm.findClass RX2 = some m.cls := findClass_of_methodNamed B.named
  have hlocks := B.notSynchronized
  have hin : meth.name = "<init>" := (name_of_methodNamed B.named B.method).1
  subst hsz
  have hD := hD0.self (sz := s.heap.size)
  generalize hAe : va_A [(h0, .inr (2, [.null, .null, .null, .null, .null, .null, .null, .null, .null, .int 0, .int 0, .int 0, .int 0, .int 0]))] s.heap.size = A at hD ⊢
  have hA : ∀ q : Nat, s.heap.size ≤ q → A q := fun q h => by rw [← hAe]; exact Or.inr h
  have hS : va_S A s.heap s.heap [] := va_S.rf
  have hP : va_P (dC, dI) vwCl [(h0, .inr (2, [.null, .null, .null, .null, .null, .null, .null, .null, .null, .int 0, .int 0, .int 0, .int 0, .int 0]))] s.heap := hP
  have hl := lv_entry ([.ref h0]) (n := 2) (Nat.le_of_ble_eq_true rfl)
  rw [lg_entry_eq]
  generalize (lg_sl ([.ref h0]) ++ List.replicate (2 - (lg_sl ([.ref h0])).length) Slot.unset).toArray = ls at hl ⊢
  have hl : lv_has ls 2 [(0, .ref h0)] := hl
  refine lv_aload_n hx hb dX2_init_0 rfl (lv_at hl 0 rfl) ?_
  refine W.objInit hx hb hown (hts (.methodLink RX2 3 objectInit) (List.mem_of_getElem? (l := wsX2_init) (i := 1) rfl)) (hts (.instanceMethod objectInit) (List.mem_of_getElem? (l := wsX2_init) (i := 2) rfl)) (hts (.code objectInit ⟨#[0xb1]⟩ 1 none) (List.mem_of_getElem? (l := wsX2_init) (i := 3) rfl)) rfl (by rw [hml]; exact hl.1) rfl dX2_init_1 (Nat.le_of_ble_eq_true rfl) (Nat.le_of_ble_eq_true rfl) ?_
  refine W.eq (g2 := F0 m 4 ls []) rfl ?_
  refine lv_aload_n hx hb dX2_init_4 rfl (lv_at hl 0 rfl) ?_
  refine va_new (ci := 5) (fs := [.int 0, .null, .null, .int 0, .int 0, .int 0, .int 0]) (C := RX6) (T := TX6) (N := 7) hx hb hts (by decide +kernel) tyX6 tyX6_ok hown (hts (.classLink RX2 9 RX6) (List.mem_of_getElem? (l := wsX2_init) (i := 4) rfl)) (hts (.instantiable RX6 7) (List.mem_of_getElem? (l := wsX2_init) (i := 5) rfl)) (hts (.initialized RX6) (List.mem_of_getElem? (l := wsX2_init) (i := 6) rfl)) hK hP hD hS hA rfl (fun j hj => by rcases (show j = 0 ∨ j = 1 ∨ j = 2 ∨ j = 3 ∨ j = 4 ∨ j = 5 ∨ j = 6 by omega) with rfl | rfl | rfl | rfl | rfl | rfl | rfl <;> rfl) (Nat.le_of_ble_eq_true rfl) (Nat.le_of_ble_eq_true rfl) dX2_init_5 (fun q_1 H hP hD hS => ?_)
  have hP : va_P (dC, dI) vwCl [(h0, .inr (2, [.null, .null, .null, .null, .null, .null, .null, .null, .null, .int 0, .int 0, .int 0, .int 0, .int 0])), (q_1, .inr (5, [.int 0, .null, .null, .int 0, .int 0, .int 0, .int 0]))] H := hP
  have hD : va_D A [(h0, .inr (2, [.null, .null, .null, .null, .null, .null, .null, .null, .null, .int 0, .int 0, .int 0, .int 0, .int 0])), (q_1, .inr (5, [.int 0, .null, .null, .int 0, .int 0, .int 0, .int 0]))] := hD
  refine W.widen (k := 1) (n := 7) (by omega) (by omega) ?_
  refine lv_dup hx hb dX2_init_8 rfl ?_
  refine lv_iconst (v := 1) hx hb dX2_init_9 (by decide) ?_
  have hPc := hP.sub (ws' := [(q_1, .inr (5, [.int 0, .null, .null, .int 0, .int 0, .int 0, .int 0]))]) [1] rfl
  have hDc := hD.sub (ws' := [(q_1, .inr (5, [.int 0, .null, .null, .int 0, .int 0, .int 0, .int 0]))]) [1] (by decide) rfl
  have hKc := hK.sub (tys' := []) [] rfl
  have hFc := va_free (wc := [(q_1, .inr (5, [.int 0, .null, .null, .int 0, .int 0, .int 0, .int 0]))]) hD hS hA [1] rfl
  refine va_callv (va_runI (As := [.int 1]) (rest := [.ref q_1, .ref h0]) ⟨hx, hb, hml, hown, hts⟩ (c_Notes_init l dC dI q_1 H.size 1 (by decide +kernel) (by decide +kernel)) (cwI 1 hts gX2_init_X6_init rfl rfl rfl (hts (.initialized RX6) (List.mem_of_getElem? (l := wsX2_init) (i := 6) rfl)) (hts (.methodLink RX2 11 yX6_init) (List.mem_of_getElem? (l := wsX2_init) (i := 18) rfl)) (hts (.instanceMethod yX6_init) (List.mem_of_getElem? (l := wsX2_init) (i := 19) rfl)) rfl (by decide +kernel) ⟨Nat.le_of_ble_eq_true rfl, Nat.le_of_ble_eq_true rfl⟩) ⟨fun a U g mk q => by obtain ⟨q0, q1, qP, qK, qD⟩ := q; exact ⟨q0, q1, qP, va_K.moved (u := U) (U := U.calling g mk a) (Vm.Alike.refl U.vm) qK, qD⟩, fun U hU hW => ⟨rfl, by rw [hU], by rw [hU]; exact hPc, va_K.moved hW.alike hKc, hDc.weaken (fun _ _ _ _ => trivial)⟩⟩ rfl rfl hl.1 rfl (lv_room (Nat.le_of_ble_eq_true rfl)) dX2_init_10 ⟨Nat.le_of_ble_eq_true rfl, Nat.le_of_ble_eq_true rfl⟩) hS (fun q _ h => hFc q h) hFc (fun u t H1 locs ht hvm hw hB hz1 hk1 hS => ?_)
  obtain ⟨na_2, nb_2, hP1, hK1, hD1⟩ := hB
  rw [ht] at hP1
  have hK1 := va_K.moved hvm.symm hK1
  obtain ⟨hP, hD⟩ := va_join (wr := [(h0, .inr (2, [.null, .null, .null, .null, .null, .null, .null, .null, .null, .int 0, .int 0, .int 0, .int 0, .int 0]))]) (w1 := [(q_1, .inr (5, [.int 1, .ref na_2, .ref nb_2, .int 0, .int 0, .int 0, .int 0]))]) hP hD [1] [0] rfl rfl (by decide) (by decide) hk1 hFc hP1 hD1
  have hK := (hK.sub (tys' := []) [] rfl).app hK1
  generalize H1 = H at hP hS ⊢
  have hP : va_P (dC, dI) vwCl [(h0, .inr (2, [.null, .null, .null, .null, .null, .null, .null, .null, .null, .int 0, .int 0, .int 0, .int 0, .int 0])), (q_1, .inr (5, [.int 1, .ref na_2, .ref nb_2, .int 0, .int 0, .int 0, .int 0]))] H := hP
  have hD : va_D A [(h0, .inr (2, [.null, .null, .null, .null, .null, .null, .null, .null, .null, .int 0, .int 0, .int 0, .int 0, .int 0])), (q_1, .inr (5, [.int 1, .ref na_2, .ref nb_2, .int 0, .int 0, .int 0, .int 0]))] := hD
  have hK : va_K (dC, dI) vwCl [] s := hK
  refine W.widen (k := 3) (n := 367) (by omega) (by omega) ?_
  refine va_putF (D := (dC, dI)) (ci := 2) (v := .ref q_1) (ty := .object "CardTables$Notes") (C := RX2) (T := TX2) (N := 14) hx hb hts (by decide +kernel) tyX2 tyX2_ok nmX2 hown hK hP hD hS 0 rfl rfl 0 (by decide) (hts (.fieldLink RX2 14 "CardTables$Ends" "quiet" "LCardTables$Notes;") (List.mem_of_getElem? (l := wsX2_init) (i := 7) rfl)) (fun _ h9 => h9) rfl hin rfl (by decide +kernel) rfl rfl (Nat.le_of_ble_eq_true rfl) dX2_init_13 (fun H locs hP hD hS => ?_)
  have hP : va_P (dC, dI) vwCl [(h0, .inr (2, [.ref q_1, .null, .null, .null, .null, .null, .null, .null, .null, .int 0, .int 0, .int 0, .int 0, .int 0])), (q_1, .inr (5, [.int 1, .ref na_2, .ref nb_2, .int 0, .int 0, .int 0, .int 0]))] H := hP
  have hD : va_D A [(h0, .inr (2, [.ref q_1, .null, .null, .null, .null, .null, .null, .null, .null, .int 0, .int 0, .int 0, .int 0, .int 0])), (q_1, .inr (5, [.int 1, .ref na_2, .ref nb_2, .int 0, .int 0, .int 0, .int 0]))] := hD
  have hP := hP.sub (ws' := [(h0, .inr (2, [.ref q_1, .null, .null, .null, .null, .null, .null, .null, .null, .int 0, .int 0, .int 0, .int 0, .int 0]))]) [0] rfl
  have hD := hD.sub (ws' := [(h0, .inr (2, [.ref q_1, .null, .null, .null, .null, .null, .null, .null, .null, .int 0, .int 0, .int 0, .int 0, .int 0]))]) [0] (by decide) rfl
  have hK := hK.sub (tys' := []) [] rfl
  refine lv_aload_n hx hb dX2_init_16 rfl (lv_at hl 0 rfl) ?_
  refine lv_sipush (v := 20736) hx hb dX2_init_17 (by decide) ?_
  refine va_newa (atype := .int) (a0 := (20736, .inl (fun _ => 0))) (N' := 20736) (ty := .int) hx hb (hts (.arrayClass .int) (List.mem_of_getElem? (l := wsX2_init) (i := 8) rfl)) rfl hK hP hD hS hA (fun _ => rfl) (by decide +kernel) (by decide +kernel) (by decide +kernel) (Nat.le_of_ble_eq_true rfl) (Nat.le_of_ble_eq_true rfl) dX2_init_20 (fun q_3 cA_3 H hK hP hD hS => ?_)
  have hP : va_P (dC, dI) vwCl [(h0, .inr (2, [.ref q_1, .null, .null, .null, .null, .null, .null, .null, .null, .int 0, .int 0, .int 0, .int 0, .int 0])), (q_3, .inl (cA_3, 20736, .inl (fun _ => 0)))] H := hP
  have hD : va_D A [(h0, .inr (2, [.ref q_1, .null, .null, .null, .null, .null, .null, .null, .null, .int 0, .int 0, .int 0, .int 0, .int 0])), (q_3, .inl (cA_3, 20736, .inl (fun _ => 0)))] := hD
  have hK : va_K (dC, dI) vwCl [(cA_3, .int)] s := hK
  refine W.widen (k := 4) (n := 21103) (by omega) (by omega) ?_
  refine va_putF (D := (dC, dI)) (ci := 2) (v := .ref q_3) (ty := .array .int) (C := RX2) (T := TX2) (N := 14) hx hb hts (by decide +kernel) tyX2 tyX2_ok nmX2 hown hK hP hD hS 0 rfl rfl 1 (by decide) (hts (.fieldLink RX2 20 "CardTables$Ends" "bounds" "[I") (List.mem_of_getElem? (l := wsX2_init) (i := 9) rfl)) (fun _ h9 => h9) rfl hin rfl (by decide +kernel) rfl rfl (Nat.le_of_ble_eq_true rfl) dX2_init_22 (fun H locs hP hD hS => ?_)
  have hP : va_P (dC, dI) vwCl [(h0, .inr (2, [.ref q_1, .ref q_3, .null, .null, .null, .null, .null, .null, .null, .int 0, .int 0, .int 0, .int 0, .int 0])), (q_3, .inl (cA_3, 20736, .inl (fun _ => 0)))] H := hP
  have hD : va_D A [(h0, .inr (2, [.ref q_1, .ref q_3, .null, .null, .null, .null, .null, .null, .null, .int 0, .int 0, .int 0, .int 0, .int 0])), (q_3, .inl (cA_3, 20736, .inl (fun _ => 0)))] := hD
  have hP := hP.sub (ws' := [(h0, .inr (2, [.ref q_1, .ref q_3, .null, .null, .null, .null, .null, .null, .null, .int 0, .int 0, .int 0, .int 0, .int 0]))]) [0] rfl
  have hD := hD.sub (ws' := [(h0, .inr (2, [.ref q_1, .ref q_3, .null, .null, .null, .null, .null, .null, .null, .int 0, .int 0, .int 0, .int 0, .int 0]))]) [0] (by decide) rfl
  have hK := hK.sub (tys' := []) [] rfl
  refine lv_aload_n hx hb dX2_init_25 rfl (lv_at hl 0 rfl) ?_
  refine lv_sipush (v := 20736) hx hb dX2_init_26 (by decide) ?_
  refine va_newa (atype := .int) (a0 := (20736, .inl (fun _ => 0))) (N' := 20736) (ty := .int) hx hb (hts (.arrayClass .int) (List.mem_of_getElem? (l := wsX2_init) (i := 8) rfl)) rfl hK hP hD hS hA (fun _ => rfl) (by decide +kernel) (by decide +kernel) (by decide +kernel) (Nat.le_of_ble_eq_true rfl) (Nat.le_of_ble_eq_true rfl) dX2_init_29 (fun q_4 cA_4 H hK hP hD hS => ?_)
  have hP : va_P (dC, dI) vwCl [(h0, .inr (2, [.ref q_1, .ref q_3, .null, .null, .null, .null, .null, .null, .null, .int 0, .int 0, .int 0, .int 0, .int 0])), (q_4, .inl (cA_4, 20736, .inl (fun _ => 0)))] H := hP
  have hD : va_D A [(h0, .inr (2, [.ref q_1, .ref q_3, .null, .null, .null, .null, .null, .null, .null, .int 0, .int 0, .int 0, .int 0, .int 0])), (q_4, .inl (cA_4, 20736, .inl (fun _ => 0)))] := hD
  have hK : va_K (dC, dI) vwCl [(cA_4, .int)] s := hK
  refine W.widen (k := 5) (n := 41839) (by omega) (by omega) ?_
  refine va_putF (D := (dC, dI)) (ci := 2) (v := .ref q_4) (ty := .array .int) (C := RX2) (T := TX2) (N := 14) hx hb hts (by decide +kernel) tyX2 tyX2_ok nmX2 hown hK hP hD hS 0 rfl rfl 2 (by decide) (hts (.fieldLink RX2 24 "CardTables$Ends" "sures" "[I") (List.mem_of_getElem? (l := wsX2_init) (i := 10) rfl)) (fun _ h9 => h9) rfl hin rfl (by decide +kernel) rfl rfl (Nat.le_of_ble_eq_true rfl) dX2_init_31 (fun H locs hP hD hS => ?_)
  have hP : va_P (dC, dI) vwCl [(h0, .inr (2, [.ref q_1, .ref q_3, .ref q_4, .null, .null, .null, .null, .null, .null, .int 0, .int 0, .int 0, .int 0, .int 0])), (q_4, .inl (cA_4, 20736, .inl (fun _ => 0)))] H := hP
  have hD : va_D A [(h0, .inr (2, [.ref q_1, .ref q_3, .ref q_4, .null, .null, .null, .null, .null, .null, .int 0, .int 0, .int 0, .int 0, .int 0])), (q_4, .inl (cA_4, 20736, .inl (fun _ => 0)))] := hD
  have hP := hP.sub (ws' := [(h0, .inr (2, [.ref q_1, .ref q_3, .ref q_4, .null, .null, .null, .null, .null, .null, .int 0, .int 0, .int 0, .int 0, .int 0]))]) [0] rfl
  have hD := hD.sub (ws' := [(h0, .inr (2, [.ref q_1, .ref q_3, .ref q_4, .null, .null, .null, .null, .null, .null, .int 0, .int 0, .int 0, .int 0, .int 0]))]) [0] (by decide) rfl
  have hK := hK.sub (tys' := []) [] rfl
  refine lv_aload_n hx hb dX2_init_34 rfl (lv_at hl 0 rfl) ?_
  refine lv_bipush (v := 60) hx hb dX2_init_35 (by decide) ?_
  refine va_newa (atype := .int) (a0 := (60, .inl (fun _ => 0))) (N' := 60) (ty := .int) hx hb (hts (.arrayClass .int) (List.mem_of_getElem? (l := wsX2_init) (i := 8) rfl)) rfl hK hP hD hS hA (fun _ => rfl) (by decide +kernel) (by decide +kernel) (by decide +kernel) (Nat.le_of_ble_eq_true rfl) (Nat.le_of_ble_eq_true rfl) dX2_init_37 (fun q_5 cA_5 H hK hP hD hS => ?_)
  have hP : va_P (dC, dI) vwCl [(h0, .inr (2, [.ref q_1, .ref q_3, .ref q_4, .null, .null, .null, .null, .null, .null, .int 0, .int 0, .int 0, .int 0, .int 0])), (q_5, .inl (cA_5, 60, .inl (fun _ => 0)))] H := hP
  have hD : va_D A [(h0, .inr (2, [.ref q_1, .ref q_3, .ref q_4, .null, .null, .null, .null, .null, .null, .int 0, .int 0, .int 0, .int 0, .int 0])), (q_5, .inl (cA_5, 60, .inl (fun _ => 0)))] := hD
  have hK : va_K (dC, dI) vwCl [(cA_5, .int)] s := hK
  refine W.widen (k := 6) (n := 41899) (by omega) (by omega) ?_
  refine va_putF (D := (dC, dI)) (ci := 2) (v := .ref q_5) (ty := .array .int) (C := RX2) (T := TX2) (N := 14) hx hb hts (by decide +kernel) tyX2 tyX2_ok nmX2 hown hK hP hD hS 0 rfl rfl 3 (by decide) (hts (.fieldLink RX2 27 "CardTables$Ends" "bits" "[I") (List.mem_of_getElem? (l := wsX2_init) (i := 11) rfl)) (fun _ h9 => h9) rfl hin rfl (by decide +kernel) rfl rfl (Nat.le_of_ble_eq_true rfl) dX2_init_39 (fun H locs hP hD hS => ?_)
  have hP : va_P (dC, dI) vwCl [(h0, .inr (2, [.ref q_1, .ref q_3, .ref q_4, .ref q_5, .null, .null, .null, .null, .null, .int 0, .int 0, .int 0, .int 0, .int 0])), (q_5, .inl (cA_5, 60, .inl (fun _ => 0)))] H := hP
  have hD : va_D A [(h0, .inr (2, [.ref q_1, .ref q_3, .ref q_4, .ref q_5, .null, .null, .null, .null, .null, .int 0, .int 0, .int 0, .int 0, .int 0])), (q_5, .inl (cA_5, 60, .inl (fun _ => 0)))] := hD
  have hP := hP.sub (ws' := [(h0, .inr (2, [.ref q_1, .ref q_3, .ref q_4, .ref q_5, .null, .null, .null, .null, .null, .int 0, .int 0, .int 0, .int 0, .int 0]))]) [0] rfl
  have hD := hD.sub (ws' := [(h0, .inr (2, [.ref q_1, .ref q_3, .ref q_4, .ref q_5, .null, .null, .null, .null, .null, .int 0, .int 0, .int 0, .int 0, .int 0]))]) [0] (by decide) rfl
  have hK := hK.sub (tys' := []) [] rfl
  refine lv_aload_n hx hb dX2_init_42 rfl (lv_at hl 0 rfl) ?_
  refine lv_iconst (v := 4) hx hb dX2_init_43 (by decide) ?_
  refine va_newq (C := RX8) (N' := 4) hx hb hown (hts (.classLink RX2 30 RX8) (List.mem_of_getElem? (l := wsX2_init) (i := 12) rfl)) hAO_RX8 hK hP hD hS hA (by decide +kernel) (by decide +kernel) (by decide +kernel) (Nat.le_of_ble_eq_true rfl) (Nat.le_of_ble_eq_true rfl) dX2_init_44 (fun q_6 cA_6 H hK hP hD hS => ?_)
  have hP : va_P (dC, dI) vwCl [(h0, .inr (2, [.ref q_1, .ref q_3, .ref q_4, .ref q_5, .null, .null, .null, .null, .null, .int 0, .int 0, .int 0, .int 0, .int 0])), (q_6, .inl (cA_6, 4, .inr (.inr (.inr (.inr (fun _ => none))))))] H := hP
  have hD : va_D A [(h0, .inr (2, [.ref q_1, .ref q_3, .ref q_4, .ref q_5, .null, .null, .null, .null, .null, .int 0, .int 0, .int 0, .int 0, .int 0])), (q_6, .inl (cA_6, 4, .inr (.inr (.inr (.inr (fun _ => none))))))] := hD
  have hK : va_K (dC, dI) vwCl [(cA_6, .object RX8)] s := hK
  refine W.widen (k := 7) (n := 41903) (by omega) (by omega) ?_
  refine va_putF (D := (dC, dI)) (ci := 2) (v := .ref q_6) (ty := .array (.object "CardTables$Row")) (C := RX2) (T := TX2) (N := 14) hx hb hts (by decide +kernel) tyX2 tyX2_ok nmX2 hown hK hP hD hS 0 rfl rfl 4 (by decide) (hts (.fieldLink RX2 32 "CardTables$Ends" "hands" "[LCardTables$Row;") (List.mem_of_getElem? (l := wsX2_init) (i := 13) rfl)) (fun _ h9 => h9) rfl hin rfl (by decide +kernel) rfl rfl (Nat.le_of_ble_eq_true rfl) dX2_init_47 (fun H locs hP hD hS => ?_)
  have hP : va_P (dC, dI) vwCl [(h0, .inr (2, [.ref q_1, .ref q_3, .ref q_4, .ref q_5, .ref q_6, .null, .null, .null, .null, .int 0, .int 0, .int 0, .int 0, .int 0])), (q_6, .inl (cA_6, 4, .inr (.inr (.inr (.inr (fun _ => none))))))] H := hP
  have hD : va_D A [(h0, .inr (2, [.ref q_1, .ref q_3, .ref q_4, .ref q_5, .ref q_6, .null, .null, .null, .null, .int 0, .int 0, .int 0, .int 0, .int 0])), (q_6, .inl (cA_6, 4, .inr (.inr (.inr (.inr (fun _ => none))))))] := hD
  have hP := hP.sub (ws' := [(h0, .inr (2, [.ref q_1, .ref q_3, .ref q_4, .ref q_5, .ref q_6, .null, .null, .null, .null, .int 0, .int 0, .int 0, .int 0, .int 0])), (q_6, .inl (cA_6, 4, .inr (.inr (.inr (.inr (fun _ => none))))))]) [0, 1] rfl
  have hD := hD.sub (ws' := [(h0, .inr (2, [.ref q_1, .ref q_3, .ref q_4, .ref q_5, .ref q_6, .null, .null, .null, .null, .int 0, .int 0, .int 0, .int 0, .int 0])), (q_6, .inl (cA_6, 4, .inr (.inr (.inr (.inr (fun _ => none))))))]) [0, 1] (by decide) rfl
  have hK := hK.sub (tys' := [(cA_6, .object RX8)]) [0] rfl
  refine lv_aload_n hx hb dX2_init_50 rfl (lv_at hl 0 rfl) ?_
  refine lv_iconst (v := 5) hx hb dX2_init_51 (by decide) ?_
  refine va_newq (C := RX8) (N' := 5) hx hb hown (hts (.classLink RX2 30 RX8) (List.mem_of_getElem? (l := wsX2_init) (i := 12) rfl)) hAO_RX8 hK hP hD hS hA (by decide +kernel) (by decide +kernel) (by decide +kernel) (Nat.le_of_ble_eq_true rfl) (Nat.le_of_ble_eq_true rfl) dX2_init_52 (fun q_7 cA_7 H hK hP hD hS => ?_)
  have hP : va_P (dC, dI) vwCl [(h0, .inr (2, [.ref q_1, .ref q_3, .ref q_4, .ref q_5, .ref q_6, .null, .null, .null, .null, .int 0, .int 0, .int 0, .int 0, .int 0])), (q_6, .inl (cA_6, 4, .inr (.inr (.inr (.inr (fun _ => none)))))), (q_7, .inl (cA_7, 5, .inr (.inr (.inr (.inr (fun _ => none))))))] H := hP
  have hD : va_D A [(h0, .inr (2, [.ref q_1, .ref q_3, .ref q_4, .ref q_5, .ref q_6, .null, .null, .null, .null, .int 0, .int 0, .int 0, .int 0, .int 0])), (q_6, .inl (cA_6, 4, .inr (.inr (.inr (.inr (fun _ => none)))))), (q_7, .inl (cA_7, 5, .inr (.inr (.inr (.inr (fun _ => none))))))] := hD
  have hK : va_K (dC, dI) vwCl [(cA_6, .object RX8), (cA_7, .object RX8)] s := hK
  refine W.widen (k := 8) (n := 41908) (by omega) (by omega) ?_
  refine va_putF (D := (dC, dI)) (ci := 2) (v := .ref q_7) (ty := .array (.object "CardTables$Row")) (C := RX2) (T := TX2) (N := 14) hx hb hts (by decide +kernel) tyX2 tyX2_ok nmX2 hown hK hP hD hS 0 rfl rfl 5 (by decide) (hts (.fieldLink RX2 36 "CardTables$Ends" "tricks" "[LCardTables$Row;") (List.mem_of_getElem? (l := wsX2_init) (i := 14) rfl)) (fun _ h9 => h9) rfl hin rfl (by decide +kernel) rfl rfl (Nat.le_of_ble_eq_true rfl) dX2_init_55 (fun H locs hP hD hS => ?_)
  have hP : va_P (dC, dI) vwCl [(h0, .inr (2, [.ref q_1, .ref q_3, .ref q_4, .ref q_5, .ref q_6, .ref q_7, .null, .null, .null, .int 0, .int 0, .int 0, .int 0, .int 0])), (q_6, .inl (cA_6, 4, .inr (.inr (.inr (.inr (fun _ => none)))))), (q_7, .inl (cA_7, 5, .inr (.inr (.inr (.inr (fun _ => none))))))] H := hP
  have hD : va_D A [(h0, .inr (2, [.ref q_1, .ref q_3, .ref q_4, .ref q_5, .ref q_6, .ref q_7, .null, .null, .null, .int 0, .int 0, .int 0, .int 0, .int 0])), (q_6, .inl (cA_6, 4, .inr (.inr (.inr (.inr (fun _ => none)))))), (q_7, .inl (cA_7, 5, .inr (.inr (.inr (.inr (fun _ => none))))))] := hD
  have hP := hP.sub (ws' := [(h0, .inr (2, [.ref q_1, .ref q_3, .ref q_4, .ref q_5, .ref q_6, .ref q_7, .null, .null, .null, .int 0, .int 0, .int 0, .int 0, .int 0])), (q_6, .inl (cA_6, 4, .inr (.inr (.inr (.inr (fun _ => none)))))), (q_7, .inl (cA_7, 5, .inr (.inr (.inr (.inr (fun _ => none))))))]) [0, 1, 2] rfl
  have hD := hD.sub (ws' := [(h0, .inr (2, [.ref q_1, .ref q_3, .ref q_4, .ref q_5, .ref q_6, .ref q_7, .null, .null, .null, .int 0, .int 0, .int 0, .int 0, .int 0])), (q_6, .inl (cA_6, 4, .inr (.inr (.inr (.inr (fun _ => none)))))), (q_7, .inl (cA_7, 5, .inr (.inr (.inr (.inr (fun _ => none))))))]) [0, 1, 2] (by decide) rfl
  have hK := hK.sub (tys' := [(cA_6, .object RX8), (cA_7, .object RX8)]) [0, 1] rfl
  refine lv_aload_n hx hb dX2_init_58 rfl (lv_at hl 0 rfl) ?_
  refine lv_iconst (v := 5) hx hb dX2_init_59 (by decide) ?_
  refine va_newq (C := RX8) (N' := 5) hx hb hown (hts (.classLink RX2 30 RX8) (List.mem_of_getElem? (l := wsX2_init) (i := 12) rfl)) hAO_RX8 hK hP hD hS hA (by decide +kernel) (by decide +kernel) (by decide +kernel) (Nat.le_of_ble_eq_true rfl) (Nat.le_of_ble_eq_true rfl) dX2_init_60 (fun q_8 cA_8 H hK hP hD hS => ?_)
  have hP : va_P (dC, dI) vwCl [(h0, .inr (2, [.ref q_1, .ref q_3, .ref q_4, .ref q_5, .ref q_6, .ref q_7, .null, .null, .null, .int 0, .int 0, .int 0, .int 0, .int 0])), (q_6, .inl (cA_6, 4, .inr (.inr (.inr (.inr (fun _ => none)))))), (q_7, .inl (cA_7, 5, .inr (.inr (.inr (.inr (fun _ => none)))))), (q_8, .inl (cA_8, 5, .inr (.inr (.inr (.inr (fun _ => none))))))] H := hP
  have hD : va_D A [(h0, .inr (2, [.ref q_1, .ref q_3, .ref q_4, .ref q_5, .ref q_6, .ref q_7, .null, .null, .null, .int 0, .int 0, .int 0, .int 0, .int 0])), (q_6, .inl (cA_6, 4, .inr (.inr (.inr (.inr (fun _ => none)))))), (q_7, .inl (cA_7, 5, .inr (.inr (.inr (.inr (fun _ => none)))))), (q_8, .inl (cA_8, 5, .inr (.inr (.inr (.inr (fun _ => none))))))] := hD
  have hK : va_K (dC, dI) vwCl [(cA_6, .object RX8), (cA_7, .object RX8), (cA_8, .object RX8)] s := hK
  refine W.widen (k := 9) (n := 41913) (by omega) (by omega) ?_
  refine va_putF (D := (dC, dI)) (ci := 2) (v := .ref q_8) (ty := .array (.object "CardTables$Row")) (C := RX2) (T := TX2) (N := 14) hx hb hts (by decide +kernel) tyX2 tyX2_ok nmX2 hown hK hP hD hS 0 rfl rfl 6 (by decide) (hts (.fieldLink RX2 39 "CardTables$Ends" "layers" "[LCardTables$Row;") (List.mem_of_getElem? (l := wsX2_init) (i := 15) rfl)) (fun _ h9 => h9) rfl hin rfl (by decide +kernel) rfl rfl (Nat.le_of_ble_eq_true rfl) dX2_init_63 (fun H locs hP hD hS => ?_)
  have hP : va_P (dC, dI) vwCl [(h0, .inr (2, [.ref q_1, .ref q_3, .ref q_4, .ref q_5, .ref q_6, .ref q_7, .ref q_8, .null, .null, .int 0, .int 0, .int 0, .int 0, .int 0])), (q_6, .inl (cA_6, 4, .inr (.inr (.inr (.inr (fun _ => none)))))), (q_7, .inl (cA_7, 5, .inr (.inr (.inr (.inr (fun _ => none)))))), (q_8, .inl (cA_8, 5, .inr (.inr (.inr (.inr (fun _ => none))))))] H := hP
  have hD : va_D A [(h0, .inr (2, [.ref q_1, .ref q_3, .ref q_4, .ref q_5, .ref q_6, .ref q_7, .ref q_8, .null, .null, .int 0, .int 0, .int 0, .int 0, .int 0])), (q_6, .inl (cA_6, 4, .inr (.inr (.inr (.inr (fun _ => none)))))), (q_7, .inl (cA_7, 5, .inr (.inr (.inr (.inr (fun _ => none)))))), (q_8, .inl (cA_8, 5, .inr (.inr (.inr (.inr (fun _ => none))))))] := hD
  have hP := hP.sub (ws' := [(h0, .inr (2, [.ref q_1, .ref q_3, .ref q_4, .ref q_5, .ref q_6, .ref q_7, .ref q_8, .null, .null, .int 0, .int 0, .int 0, .int 0, .int 0])), (q_6, .inl (cA_6, 4, .inr (.inr (.inr (.inr (fun _ => none)))))), (q_7, .inl (cA_7, 5, .inr (.inr (.inr (.inr (fun _ => none)))))), (q_8, .inl (cA_8, 5, .inr (.inr (.inr (.inr (fun _ => none))))))]) [0, 1, 2, 3] rfl
  have hD := hD.sub (ws' := [(h0, .inr (2, [.ref q_1, .ref q_3, .ref q_4, .ref q_5, .ref q_6, .ref q_7, .ref q_8, .null, .null, .int 0, .int 0, .int 0, .int 0, .int 0])), (q_6, .inl (cA_6, 4, .inr (.inr (.inr (.inr (fun _ => none)))))), (q_7, .inl (cA_7, 5, .inr (.inr (.inr (.inr (fun _ => none)))))), (q_8, .inl (cA_8, 5, .inr (.inr (.inr (.inr (fun _ => none))))))]) [0, 1, 2, 3] (by decide) rfl
  have hK := hK.sub (tys' := [(cA_6, .object RX8), (cA_7, .object RX8), (cA_8, .object RX8)]) [0, 1, 2] rfl
  refine lv_iconst (v := 0) hx hb dX2_init_66 (by decide) ?_
  refine lv_istore_n (lv' := [(1, .int 0), (0, .ref h0)]) hx hb dX2_init_67 rfl hl (by decide) rfl (fun ls hl => ?_)
  refine lv_iload_n hx hb dX2_init_68 rfl (lv_at hl 0 rfl) ?_
  refine lv_iconst (v := 4) hx hb dX2_init_69 (by decide) ?_
  refine lv_icmp_ge (tgt := 93) hx hb dX2_init_70 (by decide) (fun c_9 => ?_) (fun c_9 => ?_)
  · exact absurd c_9 (by decide +kernel)
  · skip
    refine lv_aload_n hx hb dX2_init_73 rfl (lv_at hl 1 rfl) ?_
    refine va_get (D := (dC, dI)) (ci := 2) (v := .ref q_6) (C := RX2) (T := TX2) (N := 14) hx hb hts (by decide +kernel) hown hK hP 0 rfl rfl 4 (by decide) (hts (.fieldLink RX2 32 "CardTables$Ends" "hands" "[LCardTables$Row;") (List.mem_of_getElem? (l := wsX2_init) (i := 13) rfl)) (fun _ h9 => h9) rfl dX2_init_74 ?_
    refine lv_iload_n hx hb dX2_init_77 rfl (lv_at hl 0 rfl) ?_
    refine va_new (ci := 7) (fs := [.null, .int 0]) (C := RX8) (T := TX8) (N := 2) hx hb hts (by decide +kernel) tyX8 tyX8_ok hown (hts (.classLink RX2 30 RX8) (List.mem_of_getElem? (l := wsX2_init) (i := 12) rfl)) (hts (.instantiable RX8 2) (List.mem_of_getElem? (l := wsX2_init) (i := 16) rfl)) (hts (.initialized RX8) (List.mem_of_getElem? (l := wsX2_init) (i := 17) rfl)) hK hP hD hS hA rfl (fun j hj => by rcases (show j = 0 ∨ j = 1 by omega) with rfl | rfl <;> rfl) (Nat.le_of_ble_eq_true rfl) (Nat.le_of_ble_eq_true rfl) dX2_init_78 (fun q_10 H hP hD hS => ?_)
    have hP : va_P (dC, dI) vwCl [(h0, .inr (2, [.ref q_1, .ref q_3, .ref q_4, .ref q_5, .ref q_6, .ref q_7, .ref q_8, .null, .null, .int 0, .int 0, .int 0, .int 0, .int 0])), (q_6, .inl (cA_6, 4, .inr (.inr (.inr (.inr (fun _ => none)))))), (q_7, .inl (cA_7, 5, .inr (.inr (.inr (.inr (fun _ => none)))))), (q_8, .inl (cA_8, 5, .inr (.inr (.inr (.inr (fun _ => none)))))), (q_10, .inr (7, [.null, .int 0]))] H := hP
    have hD : va_D A [(h0, .inr (2, [.ref q_1, .ref q_3, .ref q_4, .ref q_5, .ref q_6, .ref q_7, .ref q_8, .null, .null, .int 0, .int 0, .int 0, .int 0, .int 0])), (q_6, .inl (cA_6, 4, .inr (.inr (.inr (.inr (fun _ => none)))))), (q_7, .inl (cA_7, 5, .inr (.inr (.inr (.inr (fun _ => none)))))), (q_8, .inl (cA_8, 5, .inr (.inr (.inr (.inr (fun _ => none)))))), (q_10, .inr (7, [.null, .int 0]))] := hD
    refine W.widen (k := 10) (n := 41915) (by omega) (by omega) ?_
    refine lv_dup hx hb dX2_init_81 rfl ?_
    refine lv_iconst (v := 4) hx hb dX2_init_82 (by decide) ?_
    have hPc := hP.sub (ws' := [(q_10, .inr (7, [.null, .int 0]))]) [4] rfl
    have hDc := hD.sub (ws' := [(q_10, .inr (7, [.null, .int 0]))]) [4] (by decide) rfl
    have hKc := hK.sub (tys' := []) [] rfl
    have hFc := va_free (wc := [(q_10, .inr (7, [.null, .int 0]))]) hD hS hA [4] rfl
    refine va_callv (va_runI (As := [.int 4]) (rest := [.ref q_10, .int 0, .ref q_6]) ⟨hx, hb, hml, hown, hts⟩ (c_Row_init l dC dI q_10 H.size 4 4 (by decide +kernel) (by decide +kernel) (by decide +kernel) (by decide +kernel)) (cwI 1 hts gX2_init_X8_init rfl rfl rfl (hts (.initialized RX8) (List.mem_of_getElem? (l := wsX2_init) (i := 17) rfl)) (hts (.methodLink RX2 42 yX8_init) (List.mem_of_getElem? (l := wsX2_init) (i := 25) rfl)) (hts (.instanceMethod yX8_init) (List.mem_of_getElem? (l := wsX2_init) (i := 26) rfl)) rfl (by decide +kernel) ⟨Nat.le_of_ble_eq_true rfl, Nat.le_of_ble_eq_true rfl⟩) ⟨fun a U g mk q => by obtain ⟨q0, q1, qP, qK, qD⟩ := q; exact ⟨q0, q1, qP, va_K.moved (u := U) (U := U.calling g mk a) (Vm.Alike.refl U.vm) qK, qD⟩, fun U hU hW => ⟨rfl, by rw [hU], by rw [hU]; exact hPc, va_K.moved hW.alike hKc, hDc.weaken (fun _ _ _ _ => trivial)⟩⟩ rfl rfl hl.1 rfl (lv_room (Nat.le_of_ble_eq_true rfl)) dX2_init_83 ⟨Nat.le_of_ble_eq_true rfl, Nat.le_of_ble_eq_true rfl⟩) hS (fun q _ h => hFc q h) hFc (fun u t H1 locs ht hvm hw hB hz1 hk1 hS => ?_)
    obtain ⟨rq_11, rc_11, hP1, hK1, hD1⟩ := hB
    rw [ht] at hP1
    have hK1 := va_K.moved hvm.symm hK1
    obtain ⟨hP, hD⟩ := va_join (wr := [(h0, .inr (2, [.ref q_1, .ref q_3, .ref q_4, .ref q_5, .ref q_6, .ref q_7, .ref q_8, .null, .null, .int 0, .int 0, .int 0, .int 0, .int 0])), (q_6, .inl (cA_6, 4, .inr (.inr (.inr (.inr (fun _ => none)))))), (q_7, .inl (cA_7, 5, .inr (.inr (.inr (.inr (fun _ => none)))))), (q_8, .inl (cA_8, 5, .inr (.inr (.inr (.inr (fun _ => none))))))]) (w1 := [(q_10, .inr (7, [.ref rq_11, .int 0])), (rq_11, .inl (rc_11, 4, .inl (fun _ => 0)))]) hP hD [4] [0, 1, 2, 3] rfl rfl (by decide) (by decide) hk1 hFc hP1 hD1
    have hK := (hK.sub (tys' := [(cA_6, .object RX8), (cA_7, .object RX8), (cA_8, .object RX8)]) [0, 1, 2] rfl).app hK1
    generalize H1 = H at hP hS ⊢
    have hP : va_P (dC, dI) vwCl [(h0, .inr (2, [.ref q_1, .ref q_3, .ref q_4, .ref q_5, .ref q_6, .ref q_7, .ref q_8, .null, .null, .int 0, .int 0, .int 0, .int 0, .int 0])), (q_6, .inl (cA_6, 4, .inr (.inr (.inr (.inr (fun _ => none)))))), (q_7, .inl (cA_7, 5, .inr (.inr (.inr (.inr (fun _ => none)))))), (q_8, .inl (cA_8, 5, .inr (.inr (.inr (.inr (fun _ => none)))))), (q_10, .inr (7, [.ref rq_11, .int 0])), (rq_11, .inl (rc_11, 4, .inl (fun _ => 0)))] H := hP
    have hD : va_D A [(h0, .inr (2, [.ref q_1, .ref q_3, .ref q_4, .ref q_5, .ref q_6, .ref q_7, .ref q_8, .null, .null, .int 0, .int 0, .int 0, .int 0, .int 0])), (q_6, .inl (cA_6, 4, .inr (.inr (.inr (.inr (fun _ => none)))))), (q_7, .inl (cA_7, 5, .inr (.inr (.inr (.inr (fun _ => none)))))), (q_8, .inl (cA_8, 5, .inr (.inr (.inr (.inr (fun _ => none)))))), (q_10, .inr (7, [.ref rq_11, .int 0])), (rq_11, .inl (rc_11, 4, .inl (fun _ => 0)))] := hD
    have hK : va_K (dC, dI) vwCl [(cA_6, .object RX8), (cA_7, .object RX8), (cA_8, .object RX8), (rc_11, .int)] s := hK
    refine W.widen (k := 11) (n := 41919) (by omega) (by omega) ?_
    refine va_astq hx hb hK hP hD hS 1 0 4 7 rfl rfl rfl rfl (by unfold vp_in; decide +kernel) dX2_init_86 (fun H locs hP hD hS => ?_)
    have hP : va_P (dC, dI) vwCl [(h0, .inr (2, [.ref q_1, .ref q_3, .ref q_4, .ref q_5, .ref q_6, .ref q_7, .ref q_8, .null, .null, .int 0, .int 0, .int 0, .int 0, .int 0])), (q_6, .inl (cA_6, 4, .inr (.inr (.inr (.inr (va_up (fun _ => none) 0 (some q_10))))))), (q_7, .inl (cA_7, 5, .inr (.inr (.inr (.inr (fun _ => none)))))), (q_8, .inl (cA_8, 5, .inr (.inr (.inr (.inr (fun _ => none)))))), (q_10, .inr (7, [.ref rq_11, .int 0])), (rq_11, .inl (rc_11, 4, .inl (fun _ => 0)))] H := hP
    have hD : va_D A [(h0, .inr (2, [.ref q_1, .ref q_3, .ref q_4, .ref q_5, .ref q_6, .ref q_7, .ref q_8, .null, .null, .int 0, .int 0, .int 0, .int 0, .int 0])), (q_6, .inl (cA_6, 4, .inr (.inr (.inr (.inr (va_up (fun _ => none) 0 (some q_10))))))), (q_7, .inl (cA_7, 5, .inr (.inr (.inr (.inr (fun _ => none)))))), (q_8, .inl (cA_8, 5, .inr (.inr (.inr (.inr (fun _ => none)))))), (q_10, .inr (7, [.ref rq_11, .int 0])), (rq_11, .inl (rc_11, 4, .inl (fun _ => 0)))] := hD
    generalize hg_12 : va_up (fun _ => none) 0 (some q_10) = fg_12 at hP hD
    have hP : va_P (dC, dI) vwCl [(h0, .inr (2, [.ref q_1, .ref q_3, .ref q_4, .ref q_5, .ref q_6, .ref q_7, .ref q_8, .null, .null, .int 0, .int 0, .int 0, .int 0, .int 0])), (q_6, .inl (cA_6, 4, .inr (.inr (.inr (.inr fg_12))))), (q_7, .inl (cA_7, 5, .inr (.inr (.inr (.inr (fun _ => none)))))), (q_8, .inl (cA_8, 5, .inr (.inr (.inr (.inr (fun _ => none)))))), (q_10, .inr (7, [.ref rq_11, .int 0])), (rq_11, .inl (rc_11, 4, .inl (fun _ => 0)))] H := hP
    have hD : va_D A [(h0, .inr (2, [.ref q_1, .ref q_3, .ref q_4, .ref q_5, .ref q_6, .ref q_7, .ref q_8, .null, .null, .int 0, .int 0, .int 0, .int 0, .int 0])), (q_6, .inl (cA_6, 4, .inr (.inr (.inr (.inr fg_12))))), (q_7, .inl (cA_7, 5, .inr (.inr (.inr (.inr (fun _ => none)))))), (q_8, .inl (cA_8, 5, .inr (.inr (.inr (.inr (fun _ => none)))))), (q_10, .inr (7, [.ref rq_11, .int 0])), (rq_11, .inl (rc_11, 4, .inl (fun _ => 0)))] := hD
    have hP := hP.sub (ws' := [(h0, .inr (2, [.ref q_1, .ref q_3, .ref q_4, .ref q_5, .ref q_6, .ref q_7, .ref q_8, .null, .null, .int 0, .int 0, .int 0, .int 0, .int 0])), (q_6, .inl (cA_6, 4, .inr (.inr (.inr (.inr fg_12))))), (q_7, .inl (cA_7, 5, .inr (.inr (.inr (.inr (fun _ => none)))))), (q_8, .inl (cA_8, 5, .inr (.inr (.inr (.inr (fun _ => none))))))]) [0, 1, 2, 3] rfl
    have hD := hD.sub (ws' := [(h0, .inr (2, [.ref q_1, .ref q_3, .ref q_4, .ref q_5, .ref q_6, .ref q_7, .ref q_8, .null, .null, .int 0, .int 0, .int 0, .int 0, .int 0])), (q_6, .inl (cA_6, 4, .inr (.inr (.inr (.inr fg_12))))), (q_7, .inl (cA_7, 5, .inr (.inr (.inr (.inr (fun _ => none)))))), (q_8, .inl (cA_8, 5, .inr (.inr (.inr (.inr (fun _ => none))))))]) [0, 1, 2, 3] (by decide) rfl
    have hK := hK.sub (tys' := [(cA_6, .object RX8), (cA_7, .object RX8), (cA_8, .object RX8)]) [0, 1, 2] rfl
    refine lv_iinc (v := 1) (lv' := [(1, .int 1), (0, .ref h0)]) hx hb dX2_init_87 hl (k := 0) rfl (by decide) (by decide) rfl (fun ls hl => ?_)
    refine lv_goto (tgt := 68) hx hb dX2_init_90 (by decide) ?_
    refine lv_iload_n hx hb dX2_init_68 rfl (lv_at hl 0 rfl) ?_
    refine lv_iconst (v := 4) hx hb dX2_init_69 (by decide) ?_
    refine lv_icmp_ge (tgt := 93) hx hb dX2_init_70 (by decide) (fun c_14 => ?_) (fun c_14 => ?_)
    · exact absurd c_14 (by decide +kernel)
    · skip
      refine lv_aload_n hx hb dX2_init_73 rfl (lv_at hl 1 rfl) ?_
      refine va_get (D := (dC, dI)) (ci := 2) (v := .ref q_6) (C := RX2) (T := TX2) (N := 14) hx hb hts (by decide +kernel) hown hK hP 0 rfl rfl 4 (by decide) (hts (.fieldLink RX2 32 "CardTables$Ends" "hands" "[LCardTables$Row;") (List.mem_of_getElem? (l := wsX2_init) (i := 13) rfl)) (fun _ h9 => h9) rfl dX2_init_74 ?_
      refine lv_iload_n hx hb dX2_init_77 rfl (lv_at hl 0 rfl) ?_
      refine va_new (ci := 7) (fs := [.null, .int 0]) (C := RX8) (T := TX8) (N := 2) hx hb hts (by decide +kernel) tyX8 tyX8_ok hown (hts (.classLink RX2 30 RX8) (List.mem_of_getElem? (l := wsX2_init) (i := 12) rfl)) (hts (.instantiable RX8 2) (List.mem_of_getElem? (l := wsX2_init) (i := 16) rfl)) (hts (.initialized RX8) (List.mem_of_getElem? (l := wsX2_init) (i := 17) rfl)) hK hP hD hS hA rfl (fun j hj => by rcases (show j = 0 ∨ j = 1 by omega) with rfl | rfl <;> rfl) (Nat.le_of_ble_eq_true rfl) (Nat.le_of_ble_eq_true rfl) dX2_init_78 (fun q_15 H hP hD hS => ?_)
      have hP : va_P (dC, dI) vwCl [(h0, .inr (2, [.ref q_1, .ref q_3, .ref q_4, .ref q_5, .ref q_6, .ref q_7, .ref q_8, .null, .null, .int 0, .int 0, .int 0, .int 0, .int 0])), (q_6, .inl (cA_6, 4, .inr (.inr (.inr (.inr fg_12))))), (q_7, .inl (cA_7, 5, .inr (.inr (.inr (.inr (fun _ => none)))))), (q_8, .inl (cA_8, 5, .inr (.inr (.inr (.inr (fun _ => none)))))), (q_15, .inr (7, [.null, .int 0]))] H := hP
      have hD : va_D A [(h0, .inr (2, [.ref q_1, .ref q_3, .ref q_4, .ref q_5, .ref q_6, .ref q_7, .ref q_8, .null, .null, .int 0, .int 0, .int 0, .int 0, .int 0])), (q_6, .inl (cA_6, 4, .inr (.inr (.inr (.inr fg_12))))), (q_7, .inl (cA_7, 5, .inr (.inr (.inr (.inr (fun _ => none)))))), (q_8, .inl (cA_8, 5, .inr (.inr (.inr (.inr (fun _ => none)))))), (q_15, .inr (7, [.null, .int 0]))] := hD
      refine W.widen (k := 12) (n := 41921) (by omega) (by omega) ?_
      refine lv_dup hx hb dX2_init_81 rfl ?_
      refine lv_iconst (v := 4) hx hb dX2_init_82 (by decide) ?_
      have hPc := hP.sub (ws' := [(q_15, .inr (7, [.null, .int 0]))]) [4] rfl
      have hDc := hD.sub (ws' := [(q_15, .inr (7, [.null, .int 0]))]) [4] (by decide) rfl
      have hKc := hK.sub (tys' := []) [] rfl
      have hFc := va_free (wc := [(q_15, .inr (7, [.null, .int 0]))]) hD hS hA [4] rfl
      refine va_callv (va_runI (As := [.int 4]) (rest := [.ref q_15, .int 1, .ref q_6]) ⟨hx, hb, hml, hown, hts⟩ (c_Row_init l dC dI q_15 H.size 4 4 (by decide +kernel) (by decide +kernel) (by decide +kernel) (by decide +kernel)) (cwI 1 hts gX2_init_X8_init rfl rfl rfl (hts (.initialized RX8) (List.mem_of_getElem? (l := wsX2_init) (i := 17) rfl)) (hts (.methodLink RX2 42 yX8_init) (List.mem_of_getElem? (l := wsX2_init) (i := 25) rfl)) (hts (.instanceMethod yX8_init) (List.mem_of_getElem? (l := wsX2_init) (i := 26) rfl)) rfl (by decide +kernel) ⟨Nat.le_of_ble_eq_true rfl, Nat.le_of_ble_eq_true rfl⟩) ⟨fun a U g mk q => by obtain ⟨q0, q1, qP, qK, qD⟩ := q; exact ⟨q0, q1, qP, va_K.moved (u := U) (U := U.calling g mk a) (Vm.Alike.refl U.vm) qK, qD⟩, fun U hU hW => ⟨rfl, by rw [hU], by rw [hU]; exact hPc, va_K.moved hW.alike hKc, hDc.weaken (fun _ _ _ _ => trivial)⟩⟩ rfl rfl hl.1 rfl (lv_room (Nat.le_of_ble_eq_true rfl)) dX2_init_83 ⟨Nat.le_of_ble_eq_true rfl, Nat.le_of_ble_eq_true rfl⟩) hS (fun q _ h => hFc q h) hFc (fun u t H1 locs ht hvm hw hB hz1 hk1 hS => ?_)
      obtain ⟨rq_16, rc_16, hP1, hK1, hD1⟩ := hB
      rw [ht] at hP1
      have hK1 := va_K.moved hvm.symm hK1
      obtain ⟨hP, hD⟩ := va_join (wr := [(h0, .inr (2, [.ref q_1, .ref q_3, .ref q_4, .ref q_5, .ref q_6, .ref q_7, .ref q_8, .null, .null, .int 0, .int 0, .int 0, .int 0, .int 0])), (q_6, .inl (cA_6, 4, .inr (.inr (.inr (.inr fg_12))))), (q_7, .inl (cA_7, 5, .inr (.inr (.inr (.inr (fun _ => none)))))), (q_8, .inl (cA_8, 5, .inr (.inr (.inr (.inr (fun _ => none))))))]) (w1 := [(q_15, .inr (7, [.ref rq_16, .int 0])), (rq_16, .inl (rc_16, 4, .inl (fun _ => 0)))]) hP hD [4] [0, 1, 2, 3] rfl rfl (by decide) (by decide) hk1 hFc hP1 hD1
      have hK := (hK.sub (tys' := [(cA_6, .object RX8), (cA_7, .object RX8), (cA_8, .object RX8)]) [0, 1, 2] rfl).app hK1
      generalize H1 = H at hP hS ⊢
      have hP : va_P (dC, dI) vwCl [(h0, .inr (2, [.ref q_1, .ref q_3, .ref q_4, .ref q_5, .ref q_6, .ref q_7, .ref q_8, .null, .null, .int 0, .int 0, .int 0, .int 0, .int 0])), (q_6, .inl (cA_6, 4, .inr (.inr (.inr (.inr fg_12))))), (q_7, .inl (cA_7, 5, .inr (.inr (.inr (.inr (fun _ => none)))))), (q_8, .inl (cA_8, 5, .inr (.inr (.inr (.inr (fun _ => none)))))), (q_15, .inr (7, [.ref rq_16, .int 0])), (rq_16, .inl (rc_16, 4, .inl (fun _ => 0)))] H := hP
      have hD : va_D A [(h0, .inr (2, [.ref q_1, .ref q_3, .ref q_4, .ref q_5, .ref q_6, .ref q_7, .ref q_8, .null, .null, .int 0, .int 0, .int 0, .int 0, .int 0])), (q_6, .inl (cA_6, 4, .inr (.inr (.inr (.inr fg_12))))), (q_7, .inl (cA_7, 5, .inr (.inr (.inr (.inr (fun _ => none)))))), (q_8, .inl (cA_8, 5, .inr (.inr (.inr (.inr (fun _ => none)))))), (q_15, .inr (7, [.ref rq_16, .int 0])), (rq_16, .inl (rc_16, 4, .inl (fun _ => 0)))] := hD
      have hK : va_K (dC, dI) vwCl [(cA_6, .object RX8), (cA_7, .object RX8), (cA_8, .object RX8), (rc_16, .int)] s := hK
      refine W.widen (k := 13) (n := 41925) (by omega) (by omega) ?_
      refine va_astq hx hb hK hP hD hS 1 0 4 7 rfl rfl rfl rfl (by unfold vp_in; decide +kernel) dX2_init_86 (fun H locs hP hD hS => ?_)
      have hP : va_P (dC, dI) vwCl [(h0, .inr (2, [.ref q_1, .ref q_3, .ref q_4, .ref q_5, .ref q_6, .ref q_7, .ref q_8, .null, .null, .int 0, .int 0, .int 0, .int 0, .int 0])), (q_6, .inl (cA_6, 4, .inr (.inr (.inr (.inr (va_up (fg_12) 1 (some q_15))))))), (q_7, .inl (cA_7, 5, .inr (.inr (.inr (.inr (fun _ => none)))))), (q_8, .inl (cA_8, 5, .inr (.inr (.inr (.inr (fun _ => none)))))), (q_15, .inr (7, [.ref rq_16, .int 0])), (rq_16, .inl (rc_16, 4, .inl (fun _ => 0)))] H := hP
      have hD : va_D A [(h0, .inr (2, [.ref q_1, .ref q_3, .ref q_4, .ref q_5, .ref q_6, .ref q_7, .ref q_8, .null, .null, .int 0, .int 0, .int 0, .int 0, .int 0])), (q_6, .inl (cA_6, 4, .inr (.inr (.inr (.inr (va_up (fg_12) 1 (some q_15))))))), (q_7, .inl (cA_7, 5, .inr (.inr (.inr (.inr (fun _ => none)))))), (q_8, .inl (cA_8, 5, .inr (.inr (.inr (.inr (fun _ => none)))))), (q_15, .inr (7, [.ref rq_16, .int 0])), (rq_16, .inl (rc_16, 4, .inl (fun _ => 0)))] := hD
      generalize hg_17 : va_up (fg_12) 1 (some q_15) = fg_17 at hP hD
      have hP : va_P (dC, dI) vwCl [(h0, .inr (2, [.ref q_1, .ref q_3, .ref q_4, .ref q_5, .ref q_6, .ref q_7, .ref q_8, .null, .null, .int 0, .int 0, .int 0, .int 0, .int 0])), (q_6, .inl (cA_6, 4, .inr (.inr (.inr (.inr fg_17))))), (q_7, .inl (cA_7, 5, .inr (.inr (.inr (.inr (fun _ => none)))))), (q_8, .inl (cA_8, 5, .inr (.inr (.inr (.inr (fun _ => none)))))), (q_15, .inr (7, [.ref rq_16, .int 0])), (rq_16, .inl (rc_16, 4, .inl (fun _ => 0)))] H := hP
      have hD : va_D A [(h0, .inr (2, [.ref q_1, .ref q_3, .ref q_4, .ref q_5, .ref q_6, .ref q_7, .ref q_8, .null, .null, .int 0, .int 0, .int 0, .int 0, .int 0])), (q_6, .inl (cA_6, 4, .inr (.inr (.inr (.inr fg_17))))), (q_7, .inl (cA_7, 5, .inr (.inr (.inr (.inr (fun _ => none)))))), (q_8, .inl (cA_8, 5, .inr (.inr (.inr (.inr (fun _ => none)))))), (q_15, .inr (7, [.ref rq_16, .int 0])), (rq_16, .inl (rc_16, 4, .inl (fun _ => 0)))] := hD
      have hP := hP.sub (ws' := [(h0, .inr (2, [.ref q_1, .ref q_3, .ref q_4, .ref q_5, .ref q_6, .ref q_7, .ref q_8, .null, .null, .int 0, .int 0, .int 0, .int 0, .int 0])), (q_6, .inl (cA_6, 4, .inr (.inr (.inr (.inr fg_17))))), (q_7, .inl (cA_7, 5, .inr (.inr (.inr (.inr (fun _ => none)))))), (q_8, .inl (cA_8, 5, .inr (.inr (.inr (.inr (fun _ => none))))))]) [0, 1, 2, 3] rfl
      have hD := hD.sub (ws' := [(h0, .inr (2, [.ref q_1, .ref q_3, .ref q_4, .ref q_5, .ref q_6, .ref q_7, .ref q_8, .null, .null, .int 0, .int 0, .int 0, .int 0, .int 0])), (q_6, .inl (cA_6, 4, .inr (.inr (.inr (.inr fg_17))))), (q_7, .inl (cA_7, 5, .inr (.inr (.inr (.inr (fun _ => none)))))), (q_8, .inl (cA_8, 5, .inr (.inr (.inr (.inr (fun _ => none))))))]) [0, 1, 2, 3] (by decide) rfl
      have hK := hK.sub (tys' := [(cA_6, .object RX8), (cA_7, .object RX8), (cA_8, .object RX8)]) [0, 1, 2] rfl
      refine lv_iinc (v := 2) (lv' := [(1, .int 2), (0, .ref h0)]) hx hb dX2_init_87 hl (k := 0) rfl (by decide) (by decide) rfl (fun ls hl => ?_)
      refine lv_goto (tgt := 68) hx hb dX2_init_90 (by decide) ?_
      refine lv_iload_n hx hb dX2_init_68 rfl (lv_at hl 0 rfl) ?_
      refine lv_iconst (v := 4) hx hb dX2_init_69 (by decide) ?_
      refine lv_icmp_ge (tgt := 93) hx hb dX2_init_70 (by decide) (fun c_19 => ?_) (fun c_19 => ?_)
      · exact absurd c_19 (by decide +kernel)
      · skip
        refine lv_aload_n hx hb dX2_init_73 rfl (lv_at hl 1 rfl) ?_
        refine va_get (D := (dC, dI)) (ci := 2) (v := .ref q_6) (C := RX2) (T := TX2) (N := 14) hx hb hts (by decide +kernel) hown hK hP 0 rfl rfl 4 (by decide) (hts (.fieldLink RX2 32 "CardTables$Ends" "hands" "[LCardTables$Row;") (List.mem_of_getElem? (l := wsX2_init) (i := 13) rfl)) (fun _ h9 => h9) rfl dX2_init_74 ?_
        refine lv_iload_n hx hb dX2_init_77 rfl (lv_at hl 0 rfl) ?_
        refine va_new (ci := 7) (fs := [.null, .int 0]) (C := RX8) (T := TX8) (N := 2) hx hb hts (by decide +kernel) tyX8 tyX8_ok hown (hts (.classLink RX2 30 RX8) (List.mem_of_getElem? (l := wsX2_init) (i := 12) rfl)) (hts (.instantiable RX8 2) (List.mem_of_getElem? (l := wsX2_init) (i := 16) rfl)) (hts (.initialized RX8) (List.mem_of_getElem? (l := wsX2_init) (i := 17) rfl)) hK hP hD hS hA rfl (fun j hj => by rcases (show j = 0 ∨ j = 1 by omega) with rfl | rfl <;> rfl) (Nat.le_of_ble_eq_true rfl) (Nat.le_of_ble_eq_true rfl) dX2_init_78 (fun q_20 H hP hD hS => ?_)
        have hP : va_P (dC, dI) vwCl [(h0, .inr (2, [.ref q_1, .ref q_3, .ref q_4, .ref q_5, .ref q_6, .ref q_7, .ref q_8, .null, .null, .int 0, .int 0, .int 0, .int 0, .int 0])), (q_6, .inl (cA_6, 4, .inr (.inr (.inr (.inr fg_17))))), (q_7, .inl (cA_7, 5, .inr (.inr (.inr (.inr (fun _ => none)))))), (q_8, .inl (cA_8, 5, .inr (.inr (.inr (.inr (fun _ => none)))))), (q_20, .inr (7, [.null, .int 0]))] H := hP
        have hD : va_D A [(h0, .inr (2, [.ref q_1, .ref q_3, .ref q_4, .ref q_5, .ref q_6, .ref q_7, .ref q_8, .null, .null, .int 0, .int 0, .int 0, .int 0, .int 0])), (q_6, .inl (cA_6, 4, .inr (.inr (.inr (.inr fg_17))))), (q_7, .inl (cA_7, 5, .inr (.inr (.inr (.inr (fun _ => none)))))), (q_8, .inl (cA_8, 5, .inr (.inr (.inr (.inr (fun _ => none)))))), (q_20, .inr (7, [.null, .int 0]))] := hD
        refine W.widen (k := 14) (n := 41927) (by omega) (by omega) ?_
        refine lv_dup hx hb dX2_init_81 rfl ?_
        refine lv_iconst (v := 4) hx hb dX2_init_82 (by decide) ?_
        have hPc := hP.sub (ws' := [(q_20, .inr (7, [.null, .int 0]))]) [4] rfl
        have hDc := hD.sub (ws' := [(q_20, .inr (7, [.null, .int 0]))]) [4] (by decide) rfl
        have hKc := hK.sub (tys' := []) [] rfl
        have hFc := va_free (wc := [(q_20, .inr (7, [.null, .int 0]))]) hD hS hA [4] rfl
        refine va_callv (va_runI (As := [.int 4]) (rest := [.ref q_20, .int 2, .ref q_6]) ⟨hx, hb, hml, hown, hts⟩ (c_Row_init l dC dI q_20 H.size 4 4 (by decide +kernel) (by decide +kernel) (by decide +kernel) (by decide +kernel)) (cwI 1 hts gX2_init_X8_init rfl rfl rfl (hts (.initialized RX8) (List.mem_of_getElem? (l := wsX2_init) (i := 17) rfl)) (hts (.methodLink RX2 42 yX8_init) (List.mem_of_getElem? (l := wsX2_init) (i := 25) rfl)) (hts (.instanceMethod yX8_init) (List.mem_of_getElem? (l := wsX2_init) (i := 26) rfl)) rfl (by decide +kernel) ⟨Nat.le_of_ble_eq_true rfl, Nat.le_of_ble_eq_true rfl⟩) ⟨fun a U g mk q => by obtain ⟨q0, q1, qP, qK, qD⟩ := q; exact ⟨q0, q1, qP, va_K.moved (u := U) (U := U.calling g mk a) (Vm.Alike.refl U.vm) qK, qD⟩, fun U hU hW => ⟨rfl, by rw [hU], by rw [hU]; exact hPc, va_K.moved hW.alike hKc, hDc.weaken (fun _ _ _ _ => trivial)⟩⟩ rfl rfl hl.1 rfl (lv_room (Nat.le_of_ble_eq_true rfl)) dX2_init_83 ⟨Nat.le_of_ble_eq_true rfl, Nat.le_of_ble_eq_true rfl⟩) hS (fun q _ h => hFc q h) hFc (fun u t H1 locs ht hvm hw hB hz1 hk1 hS => ?_)
        obtain ⟨rq_21, rc_21, hP1, hK1, hD1⟩ := hB
        rw [ht] at hP1
        have hK1 := va_K.moved hvm.symm hK1
        obtain ⟨hP, hD⟩ := va_join (wr := [(h0, .inr (2, [.ref q_1, .ref q_3, .ref q_4, .ref q_5, .ref q_6, .ref q_7, .ref q_8, .null, .null, .int 0, .int 0, .int 0, .int 0, .int 0])), (q_6, .inl (cA_6, 4, .inr (.inr (.inr (.inr fg_17))))), (q_7, .inl (cA_7, 5, .inr (.inr (.inr (.inr (fun _ => none)))))), (q_8, .inl (cA_8, 5, .inr (.inr (.inr (.inr (fun _ => none))))))]) (w1 := [(q_20, .inr (7, [.ref rq_21, .int 0])), (rq_21, .inl (rc_21, 4, .inl (fun _ => 0)))]) hP hD [4] [0, 1, 2, 3] rfl rfl (by decide) (by decide) hk1 hFc hP1 hD1
        have hK := (hK.sub (tys' := [(cA_6, .object RX8), (cA_7, .object RX8), (cA_8, .object RX8)]) [0, 1, 2] rfl).app hK1
        generalize H1 = H at hP hS ⊢
        have hP : va_P (dC, dI) vwCl [(h0, .inr (2, [.ref q_1, .ref q_3, .ref q_4, .ref q_5, .ref q_6, .ref q_7, .ref q_8, .null, .null, .int 0, .int 0, .int 0, .int 0, .int 0])), (q_6, .inl (cA_6, 4, .inr (.inr (.inr (.inr fg_17))))), (q_7, .inl (cA_7, 5, .inr (.inr (.inr (.inr (fun _ => none)))))), (q_8, .inl (cA_8, 5, .inr (.inr (.inr (.inr (fun _ => none)))))), (q_20, .inr (7, [.ref rq_21, .int 0])), (rq_21, .inl (rc_21, 4, .inl (fun _ => 0)))] H := hP
        have hD : va_D A [(h0, .inr (2, [.ref q_1, .ref q_3, .ref q_4, .ref q_5, .ref q_6, .ref q_7, .ref q_8, .null, .null, .int 0, .int 0, .int 0, .int 0, .int 0])), (q_6, .inl (cA_6, 4, .inr (.inr (.inr (.inr fg_17))))), (q_7, .inl (cA_7, 5, .inr (.inr (.inr (.inr (fun _ => none)))))), (q_8, .inl (cA_8, 5, .inr (.inr (.inr (.inr (fun _ => none)))))), (q_20, .inr (7, [.ref rq_21, .int 0])), (rq_21, .inl (rc_21, 4, .inl (fun _ => 0)))] := hD
        have hK : va_K (dC, dI) vwCl [(cA_6, .object RX8), (cA_7, .object RX8), (cA_8, .object RX8), (rc_21, .int)] s := hK
        refine W.widen (k := 15) (n := 41931) (by omega) (by omega) ?_
        refine va_astq hx hb hK hP hD hS 1 0 4 7 rfl rfl rfl rfl (by unfold vp_in; decide +kernel) dX2_init_86 (fun H locs hP hD hS => ?_)
        have hP : va_P (dC, dI) vwCl [(h0, .inr (2, [.ref q_1, .ref q_3, .ref q_4, .ref q_5, .ref q_6, .ref q_7, .ref q_8, .null, .null, .int 0, .int 0, .int 0, .int 0, .int 0])), (q_6, .inl (cA_6, 4, .inr (.inr (.inr (.inr (va_up (fg_17) 2 (some q_20))))))), (q_7, .inl (cA_7, 5, .inr (.inr (.inr (.inr (fun _ => none)))))), (q_8, .inl (cA_8, 5, .inr (.inr (.inr (.inr (fun _ => none)))))), (q_20, .inr (7, [.ref rq_21, .int 0])), (rq_21, .inl (rc_21, 4, .inl (fun _ => 0)))] H := hP
        have hD : va_D A [(h0, .inr (2, [.ref q_1, .ref q_3, .ref q_4, .ref q_5, .ref q_6, .ref q_7, .ref q_8, .null, .null, .int 0, .int 0, .int 0, .int 0, .int 0])), (q_6, .inl (cA_6, 4, .inr (.inr (.inr (.inr (va_up (fg_17) 2 (some q_20))))))), (q_7, .inl (cA_7, 5, .inr (.inr (.inr (.inr (fun _ => none)))))), (q_8, .inl (cA_8, 5, .inr (.inr (.inr (.inr (fun _ => none)))))), (q_20, .inr (7, [.ref rq_21, .int 0])), (rq_21, .inl (rc_21, 4, .inl (fun _ => 0)))] := hD
        generalize hg_22 : va_up (fg_17) 2 (some q_20) = fg_22 at hP hD
        have hP : va_P (dC, dI) vwCl [(h0, .inr (2, [.ref q_1, .ref q_3, .ref q_4, .ref q_5, .ref q_6, .ref q_7, .ref q_8, .null, .null, .int 0, .int 0, .int 0, .int 0, .int 0])), (q_6, .inl (cA_6, 4, .inr (.inr (.inr (.inr fg_22))))), (q_7, .inl (cA_7, 5, .inr (.inr (.inr (.inr (fun _ => none)))))), (q_8, .inl (cA_8, 5, .inr (.inr (.inr (.inr (fun _ => none)))))), (q_20, .inr (7, [.ref rq_21, .int 0])), (rq_21, .inl (rc_21, 4, .inl (fun _ => 0)))] H := hP
        have hD : va_D A [(h0, .inr (2, [.ref q_1, .ref q_3, .ref q_4, .ref q_5, .ref q_6, .ref q_7, .ref q_8, .null, .null, .int 0, .int 0, .int 0, .int 0, .int 0])), (q_6, .inl (cA_6, 4, .inr (.inr (.inr (.inr fg_22))))), (q_7, .inl (cA_7, 5, .inr (.inr (.inr (.inr (fun _ => none)))))), (q_8, .inl (cA_8, 5, .inr (.inr (.inr (.inr (fun _ => none)))))), (q_20, .inr (7, [.ref rq_21, .int 0])), (rq_21, .inl (rc_21, 4, .inl (fun _ => 0)))] := hD
        have hP := hP.sub (ws' := [(h0, .inr (2, [.ref q_1, .ref q_3, .ref q_4, .ref q_5, .ref q_6, .ref q_7, .ref q_8, .null, .null, .int 0, .int 0, .int 0, .int 0, .int 0])), (q_6, .inl (cA_6, 4, .inr (.inr (.inr (.inr fg_22))))), (q_7, .inl (cA_7, 5, .inr (.inr (.inr (.inr (fun _ => none)))))), (q_8, .inl (cA_8, 5, .inr (.inr (.inr (.inr (fun _ => none))))))]) [0, 1, 2, 3] rfl
        have hD := hD.sub (ws' := [(h0, .inr (2, [.ref q_1, .ref q_3, .ref q_4, .ref q_5, .ref q_6, .ref q_7, .ref q_8, .null, .null, .int 0, .int 0, .int 0, .int 0, .int 0])), (q_6, .inl (cA_6, 4, .inr (.inr (.inr (.inr fg_22))))), (q_7, .inl (cA_7, 5, .inr (.inr (.inr (.inr (fun _ => none)))))), (q_8, .inl (cA_8, 5, .inr (.inr (.inr (.inr (fun _ => none))))))]) [0, 1, 2, 3] (by decide) rfl
        have hK := hK.sub (tys' := [(cA_6, .object RX8), (cA_7, .object RX8), (cA_8, .object RX8)]) [0, 1, 2] rfl
        refine lv_iinc (v := 3) (lv' := [(1, .int 3), (0, .ref h0)]) hx hb dX2_init_87 hl (k := 0) rfl (by decide) (by decide) rfl (fun ls hl => ?_)
        refine lv_goto (tgt := 68) hx hb dX2_init_90 (by decide) ?_
        refine lv_iload_n hx hb dX2_init_68 rfl (lv_at hl 0 rfl) ?_
        refine lv_iconst (v := 4) hx hb dX2_init_69 (by decide) ?_
        refine lv_icmp_ge (tgt := 93) hx hb dX2_init_70 (by decide) (fun c_24 => ?_) (fun c_24 => ?_)
        · exact absurd c_24 (by decide +kernel)
        · skip
          refine lv_aload_n hx hb dX2_init_73 rfl (lv_at hl 1 rfl) ?_
          refine va_get (D := (dC, dI)) (ci := 2) (v := .ref q_6) (C := RX2) (T := TX2) (N := 14) hx hb hts (by decide +kernel) hown hK hP 0 rfl rfl 4 (by decide) (hts (.fieldLink RX2 32 "CardTables$Ends" "hands" "[LCardTables$Row;") (List.mem_of_getElem? (l := wsX2_init) (i := 13) rfl)) (fun _ h9 => h9) rfl dX2_init_74 ?_
          refine lv_iload_n hx hb dX2_init_77 rfl (lv_at hl 0 rfl) ?_
          refine va_new (ci := 7) (fs := [.null, .int 0]) (C := RX8) (T := TX8) (N := 2) hx hb hts (by decide +kernel) tyX8 tyX8_ok hown (hts (.classLink RX2 30 RX8) (List.mem_of_getElem? (l := wsX2_init) (i := 12) rfl)) (hts (.instantiable RX8 2) (List.mem_of_getElem? (l := wsX2_init) (i := 16) rfl)) (hts (.initialized RX8) (List.mem_of_getElem? (l := wsX2_init) (i := 17) rfl)) hK hP hD hS hA rfl (fun j hj => by rcases (show j = 0 ∨ j = 1 by omega) with rfl | rfl <;> rfl) (Nat.le_of_ble_eq_true rfl) (Nat.le_of_ble_eq_true rfl) dX2_init_78 (fun q_25 H hP hD hS => ?_)
          have hP : va_P (dC, dI) vwCl [(h0, .inr (2, [.ref q_1, .ref q_3, .ref q_4, .ref q_5, .ref q_6, .ref q_7, .ref q_8, .null, .null, .int 0, .int 0, .int 0, .int 0, .int 0])), (q_6, .inl (cA_6, 4, .inr (.inr (.inr (.inr fg_22))))), (q_7, .inl (cA_7, 5, .inr (.inr (.inr (.inr (fun _ => none)))))), (q_8, .inl (cA_8, 5, .inr (.inr (.inr (.inr (fun _ => none)))))), (q_25, .inr (7, [.null, .int 0]))] H := hP
          have hD : va_D A [(h0, .inr (2, [.ref q_1, .ref q_3, .ref q_4, .ref q_5, .ref q_6, .ref q_7, .ref q_8, .null, .null, .int 0, .int 0, .int 0, .int 0, .int 0])), (q_6, .inl (cA_6, 4, .inr (.inr (.inr (.inr fg_22))))), (q_7, .inl (cA_7, 5, .inr (.inr (.inr (.inr (fun _ => none)))))), (q_8, .inl (cA_8, 5, .inr (.inr (.inr (.inr (fun _ => none)))))), (q_25, .inr (7, [.null, .int 0]))] := hD
          refine W.widen (k := 16) (n := 41933) (by omega) (by omega) ?_
          refine lv_dup hx hb dX2_init_81 rfl ?_
          refine lv_iconst (v := 4) hx hb dX2_init_82 (by decide) ?_
          have hPc := hP.sub (ws' := [(q_25, .inr (7, [.null, .int 0]))]) [4] rfl
          have hDc := hD.sub (ws' := [(q_25, .inr (7, [.null, .int 0]))]) [4] (by decide) rfl
          have hKc := hK.sub (tys' := []) [] rfl
          have hFc := va_free (wc := [(q_25, .inr (7, [.null, .int 0]))]) hD hS hA [4] rfl
          refine va_callv (va_runI (As := [.int 4]) (rest := [.ref q_25, .int 3, .ref q_6]) ⟨hx, hb, hml, hown, hts⟩ (c_Row_init l dC dI q_25 H.size 4 4 (by decide +kernel) (by decide +kernel) (by decide +kernel) (by decide +kernel)) (cwI 1 hts gX2_init_X8_init rfl rfl rfl (hts (.initialized RX8) (List.mem_of_getElem? (l := wsX2_init) (i := 17) rfl)) (hts (.methodLink RX2 42 yX8_init) (List.mem_of_getElem? (l := wsX2_init) (i := 25) rfl)) (hts (.instanceMethod yX8_init) (List.mem_of_getElem? (l := wsX2_init) (i := 26) rfl)) rfl (by decide +kernel) ⟨Nat.le_of_ble_eq_true rfl, Nat.le_of_ble_eq_true rfl⟩) ⟨fun a U g mk q => by obtain ⟨q0, q1, qP, qK, qD⟩ := q; exact ⟨q0, q1, qP, va_K.moved (u := U) (U := U.calling g mk a) (Vm.Alike.refl U.vm) qK, qD⟩, fun U hU hW => ⟨rfl, by rw [hU], by rw [hU]; exact hPc, va_K.moved hW.alike hKc, hDc.weaken (fun _ _ _ _ => trivial)⟩⟩ rfl rfl hl.1 rfl (lv_room (Nat.le_of_ble_eq_true rfl)) dX2_init_83 ⟨Nat.le_of_ble_eq_true rfl, Nat.le_of_ble_eq_true rfl⟩) hS (fun q _ h => hFc q h) hFc (fun u t H1 locs ht hvm hw hB hz1 hk1 hS => ?_)
          obtain ⟨rq_26, rc_26, hP1, hK1, hD1⟩ := hB
          rw [ht] at hP1
          have hK1 := va_K.moved hvm.symm hK1
          obtain ⟨hP, hD⟩ := va_join (wr := [(h0, .inr (2, [.ref q_1, .ref q_3, .ref q_4, .ref q_5, .ref q_6, .ref q_7, .ref q_8, .null, .null, .int 0, .int 0, .int 0, .int 0, .int 0])), (q_6, .inl (cA_6, 4, .inr (.inr (.inr (.inr fg_22))))), (q_7, .inl (cA_7, 5, .inr (.inr (.inr (.inr (fun _ => none)))))), (q_8, .inl (cA_8, 5, .inr (.inr (.inr (.inr (fun _ => none))))))]) (w1 := [(q_25, .inr (7, [.ref rq_26, .int 0])), (rq_26, .inl (rc_26, 4, .inl (fun _ => 0)))]) hP hD [4] [0, 1, 2, 3] rfl rfl (by decide) (by decide) hk1 hFc hP1 hD1
          have hK := (hK.sub (tys' := [(cA_6, .object RX8), (cA_7, .object RX8), (cA_8, .object RX8)]) [0, 1, 2] rfl).app hK1
          generalize H1 = H at hP hS ⊢
          have hP : va_P (dC, dI) vwCl [(h0, .inr (2, [.ref q_1, .ref q_3, .ref q_4, .ref q_5, .ref q_6, .ref q_7, .ref q_8, .null, .null, .int 0, .int 0, .int 0, .int 0, .int 0])), (q_6, .inl (cA_6, 4, .inr (.inr (.inr (.inr fg_22))))), (q_7, .inl (cA_7, 5, .inr (.inr (.inr (.inr (fun _ => none)))))), (q_8, .inl (cA_8, 5, .inr (.inr (.inr (.inr (fun _ => none)))))), (q_25, .inr (7, [.ref rq_26, .int 0])), (rq_26, .inl (rc_26, 4, .inl (fun _ => 0)))] H := hP
          have hD : va_D A [(h0, .inr (2, [.ref q_1, .ref q_3, .ref q_4, .ref q_5, .ref q_6, .ref q_7, .ref q_8, .null, .null, .int 0, .int 0, .int 0, .int 0, .int 0])), (q_6, .inl (cA_6, 4, .inr (.inr (.inr (.inr fg_22))))), (q_7, .inl (cA_7, 5, .inr (.inr (.inr (.inr (fun _ => none)))))), (q_8, .inl (cA_8, 5, .inr (.inr (.inr (.inr (fun _ => none)))))), (q_25, .inr (7, [.ref rq_26, .int 0])), (rq_26, .inl (rc_26, 4, .inl (fun _ => 0)))] := hD
          have hK : va_K (dC, dI) vwCl [(cA_6, .object RX8), (cA_7, .object RX8), (cA_8, .object RX8), (rc_26, .int)] s := hK
          refine W.widen (k := 17) (n := 41937) (by omega) (by omega) ?_
          refine va_astq hx hb hK hP hD hS 1 0 4 7 rfl rfl rfl rfl (by unfold vp_in; decide +kernel) dX2_init_86 (fun H locs hP hD hS => ?_)
          have hP : va_P (dC, dI) vwCl [(h0, .inr (2, [.ref q_1, .ref q_3, .ref q_4, .ref q_5, .ref q_6, .ref q_7, .ref q_8, .null, .null, .int 0, .int 0, .int 0, .int 0, .int 0])), (q_6, .inl (cA_6, 4, .inr (.inr (.inr (.inr (va_up (fg_22) 3 (some q_25))))))), (q_7, .inl (cA_7, 5, .inr (.inr (.inr (.inr (fun _ => none)))))), (q_8, .inl (cA_8, 5, .inr (.inr (.inr (.inr (fun _ => none)))))), (q_25, .inr (7, [.ref rq_26, .int 0])), (rq_26, .inl (rc_26, 4, .inl (fun _ => 0)))] H := hP
          have hD : va_D A [(h0, .inr (2, [.ref q_1, .ref q_3, .ref q_4, .ref q_5, .ref q_6, .ref q_7, .ref q_8, .null, .null, .int 0, .int 0, .int 0, .int 0, .int 0])), (q_6, .inl (cA_6, 4, .inr (.inr (.inr (.inr (va_up (fg_22) 3 (some q_25))))))), (q_7, .inl (cA_7, 5, .inr (.inr (.inr (.inr (fun _ => none)))))), (q_8, .inl (cA_8, 5, .inr (.inr (.inr (.inr (fun _ => none)))))), (q_25, .inr (7, [.ref rq_26, .int 0])), (rq_26, .inl (rc_26, 4, .inl (fun _ => 0)))] := hD
          generalize hg_27 : va_up (fg_22) 3 (some q_25) = fg_27 at hP hD
          have hP : va_P (dC, dI) vwCl [(h0, .inr (2, [.ref q_1, .ref q_3, .ref q_4, .ref q_5, .ref q_6, .ref q_7, .ref q_8, .null, .null, .int 0, .int 0, .int 0, .int 0, .int 0])), (q_6, .inl (cA_6, 4, .inr (.inr (.inr (.inr fg_27))))), (q_7, .inl (cA_7, 5, .inr (.inr (.inr (.inr (fun _ => none)))))), (q_8, .inl (cA_8, 5, .inr (.inr (.inr (.inr (fun _ => none)))))), (q_25, .inr (7, [.ref rq_26, .int 0])), (rq_26, .inl (rc_26, 4, .inl (fun _ => 0)))] H := hP
          have hD : va_D A [(h0, .inr (2, [.ref q_1, .ref q_3, .ref q_4, .ref q_5, .ref q_6, .ref q_7, .ref q_8, .null, .null, .int 0, .int 0, .int 0, .int 0, .int 0])), (q_6, .inl (cA_6, 4, .inr (.inr (.inr (.inr fg_27))))), (q_7, .inl (cA_7, 5, .inr (.inr (.inr (.inr (fun _ => none)))))), (q_8, .inl (cA_8, 5, .inr (.inr (.inr (.inr (fun _ => none)))))), (q_25, .inr (7, [.ref rq_26, .int 0])), (rq_26, .inl (rc_26, 4, .inl (fun _ => 0)))] := hD
          have hP := hP.sub (ws' := [(h0, .inr (2, [.ref q_1, .ref q_3, .ref q_4, .ref q_5, .ref q_6, .ref q_7, .ref q_8, .null, .null, .int 0, .int 0, .int 0, .int 0, .int 0])), (q_6, .inl (cA_6, 4, .inr (.inr (.inr (.inr fg_27))))), (q_7, .inl (cA_7, 5, .inr (.inr (.inr (.inr (fun _ => none)))))), (q_8, .inl (cA_8, 5, .inr (.inr (.inr (.inr (fun _ => none))))))]) [0, 1, 2, 3] rfl
          have hD := hD.sub (ws' := [(h0, .inr (2, [.ref q_1, .ref q_3, .ref q_4, .ref q_5, .ref q_6, .ref q_7, .ref q_8, .null, .null, .int 0, .int 0, .int 0, .int 0, .int 0])), (q_6, .inl (cA_6, 4, .inr (.inr (.inr (.inr fg_27))))), (q_7, .inl (cA_7, 5, .inr (.inr (.inr (.inr (fun _ => none)))))), (q_8, .inl (cA_8, 5, .inr (.inr (.inr (.inr (fun _ => none))))))]) [0, 1, 2, 3] (by decide) rfl
          have hK := hK.sub (tys' := [(cA_6, .object RX8), (cA_7, .object RX8), (cA_8, .object RX8)]) [0, 1, 2] rfl
          refine lv_iinc (v := 4) (lv' := [(1, .int 4), (0, .ref h0)]) hx hb dX2_init_87 hl (k := 0) rfl (by decide) (by decide) rfl (fun ls hl => ?_)
          refine lv_goto (tgt := 68) hx hb dX2_init_90 (by decide) ?_
          refine lv_iload_n hx hb dX2_init_68 rfl (lv_at hl 0 rfl) ?_
          refine lv_iconst (v := 4) hx hb dX2_init_69 (by decide) ?_
          refine lv_icmp_ge (tgt := 93) hx hb dX2_init_70 (by decide) (fun c_29 => ?_) (fun c_29 => ?_)
          · skip
            refine lv_iconst (v := 0) hx hb dX2_init_93 (by decide) ?_
            refine lv_istore_n (lv' := [(1, .int 0), (0, .ref h0)]) hx hb dX2_init_94 rfl hl (by decide) rfl (fun ls hl => ?_)
            refine lv_iload_n hx hb dX2_init_95 rfl (lv_at hl 0 rfl) ?_
            refine lv_iconst (v := 4) hx hb dX2_init_96 (by decide) ?_
            refine lv_icmp_gt (tgt := 134) hx hb dX2_init_97 (by decide) (fun c_30 => ?_) (fun c_30 => ?_)
            · exact absurd c_30 (by decide +kernel)
            · skip
              refine lv_aload_n hx hb dX2_init_100 rfl (lv_at hl 1 rfl) ?_
              refine va_get (D := (dC, dI)) (ci := 2) (v := .ref q_7) (C := RX2) (T := TX2) (N := 14) hx hb hts (by decide +kernel) hown hK hP 0 rfl rfl 5 (by decide) (hts (.fieldLink RX2 36 "CardTables$Ends" "tricks" "[LCardTables$Row;") (List.mem_of_getElem? (l := wsX2_init) (i := 14) rfl)) (fun _ h9 => h9) rfl dX2_init_101 ?_
              refine lv_iload_n hx hb dX2_init_104 rfl (lv_at hl 0 rfl) ?_
              refine va_new (ci := 7) (fs := [.null, .int 0]) (C := RX8) (T := TX8) (N := 2) hx hb hts (by decide +kernel) tyX8 tyX8_ok hown (hts (.classLink RX2 30 RX8) (List.mem_of_getElem? (l := wsX2_init) (i := 12) rfl)) (hts (.instantiable RX8 2) (List.mem_of_getElem? (l := wsX2_init) (i := 16) rfl)) (hts (.initialized RX8) (List.mem_of_getElem? (l := wsX2_init) (i := 17) rfl)) hK hP hD hS hA rfl (fun j hj => by rcases (show j = 0 ∨ j = 1 by omega) with rfl | rfl <;> rfl) (Nat.le_of_ble_eq_true rfl) (Nat.le_of_ble_eq_true rfl) dX2_init_105 (fun q_31 H hP hD hS => ?_)
              have hP : va_P (dC, dI) vwCl [(h0, .inr (2, [.ref q_1, .ref q_3, .ref q_4, .ref q_5, .ref q_6, .ref q_7, .ref q_8, .null, .null, .int 0, .int 0, .int 0, .int 0, .int 0])), (q_6, .inl (cA_6, 4, .inr (.inr (.inr (.inr fg_27))))), (q_7, .inl (cA_7, 5, .inr (.inr (.inr (.inr (fun _ => none)))))), (q_8, .inl (cA_8, 5, .inr (.inr (.inr (.inr (fun _ => none)))))), (q_31, .inr (7, [.null, .int 0]))] H := hP
              have hD : va_D A [(h0, .inr (2, [.ref q_1, .ref q_3, .ref q_4, .ref q_5, .ref q_6, .ref q_7, .ref q_8, .null, .null, .int 0, .int 0, .int 0, .int 0, .int 0])), (q_6, .inl (cA_6, 4, .inr (.inr (.inr (.inr fg_27))))), (q_7, .inl (cA_7, 5, .inr (.inr (.inr (.inr (fun _ => none)))))), (q_8, .inl (cA_8, 5, .inr (.inr (.inr (.inr (fun _ => none)))))), (q_31, .inr (7, [.null, .int 0]))] := hD
              refine W.widen (k := 18) (n := 41939) (by omega) (by omega) ?_
              refine lv_dup hx hb dX2_init_108 rfl ?_
              refine lv_iconst (v := 4) hx hb dX2_init_109 (by decide) ?_
              have hPc := hP.sub (ws' := [(q_31, .inr (7, [.null, .int 0]))]) [4] rfl
              have hDc := hD.sub (ws' := [(q_31, .inr (7, [.null, .int 0]))]) [4] (by decide) rfl
              have hKc := hK.sub (tys' := []) [] rfl
              have hFc := va_free (wc := [(q_31, .inr (7, [.null, .int 0]))]) hD hS hA [4] rfl
              refine va_callv (va_runI (As := [.int 4]) (rest := [.ref q_31, .int 0, .ref q_7]) ⟨hx, hb, hml, hown, hts⟩ (c_Row_init l dC dI q_31 H.size 4 4 (by decide +kernel) (by decide +kernel) (by decide +kernel) (by decide +kernel)) (cwI 1 hts gX2_init_X8_init rfl rfl rfl (hts (.initialized RX8) (List.mem_of_getElem? (l := wsX2_init) (i := 17) rfl)) (hts (.methodLink RX2 42 yX8_init) (List.mem_of_getElem? (l := wsX2_init) (i := 25) rfl)) (hts (.instanceMethod yX8_init) (List.mem_of_getElem? (l := wsX2_init) (i := 26) rfl)) rfl (by decide +kernel) ⟨Nat.le_of_ble_eq_true rfl, Nat.le_of_ble_eq_true rfl⟩) ⟨fun a U g mk q => by obtain ⟨q0, q1, qP, qK, qD⟩ := q; exact ⟨q0, q1, qP, va_K.moved (u := U) (U := U.calling g mk a) (Vm.Alike.refl U.vm) qK, qD⟩, fun U hU hW => ⟨rfl, by rw [hU], by rw [hU]; exact hPc, va_K.moved hW.alike hKc, hDc.weaken (fun _ _ _ _ => trivial)⟩⟩ rfl rfl hl.1 rfl (lv_room (Nat.le_of_ble_eq_true rfl)) dX2_init_110 ⟨Nat.le_of_ble_eq_true rfl, Nat.le_of_ble_eq_true rfl⟩) hS (fun q _ h => hFc q h) hFc (fun u t H1 locs ht hvm hw hB hz1 hk1 hS => ?_)
              obtain ⟨rq_32, rc_32, hP1, hK1, hD1⟩ := hB
              rw [ht] at hP1
              have hK1 := va_K.moved hvm.symm hK1
              obtain ⟨hP, hD⟩ := va_join (wr := [(h0, .inr (2, [.ref q_1, .ref q_3, .ref q_4, .ref q_5, .ref q_6, .ref q_7, .ref q_8, .null, .null, .int 0, .int 0, .int 0, .int 0, .int 0])), (q_6, .inl (cA_6, 4, .inr (.inr (.inr (.inr fg_27))))), (q_7, .inl (cA_7, 5, .inr (.inr (.inr (.inr (fun _ => none)))))), (q_8, .inl (cA_8, 5, .inr (.inr (.inr (.inr (fun _ => none))))))]) (w1 := [(q_31, .inr (7, [.ref rq_32, .int 0])), (rq_32, .inl (rc_32, 4, .inl (fun _ => 0)))]) hP hD [4] [0, 1, 2, 3] rfl rfl (by decide) (by decide) hk1 hFc hP1 hD1
              have hK := (hK.sub (tys' := [(cA_6, .object RX8), (cA_7, .object RX8), (cA_8, .object RX8)]) [0, 1, 2] rfl).app hK1
              generalize H1 = H at hP hS ⊢
              have hP : va_P (dC, dI) vwCl [(h0, .inr (2, [.ref q_1, .ref q_3, .ref q_4, .ref q_5, .ref q_6, .ref q_7, .ref q_8, .null, .null, .int 0, .int 0, .int 0, .int 0, .int 0])), (q_6, .inl (cA_6, 4, .inr (.inr (.inr (.inr fg_27))))), (q_7, .inl (cA_7, 5, .inr (.inr (.inr (.inr (fun _ => none)))))), (q_8, .inl (cA_8, 5, .inr (.inr (.inr (.inr (fun _ => none)))))), (q_31, .inr (7, [.ref rq_32, .int 0])), (rq_32, .inl (rc_32, 4, .inl (fun _ => 0)))] H := hP
              have hD : va_D A [(h0, .inr (2, [.ref q_1, .ref q_3, .ref q_4, .ref q_5, .ref q_6, .ref q_7, .ref q_8, .null, .null, .int 0, .int 0, .int 0, .int 0, .int 0])), (q_6, .inl (cA_6, 4, .inr (.inr (.inr (.inr fg_27))))), (q_7, .inl (cA_7, 5, .inr (.inr (.inr (.inr (fun _ => none)))))), (q_8, .inl (cA_8, 5, .inr (.inr (.inr (.inr (fun _ => none)))))), (q_31, .inr (7, [.ref rq_32, .int 0])), (rq_32, .inl (rc_32, 4, .inl (fun _ => 0)))] := hD
              have hK : va_K (dC, dI) vwCl [(cA_6, .object RX8), (cA_7, .object RX8), (cA_8, .object RX8), (rc_32, .int)] s := hK
              refine W.widen (k := 19) (n := 41943) (by omega) (by omega) ?_
              refine va_astq hx hb hK hP hD hS 2 1 4 7 rfl rfl rfl rfl (by unfold vp_in; decide +kernel) dX2_init_113 (fun H locs hP hD hS => ?_)
              have hP : va_P (dC, dI) vwCl [(h0, .inr (2, [.ref q_1, .ref q_3, .ref q_4, .ref q_5, .ref q_6, .ref q_7, .ref q_8, .null, .null, .int 0, .int 0, .int 0, .int 0, .int 0])), (q_6, .inl (cA_6, 4, .inr (.inr (.inr (.inr fg_27))))), (q_7, .inl (cA_7, 5, .inr (.inr (.inr (.inr (va_up (fun _ => none) 0 (some q_31))))))), (q_8, .inl (cA_8, 5, .inr (.inr (.inr (.inr (fun _ => none)))))), (q_31, .inr (7, [.ref rq_32, .int 0])), (rq_32, .inl (rc_32, 4, .inl (fun _ => 0)))] H := hP
              have hD : va_D A [(h0, .inr (2, [.ref q_1, .ref q_3, .ref q_4, .ref q_5, .ref q_6, .ref q_7, .ref q_8, .null, .null, .int 0, .int 0, .int 0, .int 0, .int 0])), (q_6, .inl (cA_6, 4, .inr (.inr (.inr (.inr fg_27))))), (q_7, .inl (cA_7, 5, .inr (.inr (.inr (.inr (va_up (fun _ => none) 0 (some q_31))))))), (q_8, .inl (cA_8, 5, .inr (.inr (.inr (.inr (fun _ => none)))))), (q_31, .inr (7, [.ref rq_32, .int 0])), (rq_32, .inl (rc_32, 4, .inl (fun _ => 0)))] := hD
              generalize hg_33 : va_up (fun _ => none) 0 (some q_31) = fg_33 at hP hD
              have hP : va_P (dC, dI) vwCl [(h0, .inr (2, [.ref q_1, .ref q_3, .ref q_4, .ref q_5, .ref q_6, .ref q_7, .ref q_8, .null, .null, .int 0, .int 0, .int 0, .int 0, .int 0])), (q_6, .inl (cA_6, 4, .inr (.inr (.inr (.inr fg_27))))), (q_7, .inl (cA_7, 5, .inr (.inr (.inr (.inr fg_33))))), (q_8, .inl (cA_8, 5, .inr (.inr (.inr (.inr (fun _ => none)))))), (q_31, .inr (7, [.ref rq_32, .int 0])), (rq_32, .inl (rc_32, 4, .inl (fun _ => 0)))] H := hP
              have hD : va_D A [(h0, .inr (2, [.ref q_1, .ref q_3, .ref q_4, .ref q_5, .ref q_6, .ref q_7, .ref q_8, .null, .null, .int 0, .int 0, .int 0, .int 0, .int 0])), (q_6, .inl (cA_6, 4, .inr (.inr (.inr (.inr fg_27))))), (q_7, .inl (cA_7, 5, .inr (.inr (.inr (.inr fg_33))))), (q_8, .inl (cA_8, 5, .inr (.inr (.inr (.inr (fun _ => none)))))), (q_31, .inr (7, [.ref rq_32, .int 0])), (rq_32, .inl (rc_32, 4, .inl (fun _ => 0)))] := hD
              have hP := hP.sub (ws' := [(h0, .inr (2, [.ref q_1, .ref q_3, .ref q_4, .ref q_5, .ref q_6, .ref q_7, .ref q_8, .null, .null, .int 0, .int 0, .int 0, .int 0, .int 0])), (q_6, .inl (cA_6, 4, .inr (.inr (.inr (.inr fg_27))))), (q_7, .inl (cA_7, 5, .inr (.inr (.inr (.inr fg_33))))), (q_8, .inl (cA_8, 5, .inr (.inr (.inr (.inr (fun _ => none))))))]) [0, 1, 2, 3] rfl
              have hD := hD.sub (ws' := [(h0, .inr (2, [.ref q_1, .ref q_3, .ref q_4, .ref q_5, .ref q_6, .ref q_7, .ref q_8, .null, .null, .int 0, .int 0, .int 0, .int 0, .int 0])), (q_6, .inl (cA_6, 4, .inr (.inr (.inr (.inr fg_27))))), (q_7, .inl (cA_7, 5, .inr (.inr (.inr (.inr fg_33))))), (q_8, .inl (cA_8, 5, .inr (.inr (.inr (.inr (fun _ => none))))))]) [0, 1, 2, 3] (by decide) rfl
              have hK := hK.sub (tys' := [(cA_6, .object RX8), (cA_7, .object RX8), (cA_8, .object RX8)]) [0, 1, 2] rfl
              refine lv_aload_n hx hb dX2_init_114 rfl (lv_at hl 1 rfl) ?_
              refine va_get (D := (dC, dI)) (ci := 2) (v := .ref q_8) (C := RX2) (T := TX2) (N := 14) hx hb hts (by decide +kernel) hown hK hP 0 rfl rfl 6 (by decide) (hts (.fieldLink RX2 39 "CardTables$Ends" "layers" "[LCardTables$Row;") (List.mem_of_getElem? (l := wsX2_init) (i := 15) rfl)) (fun _ h9 => h9) rfl dX2_init_115 ?_
              refine lv_iload_n hx hb dX2_init_118 rfl (lv_at hl 0 rfl) ?_
              refine va_new (ci := 7) (fs := [.null, .int 0]) (C := RX8) (T := TX8) (N := 2) hx hb hts (by decide +kernel) tyX8 tyX8_ok hown (hts (.classLink RX2 30 RX8) (List.mem_of_getElem? (l := wsX2_init) (i := 12) rfl)) (hts (.instantiable RX8 2) (List.mem_of_getElem? (l := wsX2_init) (i := 16) rfl)) (hts (.initialized RX8) (List.mem_of_getElem? (l := wsX2_init) (i := 17) rfl)) hK hP hD hS hA rfl (fun j hj => by rcases (show j = 0 ∨ j = 1 by omega) with rfl | rfl <;> rfl) (Nat.le_of_ble_eq_true rfl) (Nat.le_of_ble_eq_true rfl) dX2_init_119 (fun q_34 H hP hD hS => ?_)
              have hP : va_P (dC, dI) vwCl [(h0, .inr (2, [.ref q_1, .ref q_3, .ref q_4, .ref q_5, .ref q_6, .ref q_7, .ref q_8, .null, .null, .int 0, .int 0, .int 0, .int 0, .int 0])), (q_6, .inl (cA_6, 4, .inr (.inr (.inr (.inr fg_27))))), (q_7, .inl (cA_7, 5, .inr (.inr (.inr (.inr fg_33))))), (q_8, .inl (cA_8, 5, .inr (.inr (.inr (.inr (fun _ => none)))))), (q_34, .inr (7, [.null, .int 0]))] H := hP
              have hD : va_D A [(h0, .inr (2, [.ref q_1, .ref q_3, .ref q_4, .ref q_5, .ref q_6, .ref q_7, .ref q_8, .null, .null, .int 0, .int 0, .int 0, .int 0, .int 0])), (q_6, .inl (cA_6, 4, .inr (.inr (.inr (.inr fg_27))))), (q_7, .inl (cA_7, 5, .inr (.inr (.inr (.inr fg_33))))), (q_8, .inl (cA_8, 5, .inr (.inr (.inr (.inr (fun _ => none)))))), (q_34, .inr (7, [.null, .int 0]))] := hD
              refine W.widen (k := 20) (n := 41945) (by omega) (by omega) ?_
              refine lv_dup hx hb dX2_init_122 rfl ?_
              refine lv_iconst (v := 4) hx hb dX2_init_123 (by decide) ?_
              have hPc := hP.sub (ws' := [(q_34, .inr (7, [.null, .int 0]))]) [4] rfl
              have hDc := hD.sub (ws' := [(q_34, .inr (7, [.null, .int 0]))]) [4] (by decide) rfl
              have hKc := hK.sub (tys' := []) [] rfl
              have hFc := va_free (wc := [(q_34, .inr (7, [.null, .int 0]))]) hD hS hA [4] rfl
              refine va_callv (va_runI (As := [.int 4]) (rest := [.ref q_34, .int 0, .ref q_8]) ⟨hx, hb, hml, hown, hts⟩ (c_Row_init l dC dI q_34 H.size 4 4 (by decide +kernel) (by decide +kernel) (by decide +kernel) (by decide +kernel)) (cwI 1 hts gX2_init_X8_init rfl rfl rfl (hts (.initialized RX8) (List.mem_of_getElem? (l := wsX2_init) (i := 17) rfl)) (hts (.methodLink RX2 42 yX8_init) (List.mem_of_getElem? (l := wsX2_init) (i := 25) rfl)) (hts (.instanceMethod yX8_init) (List.mem_of_getElem? (l := wsX2_init) (i := 26) rfl)) rfl (by decide +kernel) ⟨Nat.le_of_ble_eq_true rfl, Nat.le_of_ble_eq_true rfl⟩) ⟨fun a U g mk q => by obtain ⟨q0, q1, qP, qK, qD⟩ := q; exact ⟨q0, q1, qP, va_K.moved (u := U) (U := U.calling g mk a) (Vm.Alike.refl U.vm) qK, qD⟩, fun U hU hW => ⟨rfl, by rw [hU], by rw [hU]; exact hPc, va_K.moved hW.alike hKc, hDc.weaken (fun _ _ _ _ => trivial)⟩⟩ rfl rfl hl.1 rfl (lv_room (Nat.le_of_ble_eq_true rfl)) dX2_init_124 ⟨Nat.le_of_ble_eq_true rfl, Nat.le_of_ble_eq_true rfl⟩) hS (fun q _ h => hFc q h) hFc (fun u t H1 locs ht hvm hw hB hz1 hk1 hS => ?_)
              obtain ⟨rq_35, rc_35, hP1, hK1, hD1⟩ := hB
              rw [ht] at hP1
              have hK1 := va_K.moved hvm.symm hK1
              obtain ⟨hP, hD⟩ := va_join (wr := [(h0, .inr (2, [.ref q_1, .ref q_3, .ref q_4, .ref q_5, .ref q_6, .ref q_7, .ref q_8, .null, .null, .int 0, .int 0, .int 0, .int 0, .int 0])), (q_6, .inl (cA_6, 4, .inr (.inr (.inr (.inr fg_27))))), (q_7, .inl (cA_7, 5, .inr (.inr (.inr (.inr fg_33))))), (q_8, .inl (cA_8, 5, .inr (.inr (.inr (.inr (fun _ => none))))))]) (w1 := [(q_34, .inr (7, [.ref rq_35, .int 0])), (rq_35, .inl (rc_35, 4, .inl (fun _ => 0)))]) hP hD [4] [0, 1, 2, 3] rfl rfl (by decide) (by decide) hk1 hFc hP1 hD1
              have hK := (hK.sub (tys' := [(cA_6, .object RX8), (cA_7, .object RX8), (cA_8, .object RX8)]) [0, 1, 2] rfl).app hK1
              generalize H1 = H at hP hS ⊢
              have hP : va_P (dC, dI) vwCl [(h0, .inr (2, [.ref q_1, .ref q_3, .ref q_4, .ref q_5, .ref q_6, .ref q_7, .ref q_8, .null, .null, .int 0, .int 0, .int 0, .int 0, .int 0])), (q_6, .inl (cA_6, 4, .inr (.inr (.inr (.inr fg_27))))), (q_7, .inl (cA_7, 5, .inr (.inr (.inr (.inr fg_33))))), (q_8, .inl (cA_8, 5, .inr (.inr (.inr (.inr (fun _ => none)))))), (q_34, .inr (7, [.ref rq_35, .int 0])), (rq_35, .inl (rc_35, 4, .inl (fun _ => 0)))] H := hP
              have hD : va_D A [(h0, .inr (2, [.ref q_1, .ref q_3, .ref q_4, .ref q_5, .ref q_6, .ref q_7, .ref q_8, .null, .null, .int 0, .int 0, .int 0, .int 0, .int 0])), (q_6, .inl (cA_6, 4, .inr (.inr (.inr (.inr fg_27))))), (q_7, .inl (cA_7, 5, .inr (.inr (.inr (.inr fg_33))))), (q_8, .inl (cA_8, 5, .inr (.inr (.inr (.inr (fun _ => none)))))), (q_34, .inr (7, [.ref rq_35, .int 0])), (rq_35, .inl (rc_35, 4, .inl (fun _ => 0)))] := hD
              have hK : va_K (dC, dI) vwCl [(cA_6, .object RX8), (cA_7, .object RX8), (cA_8, .object RX8), (rc_35, .int)] s := hK
              refine W.widen (k := 21) (n := 41949) (by omega) (by omega) ?_
              refine va_astq hx hb hK hP hD hS 3 2 4 7 rfl rfl rfl rfl (by unfold vp_in; decide +kernel) dX2_init_127 (fun H locs hP hD hS => ?_)
              have hP : va_P (dC, dI) vwCl [(h0, .inr (2, [.ref q_1, .ref q_3, .ref q_4, .ref q_5, .ref q_6, .ref q_7, .ref q_8, .null, .null, .int 0, .int 0, .int 0, .int 0, .int 0])), (q_6, .inl (cA_6, 4, .inr (.inr (.inr (.inr fg_27))))), (q_7, .inl (cA_7, 5, .inr (.inr (.inr (.inr fg_33))))), (q_8, .inl (cA_8, 5, .inr (.inr (.inr (.inr (va_up (fun _ => none) 0 (some q_34))))))), (q_34, .inr (7, [.ref rq_35, .int 0])), (rq_35, .inl (rc_35, 4, .inl (fun _ => 0)))] H := hP
              have hD : va_D A [(h0, .inr (2, [.ref q_1, .ref q_3, .ref q_4, .ref q_5, .ref q_6, .ref q_7, .ref q_8, .null, .null, .int 0, .int 0, .int 0, .int 0, .int 0])), (q_6, .inl (cA_6, 4, .inr (.inr (.inr (.inr fg_27))))), (q_7, .inl (cA_7, 5, .inr (.inr (.inr (.inr fg_33))))), (q_8, .inl (cA_8, 5, .inr (.inr (.inr (.inr (va_up (fun _ => none) 0 (some q_34))))))), (q_34, .inr (7, [.ref rq_35, .int 0])), (rq_35, .inl (rc_35, 4, .inl (fun _ => 0)))] := hD
              generalize hg_36 : va_up (fun _ => none) 0 (some q_34) = fg_36 at hP hD
              have hP : va_P (dC, dI) vwCl [(h0, .inr (2, [.ref q_1, .ref q_3, .ref q_4, .ref q_5, .ref q_6, .ref q_7, .ref q_8, .null, .null, .int 0, .int 0, .int 0, .int 0, .int 0])), (q_6, .inl (cA_6, 4, .inr (.inr (.inr (.inr fg_27))))), (q_7, .inl (cA_7, 5, .inr (.inr (.inr (.inr fg_33))))), (q_8, .inl (cA_8, 5, .inr (.inr (.inr (.inr fg_36))))), (q_34, .inr (7, [.ref rq_35, .int 0])), (rq_35, .inl (rc_35, 4, .inl (fun _ => 0)))] H := hP
              have hD : va_D A [(h0, .inr (2, [.ref q_1, .ref q_3, .ref q_4, .ref q_5, .ref q_6, .ref q_7, .ref q_8, .null, .null, .int 0, .int 0, .int 0, .int 0, .int 0])), (q_6, .inl (cA_6, 4, .inr (.inr (.inr (.inr fg_27))))), (q_7, .inl (cA_7, 5, .inr (.inr (.inr (.inr fg_33))))), (q_8, .inl (cA_8, 5, .inr (.inr (.inr (.inr fg_36))))), (q_34, .inr (7, [.ref rq_35, .int 0])), (rq_35, .inl (rc_35, 4, .inl (fun _ => 0)))] := hD
              have hP := hP.sub (ws' := [(h0, .inr (2, [.ref q_1, .ref q_3, .ref q_4, .ref q_5, .ref q_6, .ref q_7, .ref q_8, .null, .null, .int 0, .int 0, .int 0, .int 0, .int 0])), (q_6, .inl (cA_6, 4, .inr (.inr (.inr (.inr fg_27))))), (q_7, .inl (cA_7, 5, .inr (.inr (.inr (.inr fg_33))))), (q_8, .inl (cA_8, 5, .inr (.inr (.inr (.inr fg_36)))))]) [0, 1, 2, 3] rfl
              have hD := hD.sub (ws' := [(h0, .inr (2, [.ref q_1, .ref q_3, .ref q_4, .ref q_5, .ref q_6, .ref q_7, .ref q_8, .null, .null, .int 0, .int 0, .int 0, .int 0, .int 0])), (q_6, .inl (cA_6, 4, .inr (.inr (.inr (.inr fg_27))))), (q_7, .inl (cA_7, 5, .inr (.inr (.inr (.inr fg_33))))), (q_8, .inl (cA_8, 5, .inr (.inr (.inr (.inr fg_36)))))]) [0, 1, 2, 3] (by decide) rfl
              have hK := hK.sub (tys' := [(cA_6, .object RX8), (cA_7, .object RX8), (cA_8, .object RX8)]) [0, 1, 2] rfl
              refine lv_iinc (v := 1) (lv' := [(1, .int 1), (0, .ref h0)]) hx hb dX2_init_128 hl (k := 0) rfl (by decide) (by decide) rfl (fun ls hl => ?_)
              refine lv_goto (tgt := 95) hx hb dX2_init_131 (by decide) ?_
              refine lv_iload_n hx hb dX2_init_95 rfl (lv_at hl 0 rfl) ?_
              refine lv_iconst (v := 4) hx hb dX2_init_96 (by decide) ?_
              refine lv_icmp_gt (tgt := 134) hx hb dX2_init_97 (by decide) (fun c_38 => ?_) (fun c_38 => ?_)
              · exact absurd c_38 (by decide +kernel)
              · skip
                refine lv_aload_n hx hb dX2_init_100 rfl (lv_at hl 1 rfl) ?_
                refine va_get (D := (dC, dI)) (ci := 2) (v := .ref q_7) (C := RX2) (T := TX2) (N := 14) hx hb hts (by decide +kernel) hown hK hP 0 rfl rfl 5 (by decide) (hts (.fieldLink RX2 36 "CardTables$Ends" "tricks" "[LCardTables$Row;") (List.mem_of_getElem? (l := wsX2_init) (i := 14) rfl)) (fun _ h9 => h9) rfl dX2_init_101 ?_
                refine lv_iload_n hx hb dX2_init_104 rfl (lv_at hl 0 rfl) ?_
                refine va_new (ci := 7) (fs := [.null, .int 0]) (C := RX8) (T := TX8) (N := 2) hx hb hts (by decide +kernel) tyX8 tyX8_ok hown (hts (.classLink RX2 30 RX8) (List.mem_of_getElem? (l := wsX2_init) (i := 12) rfl)) (hts (.instantiable RX8 2) (List.mem_of_getElem? (l := wsX2_init) (i := 16) rfl)) (hts (.initialized RX8) (List.mem_of_getElem? (l := wsX2_init) (i := 17) rfl)) hK hP hD hS hA rfl (fun j hj => by rcases (show j = 0 ∨ j = 1 by omega) with rfl | rfl <;> rfl) (Nat.le_of_ble_eq_true rfl) (Nat.le_of_ble_eq_true rfl) dX2_init_105 (fun q_39 H hP hD hS => ?_)
                have hP : va_P (dC, dI) vwCl [(h0, .inr (2, [.ref q_1, .ref q_3, .ref q_4, .ref q_5, .ref q_6, .ref q_7, .ref q_8, .null, .null, .int 0, .int 0, .int 0, .int 0, .int 0])), (q_6, .inl (cA_6, 4, .inr (.inr (.inr (.inr fg_27))))), (q_7, .inl (cA_7, 5, .inr (.inr (.inr (.inr fg_33))))), (q_8, .inl (cA_8, 5, .inr (.inr (.inr (.inr fg_36))))), (q_39, .inr (7, [.null, .int 0]))] H := hP
                have hD : va_D A [(h0, .inr (2, [.ref q_1, .ref q_3, .ref q_4, .ref q_5, .ref q_6, .ref q_7, .ref q_8, .null, .null, .int 0, .int 0, .int 0, .int 0, .int 0])), (q_6, .inl (cA_6, 4, .inr (.inr (.inr (.inr fg_27))))), (q_7, .inl (cA_7, 5, .inr (.inr (.inr (.inr fg_33))))), (q_8, .inl (cA_8, 5, .inr (.inr (.inr (.inr fg_36))))), (q_39, .inr (7, [.null, .int 0]))] := hD
                refine W.widen (k := 22) (n := 41951) (by omega) (by omega) ?_
                refine lv_dup hx hb dX2_init_108 rfl ?_
                refine lv_iconst (v := 4) hx hb dX2_init_109 (by decide) ?_
                have hPc := hP.sub (ws' := [(q_39, .inr (7, [.null, .int 0]))]) [4] rfl
                have hDc := hD.sub (ws' := [(q_39, .inr (7, [.null, .int 0]))]) [4] (by decide) rfl
                have hKc := hK.sub (tys' := []) [] rfl
                have hFc := va_free (wc := [(q_39, .inr (7, [.null, .int 0]))]) hD hS hA [4] rfl
                refine va_callv (va_runI (As := [.int 4]) (rest := [.ref q_39, .int 1, .ref q_7]) ⟨hx, hb, hml, hown, hts⟩ (c_Row_init l dC dI q_39 H.size 4 4 (by decide +kernel) (by decide +kernel) (by decide +kernel) (by decide +kernel)) (cwI 1 hts gX2_init_X8_init rfl rfl rfl (hts (.initialized RX8) (List.mem_of_getElem? (l := wsX2_init) (i := 17) rfl)) (hts (.methodLink RX2 42 yX8_init) (List.mem_of_getElem? (l := wsX2_init) (i := 25) rfl)) (hts (.instanceMethod yX8_init) (List.mem_of_getElem? (l := wsX2_init) (i := 26) rfl)) rfl (by decide +kernel) ⟨Nat.le_of_ble_eq_true rfl, Nat.le_of_ble_eq_true rfl⟩) ⟨fun a U g mk q => by obtain ⟨q0, q1, qP, qK, qD⟩ := q; exact ⟨q0, q1, qP, va_K.moved (u := U) (U := U.calling g mk a) (Vm.Alike.refl U.vm) qK, qD⟩, fun U hU hW => ⟨rfl, by rw [hU], by rw [hU]; exact hPc, va_K.moved hW.alike hKc, hDc.weaken (fun _ _ _ _ => trivial)⟩⟩ rfl rfl hl.1 rfl (lv_room (Nat.le_of_ble_eq_true rfl)) dX2_init_110 ⟨Nat.le_of_ble_eq_true rfl, Nat.le_of_ble_eq_true rfl⟩) hS (fun q _ h => hFc q h) hFc (fun u t H1 locs ht hvm hw hB hz1 hk1 hS => ?_)
                obtain ⟨rq_40, rc_40, hP1, hK1, hD1⟩ := hB
                rw [ht] at hP1
                have hK1 := va_K.moved hvm.symm hK1
                obtain ⟨hP, hD⟩ := va_join (wr := [(h0, .inr (2, [.ref q_1, .ref q_3, .ref q_4, .ref q_5, .ref q_6, .ref q_7, .ref q_8, .null, .null, .int 0, .int 0, .int 0, .int 0, .int 0])), (q_6, .inl (cA_6, 4, .inr (.inr (.inr (.inr fg_27))))), (q_7, .inl (cA_7, 5, .inr (.inr (.inr (.inr fg_33))))), (q_8, .inl (cA_8, 5, .inr (.inr (.inr (.inr fg_36)))))]) (w1 := [(q_39, .inr (7, [.ref rq_40, .int 0])), (rq_40, .inl (rc_40, 4, .inl (fun _ => 0)))]) hP hD [4] [0, 1, 2, 3] rfl rfl (by decide) (by decide) hk1 hFc hP1 hD1
                have hK := (hK.sub (tys' := [(cA_6, .object RX8), (cA_7, .object RX8), (cA_8, .object RX8)]) [0, 1, 2] rfl).app hK1
                generalize H1 = H at hP hS ⊢
                have hP : va_P (dC, dI) vwCl [(h0, .inr (2, [.ref q_1, .ref q_3, .ref q_4, .ref q_5, .ref q_6, .ref q_7, .ref q_8, .null, .null, .int 0, .int 0, .int 0, .int 0, .int 0])), (q_6, .inl (cA_6, 4, .inr (.inr (.inr (.inr fg_27))))), (q_7, .inl (cA_7, 5, .inr (.inr (.inr (.inr fg_33))))), (q_8, .inl (cA_8, 5, .inr (.inr (.inr (.inr fg_36))))), (q_39, .inr (7, [.ref rq_40, .int 0])), (rq_40, .inl (rc_40, 4, .inl (fun _ => 0)))] H := hP
                have hD : va_D A [(h0, .inr (2, [.ref q_1, .ref q_3, .ref q_4, .ref q_5, .ref q_6, .ref q_7, .ref q_8, .null, .null, .int 0, .int 0, .int 0, .int 0, .int 0])), (q_6, .inl (cA_6, 4, .inr (.inr (.inr (.inr fg_27))))), (q_7, .inl (cA_7, 5, .inr (.inr (.inr (.inr fg_33))))), (q_8, .inl (cA_8, 5, .inr (.inr (.inr (.inr fg_36))))), (q_39, .inr (7, [.ref rq_40, .int 0])), (rq_40, .inl (rc_40, 4, .inl (fun _ => 0)))] := hD
                have hK : va_K (dC, dI) vwCl [(cA_6, .object RX8), (cA_7, .object RX8), (cA_8, .object RX8), (rc_40, .int)] s := hK
                refine W.widen (k := 23) (n := 41955) (by omega) (by omega) ?_
                refine va_astq hx hb hK hP hD hS 2 1 4 7 rfl rfl rfl rfl (by unfold vp_in; decide +kernel) dX2_init_113 (fun H locs hP hD hS => ?_)
                have hP : va_P (dC, dI) vwCl [(h0, .inr (2, [.ref q_1, .ref q_3, .ref q_4, .ref q_5, .ref q_6, .ref q_7, .ref q_8, .null, .null, .int 0, .int 0, .int 0, .int 0, .int 0])), (q_6, .inl (cA_6, 4, .inr (.inr (.inr (.inr fg_27))))), (q_7, .inl (cA_7, 5, .inr (.inr (.inr (.inr (va_up (fg_33) 1 (some q_39))))))), (q_8, .inl (cA_8, 5, .inr (.inr (.inr (.inr fg_36))))), (q_39, .inr (7, [.ref rq_40, .int 0])), (rq_40, .inl (rc_40, 4, .inl (fun _ => 0)))] H := hP
                have hD : va_D A [(h0, .inr (2, [.ref q_1, .ref q_3, .ref q_4, .ref q_5, .ref q_6, .ref q_7, .ref q_8, .null, .null, .int 0, .int 0, .int 0, .int 0, .int 0])), (q_6, .inl (cA_6, 4, .inr (.inr (.inr (.inr fg_27))))), (q_7, .inl (cA_7, 5, .inr (.inr (.inr (.inr (va_up (fg_33) 1 (some q_39))))))), (q_8, .inl (cA_8, 5, .inr (.inr (.inr (.inr fg_36))))), (q_39, .inr (7, [.ref rq_40, .int 0])), (rq_40, .inl (rc_40, 4, .inl (fun _ => 0)))] := hD
                generalize hg_41 : va_up (fg_33) 1 (some q_39) = fg_41 at hP hD
                have hP : va_P (dC, dI) vwCl [(h0, .inr (2, [.ref q_1, .ref q_3, .ref q_4, .ref q_5, .ref q_6, .ref q_7, .ref q_8, .null, .null, .int 0, .int 0, .int 0, .int 0, .int 0])), (q_6, .inl (cA_6, 4, .inr (.inr (.inr (.inr fg_27))))), (q_7, .inl (cA_7, 5, .inr (.inr (.inr (.inr fg_41))))), (q_8, .inl (cA_8, 5, .inr (.inr (.inr (.inr fg_36))))), (q_39, .inr (7, [.ref rq_40, .int 0])), (rq_40, .inl (rc_40, 4, .inl (fun _ => 0)))] H := hP
                have hD : va_D A [(h0, .inr (2, [.ref q_1, .ref q_3, .ref q_4, .ref q_5, .ref q_6, .ref q_7, .ref q_8, .null, .null, .int 0, .int 0, .int 0, .int 0, .int 0])), (q_6, .inl (cA_6, 4, .inr (.inr (.inr (.inr fg_27))))), (q_7, .inl (cA_7, 5, .inr (.inr (.inr (.inr fg_41))))), (q_8, .inl (cA_8, 5, .inr (.inr (.inr (.inr fg_36))))), (q_39, .inr (7, [.ref rq_40, .int 0])), (rq_40, .inl (rc_40, 4, .inl (fun _ => 0)))] := hD
                have hP := hP.sub (ws' := [(h0, .inr (2, [.ref q_1, .ref q_3, .ref q_4, .ref q_5, .ref q_6, .ref q_7, .ref q_8, .null, .null, .int 0, .int 0, .int 0, .int 0, .int 0])), (q_6, .inl (cA_6, 4, .inr (.inr (.inr (.inr fg_27))))), (q_7, .inl (cA_7, 5, .inr (.inr (.inr (.inr fg_41))))), (q_8, .inl (cA_8, 5, .inr (.inr (.inr (.inr fg_36)))))]) [0, 1, 2, 3] rfl
                have hD := hD.sub (ws' := [(h0, .inr (2, [.ref q_1, .ref q_3, .ref q_4, .ref q_5, .ref q_6, .ref q_7, .ref q_8, .null, .null, .int 0, .int 0, .int 0, .int 0, .int 0])), (q_6, .inl (cA_6, 4, .inr (.inr (.inr (.inr fg_27))))), (q_7, .inl (cA_7, 5, .inr (.inr (.inr (.inr fg_41))))), (q_8, .inl (cA_8, 5, .inr (.inr (.inr (.inr fg_36)))))]) [0, 1, 2, 3] (by decide) rfl
                have hK := hK.sub (tys' := [(cA_6, .object RX8), (cA_7, .object RX8), (cA_8, .object RX8)]) [0, 1, 2] rfl
                refine lv_aload_n hx hb dX2_init_114 rfl (lv_at hl 1 rfl) ?_
                refine va_get (D := (dC, dI)) (ci := 2) (v := .ref q_8) (C := RX2) (T := TX2) (N := 14) hx hb hts (by decide +kernel) hown hK hP 0 rfl rfl 6 (by decide) (hts (.fieldLink RX2 39 "CardTables$Ends" "layers" "[LCardTables$Row;") (List.mem_of_getElem? (l := wsX2_init) (i := 15) rfl)) (fun _ h9 => h9) rfl dX2_init_115 ?_
                refine lv_iload_n hx hb dX2_init_118 rfl (lv_at hl 0 rfl) ?_
                refine va_new (ci := 7) (fs := [.null, .int 0]) (C := RX8) (T := TX8) (N := 2) hx hb hts (by decide +kernel) tyX8 tyX8_ok hown (hts (.classLink RX2 30 RX8) (List.mem_of_getElem? (l := wsX2_init) (i := 12) rfl)) (hts (.instantiable RX8 2) (List.mem_of_getElem? (l := wsX2_init) (i := 16) rfl)) (hts (.initialized RX8) (List.mem_of_getElem? (l := wsX2_init) (i := 17) rfl)) hK hP hD hS hA rfl (fun j hj => by rcases (show j = 0 ∨ j = 1 by omega) with rfl | rfl <;> rfl) (Nat.le_of_ble_eq_true rfl) (Nat.le_of_ble_eq_true rfl) dX2_init_119 (fun q_42 H hP hD hS => ?_)
                have hP : va_P (dC, dI) vwCl [(h0, .inr (2, [.ref q_1, .ref q_3, .ref q_4, .ref q_5, .ref q_6, .ref q_7, .ref q_8, .null, .null, .int 0, .int 0, .int 0, .int 0, .int 0])), (q_6, .inl (cA_6, 4, .inr (.inr (.inr (.inr fg_27))))), (q_7, .inl (cA_7, 5, .inr (.inr (.inr (.inr fg_41))))), (q_8, .inl (cA_8, 5, .inr (.inr (.inr (.inr fg_36))))), (q_42, .inr (7, [.null, .int 0]))] H := hP
                have hD : va_D A [(h0, .inr (2, [.ref q_1, .ref q_3, .ref q_4, .ref q_5, .ref q_6, .ref q_7, .ref q_8, .null, .null, .int 0, .int 0, .int 0, .int 0, .int 0])), (q_6, .inl (cA_6, 4, .inr (.inr (.inr (.inr fg_27))))), (q_7, .inl (cA_7, 5, .inr (.inr (.inr (.inr fg_41))))), (q_8, .inl (cA_8, 5, .inr (.inr (.inr (.inr fg_36))))), (q_42, .inr (7, [.null, .int 0]))] := hD
                refine W.widen (k := 24) (n := 41957) (by omega) (by omega) ?_
                refine lv_dup hx hb dX2_init_122 rfl ?_
                refine lv_iconst (v := 4) hx hb dX2_init_123 (by decide) ?_
                have hPc := hP.sub (ws' := [(q_42, .inr (7, [.null, .int 0]))]) [4] rfl
                have hDc := hD.sub (ws' := [(q_42, .inr (7, [.null, .int 0]))]) [4] (by decide) rfl
                have hKc := hK.sub (tys' := []) [] rfl
                have hFc := va_free (wc := [(q_42, .inr (7, [.null, .int 0]))]) hD hS hA [4] rfl
                refine va_callv (va_runI (As := [.int 4]) (rest := [.ref q_42, .int 1, .ref q_8]) ⟨hx, hb, hml, hown, hts⟩ (c_Row_init l dC dI q_42 H.size 4 4 (by decide +kernel) (by decide +kernel) (by decide +kernel) (by decide +kernel)) (cwI 1 hts gX2_init_X8_init rfl rfl rfl (hts (.initialized RX8) (List.mem_of_getElem? (l := wsX2_init) (i := 17) rfl)) (hts (.methodLink RX2 42 yX8_init) (List.mem_of_getElem? (l := wsX2_init) (i := 25) rfl)) (hts (.instanceMethod yX8_init) (List.mem_of_getElem? (l := wsX2_init) (i := 26) rfl)) rfl (by decide +kernel) ⟨Nat.le_of_ble_eq_true rfl, Nat.le_of_ble_eq_true rfl⟩) ⟨fun a U g mk q => by obtain ⟨q0, q1, qP, qK, qD⟩ := q; exact ⟨q0, q1, qP, va_K.moved (u := U) (U := U.calling g mk a) (Vm.Alike.refl U.vm) qK, qD⟩, fun U hU hW => ⟨rfl, by rw [hU], by rw [hU]; exact hPc, va_K.moved hW.alike hKc, hDc.weaken (fun _ _ _ _ => trivial)⟩⟩ rfl rfl hl.1 rfl (lv_room (Nat.le_of_ble_eq_true rfl)) dX2_init_124 ⟨Nat.le_of_ble_eq_true rfl, Nat.le_of_ble_eq_true rfl⟩) hS (fun q _ h => hFc q h) hFc (fun u t H1 locs ht hvm hw hB hz1 hk1 hS => ?_)
                obtain ⟨rq_43, rc_43, hP1, hK1, hD1⟩ := hB
                rw [ht] at hP1
                have hK1 := va_K.moved hvm.symm hK1
                obtain ⟨hP, hD⟩ := va_join (wr := [(h0, .inr (2, [.ref q_1, .ref q_3, .ref q_4, .ref q_5, .ref q_6, .ref q_7, .ref q_8, .null, .null, .int 0, .int 0, .int 0, .int 0, .int 0])), (q_6, .inl (cA_6, 4, .inr (.inr (.inr (.inr fg_27))))), (q_7, .inl (cA_7, 5, .inr (.inr (.inr (.inr fg_41))))), (q_8, .inl (cA_8, 5, .inr (.inr (.inr (.inr fg_36)))))]) (w1 := [(q_42, .inr (7, [.ref rq_43, .int 0])), (rq_43, .inl (rc_43, 4, .inl (fun _ => 0)))]) hP hD [4] [0, 1, 2, 3] rfl rfl (by decide) (by decide) hk1 hFc hP1 hD1
                have hK := (hK.sub (tys' := [(cA_6, .object RX8), (cA_7, .object RX8), (cA_8, .object RX8)]) [0, 1, 2] rfl).app hK1
                generalize H1 = H at hP hS ⊢
                have hP : va_P (dC, dI) vwCl [(h0, .inr (2, [.ref q_1, .ref q_3, .ref q_4, .ref q_5, .ref q_6, .ref q_7, .ref q_8, .null, .null, .int 0, .int 0, .int 0, .int 0, .int 0])), (q_6, .inl (cA_6, 4, .inr (.inr (.inr (.inr fg_27))))), (q_7, .inl (cA_7, 5, .inr (.inr (.inr (.inr fg_41))))), (q_8, .inl (cA_8, 5, .inr (.inr (.inr (.inr fg_36))))), (q_42, .inr (7, [.ref rq_43, .int 0])), (rq_43, .inl (rc_43, 4, .inl (fun _ => 0)))] H := hP
                have hD : va_D A [(h0, .inr (2, [.ref q_1, .ref q_3, .ref q_4, .ref q_5, .ref q_6, .ref q_7, .ref q_8, .null, .null, .int 0, .int 0, .int 0, .int 0, .int 0])), (q_6, .inl (cA_6, 4, .inr (.inr (.inr (.inr fg_27))))), (q_7, .inl (cA_7, 5, .inr (.inr (.inr (.inr fg_41))))), (q_8, .inl (cA_8, 5, .inr (.inr (.inr (.inr fg_36))))), (q_42, .inr (7, [.ref rq_43, .int 0])), (rq_43, .inl (rc_43, 4, .inl (fun _ => 0)))] := hD
                have hK : va_K (dC, dI) vwCl [(cA_6, .object RX8), (cA_7, .object RX8), (cA_8, .object RX8), (rc_43, .int)] s := hK
                refine W.widen (k := 25) (n := 41961) (by omega) (by omega) ?_
                refine va_astq hx hb hK hP hD hS 3 2 4 7 rfl rfl rfl rfl (by unfold vp_in; decide +kernel) dX2_init_127 (fun H locs hP hD hS => ?_)
                have hP : va_P (dC, dI) vwCl [(h0, .inr (2, [.ref q_1, .ref q_3, .ref q_4, .ref q_5, .ref q_6, .ref q_7, .ref q_8, .null, .null, .int 0, .int 0, .int 0, .int 0, .int 0])), (q_6, .inl (cA_6, 4, .inr (.inr (.inr (.inr fg_27))))), (q_7, .inl (cA_7, 5, .inr (.inr (.inr (.inr fg_41))))), (q_8, .inl (cA_8, 5, .inr (.inr (.inr (.inr (va_up (fg_36) 1 (some q_42))))))), (q_42, .inr (7, [.ref rq_43, .int 0])), (rq_43, .inl (rc_43, 4, .inl (fun _ => 0)))] H := hP
                have hD : va_D A [(h0, .inr (2, [.ref q_1, .ref q_3, .ref q_4, .ref q_5, .ref q_6, .ref q_7, .ref q_8, .null, .null, .int 0, .int 0, .int 0, .int 0, .int 0])), (q_6, .inl (cA_6, 4, .inr (.inr (.inr (.inr fg_27))))), (q_7, .inl (cA_7, 5, .inr (.inr (.inr (.inr fg_41))))), (q_8, .inl (cA_8, 5, .inr (.inr (.inr (.inr (va_up (fg_36) 1 (some q_42))))))), (q_42, .inr (7, [.ref rq_43, .int 0])), (rq_43, .inl (rc_43, 4, .inl (fun _ => 0)))] := hD
                generalize hg_44 : va_up (fg_36) 1 (some q_42) = fg_44 at hP hD
                have hP : va_P (dC, dI) vwCl [(h0, .inr (2, [.ref q_1, .ref q_3, .ref q_4, .ref q_5, .ref q_6, .ref q_7, .ref q_8, .null, .null, .int 0, .int 0, .int 0, .int 0, .int 0])), (q_6, .inl (cA_6, 4, .inr (.inr (.inr (.inr fg_27))))), (q_7, .inl (cA_7, 5, .inr (.inr (.inr (.inr fg_41))))), (q_8, .inl (cA_8, 5, .inr (.inr (.inr (.inr fg_44))))), (q_42, .inr (7, [.ref rq_43, .int 0])), (rq_43, .inl (rc_43, 4, .inl (fun _ => 0)))] H := hP
                have hD : va_D A [(h0, .inr (2, [.ref q_1, .ref q_3, .ref q_4, .ref q_5, .ref q_6, .ref q_7, .ref q_8, .null, .null, .int 0, .int 0, .int 0, .int 0, .int 0])), (q_6, .inl (cA_6, 4, .inr (.inr (.inr (.inr fg_27))))), (q_7, .inl (cA_7, 5, .inr (.inr (.inr (.inr fg_41))))), (q_8, .inl (cA_8, 5, .inr (.inr (.inr (.inr fg_44))))), (q_42, .inr (7, [.ref rq_43, .int 0])), (rq_43, .inl (rc_43, 4, .inl (fun _ => 0)))] := hD
                have hP := hP.sub (ws' := [(h0, .inr (2, [.ref q_1, .ref q_3, .ref q_4, .ref q_5, .ref q_6, .ref q_7, .ref q_8, .null, .null, .int 0, .int 0, .int 0, .int 0, .int 0])), (q_6, .inl (cA_6, 4, .inr (.inr (.inr (.inr fg_27))))), (q_7, .inl (cA_7, 5, .inr (.inr (.inr (.inr fg_41))))), (q_8, .inl (cA_8, 5, .inr (.inr (.inr (.inr fg_44)))))]) [0, 1, 2, 3] rfl
                have hD := hD.sub (ws' := [(h0, .inr (2, [.ref q_1, .ref q_3, .ref q_4, .ref q_5, .ref q_6, .ref q_7, .ref q_8, .null, .null, .int 0, .int 0, .int 0, .int 0, .int 0])), (q_6, .inl (cA_6, 4, .inr (.inr (.inr (.inr fg_27))))), (q_7, .inl (cA_7, 5, .inr (.inr (.inr (.inr fg_41))))), (q_8, .inl (cA_8, 5, .inr (.inr (.inr (.inr fg_44)))))]) [0, 1, 2, 3] (by decide) rfl
                have hK := hK.sub (tys' := [(cA_6, .object RX8), (cA_7, .object RX8), (cA_8, .object RX8)]) [0, 1, 2] rfl
                refine lv_iinc (v := 2) (lv' := [(1, .int 2), (0, .ref h0)]) hx hb dX2_init_128 hl (k := 0) rfl (by decide) (by decide) rfl (fun ls hl => ?_)
                refine lv_goto (tgt := 95) hx hb dX2_init_131 (by decide) ?_
                refine lv_iload_n hx hb dX2_init_95 rfl (lv_at hl 0 rfl) ?_
                refine lv_iconst (v := 4) hx hb dX2_init_96 (by decide) ?_
                refine lv_icmp_gt (tgt := 134) hx hb dX2_init_97 (by decide) (fun c_46 => ?_) (fun c_46 => ?_)
                · exact absurd c_46 (by decide +kernel)
                · skip
                  refine lv_aload_n hx hb dX2_init_100 rfl (lv_at hl 1 rfl) ?_
                  refine va_get (D := (dC, dI)) (ci := 2) (v := .ref q_7) (C := RX2) (T := TX2) (N := 14) hx hb hts (by decide +kernel) hown hK hP 0 rfl rfl 5 (by decide) (hts (.fieldLink RX2 36 "CardTables$Ends" "tricks" "[LCardTables$Row;") (List.mem_of_getElem? (l := wsX2_init) (i := 14) rfl)) (fun _ h9 => h9) rfl dX2_init_101 ?_
                  refine lv_iload_n hx hb dX2_init_104 rfl (lv_at hl 0 rfl) ?_
                  refine va_new (ci := 7) (fs := [.null, .int 0]) (C := RX8) (T := TX8) (N := 2) hx hb hts (by decide +kernel) tyX8 tyX8_ok hown (hts (.classLink RX2 30 RX8) (List.mem_of_getElem? (l := wsX2_init) (i := 12) rfl)) (hts (.instantiable RX8 2) (List.mem_of_getElem? (l := wsX2_init) (i := 16) rfl)) (hts (.initialized RX8) (List.mem_of_getElem? (l := wsX2_init) (i := 17) rfl)) hK hP hD hS hA rfl (fun j hj => by rcases (show j = 0 ∨ j = 1 by omega) with rfl | rfl <;> rfl) (Nat.le_of_ble_eq_true rfl) (Nat.le_of_ble_eq_true rfl) dX2_init_105 (fun q_47 H hP hD hS => ?_)
                  have hP : va_P (dC, dI) vwCl [(h0, .inr (2, [.ref q_1, .ref q_3, .ref q_4, .ref q_5, .ref q_6, .ref q_7, .ref q_8, .null, .null, .int 0, .int 0, .int 0, .int 0, .int 0])), (q_6, .inl (cA_6, 4, .inr (.inr (.inr (.inr fg_27))))), (q_7, .inl (cA_7, 5, .inr (.inr (.inr (.inr fg_41))))), (q_8, .inl (cA_8, 5, .inr (.inr (.inr (.inr fg_44))))), (q_47, .inr (7, [.null, .int 0]))] H := hP
                  have hD : va_D A [(h0, .inr (2, [.ref q_1, .ref q_3, .ref q_4, .ref q_5, .ref q_6, .ref q_7, .ref q_8, .null, .null, .int 0, .int 0, .int 0, .int 0, .int 0])), (q_6, .inl (cA_6, 4, .inr (.inr (.inr (.inr fg_27))))), (q_7, .inl (cA_7, 5, .inr (.inr (.inr (.inr fg_41))))), (q_8, .inl (cA_8, 5, .inr (.inr (.inr (.inr fg_44))))), (q_47, .inr (7, [.null, .int 0]))] := hD
                  refine W.widen (k := 26) (n := 41963) (by omega) (by omega) ?_
                  refine lv_dup hx hb dX2_init_108 rfl ?_
                  refine lv_iconst (v := 4) hx hb dX2_init_109 (by decide) ?_
                  have hPc := hP.sub (ws' := [(q_47, .inr (7, [.null, .int 0]))]) [4] rfl
                  have hDc := hD.sub (ws' := [(q_47, .inr (7, [.null, .int 0]))]) [4] (by decide) rfl
                  have hKc := hK.sub (tys' := []) [] rfl
                  have hFc := va_free (wc := [(q_47, .inr (7, [.null, .int 0]))]) hD hS hA [4] rfl
                  refine va_callv (va_runI (As := [.int 4]) (rest := [.ref q_47, .int 2, .ref q_7]) ⟨hx, hb, hml, hown, hts⟩ (c_Row_init l dC dI q_47 H.size 4 4 (by decide +kernel) (by decide +kernel) (by decide +kernel) (by decide +kernel)) (cwI 1 hts gX2_init_X8_init rfl rfl rfl (hts (.initialized RX8) (List.mem_of_getElem? (l := wsX2_init) (i := 17) rfl)) (hts (.methodLink RX2 42 yX8_init) (List.mem_of_getElem? (l := wsX2_init) (i := 25) rfl)) (hts (.instanceMethod yX8_init) (List.mem_of_getElem? (l := wsX2_init) (i := 26) rfl)) rfl (by decide +kernel) ⟨Nat.le_of_ble_eq_true rfl, Nat.le_of_ble_eq_true rfl⟩) ⟨fun a U g mk q => by obtain ⟨q0, q1, qP, qK, qD⟩ := q; exact ⟨q0, q1, qP, va_K.moved (u := U) (U := U.calling g mk a) (Vm.Alike.refl U.vm) qK, qD⟩, fun U hU hW => ⟨rfl, by rw [hU], by rw [hU]; exact hPc, va_K.moved hW.alike hKc, hDc.weaken (fun _ _ _ _ => trivial)⟩⟩ rfl rfl hl.1 rfl (lv_room (Nat.le_of_ble_eq_true rfl)) dX2_init_110 ⟨Nat.le_of_ble_eq_true rfl, Nat.le_of_ble_eq_true rfl⟩) hS (fun q _ h => hFc q h) hFc (fun u t H1 locs ht hvm hw hB hz1 hk1 hS => ?_)
                  obtain ⟨rq_48, rc_48, hP1, hK1, hD1⟩ := hB
                  rw [ht] at hP1
                  have hK1 := va_K.moved hvm.symm hK1
                  obtain ⟨hP, hD⟩ := va_join (wr := [(h0, .inr (2, [.ref q_1, .ref q_3, .ref q_4, .ref q_5, .ref q_6, .ref q_7, .ref q_8, .null, .null, .int 0, .int 0, .int 0, .int 0, .int 0])), (q_6, .inl (cA_6, 4, .inr (.inr (.inr (.inr fg_27))))), (q_7, .inl (cA_7, 5, .inr (.inr (.inr (.inr fg_41))))), (q_8, .inl (cA_8, 5, .inr (.inr (.inr (.inr fg_44)))))]) (w1 := [(q_47, .inr (7, [.ref rq_48, .int 0])), (rq_48, .inl (rc_48, 4, .inl (fun _ => 0)))]) hP hD [4] [0, 1, 2, 3] rfl rfl (by decide) (by decide) hk1 hFc hP1 hD1
                  have hK := (hK.sub (tys' := [(cA_6, .object RX8), (cA_7, .object RX8), (cA_8, .object RX8)]) [0, 1, 2] rfl).app hK1
                  generalize H1 = H at hP hS ⊢
                  have hP : va_P (dC, dI) vwCl [(h0, .inr (2, [.ref q_1, .ref q_3, .ref q_4, .ref q_5, .ref q_6, .ref q_7, .ref q_8, .null, .null, .int 0, .int 0, .int 0, .int 0, .int 0])), (q_6, .inl (cA_6, 4, .inr (.inr (.inr (.inr fg_27))))), (q_7, .inl (cA_7, 5, .inr (.inr (.inr (.inr fg_41))))), (q_8, .inl (cA_8, 5, .inr (.inr (.inr (.inr fg_44))))), (q_47, .inr (7, [.ref rq_48, .int 0])), (rq_48, .inl (rc_48, 4, .inl (fun _ => 0)))] H := hP
                  have hD : va_D A [(h0, .inr (2, [.ref q_1, .ref q_3, .ref q_4, .ref q_5, .ref q_6, .ref q_7, .ref q_8, .null, .null, .int 0, .int 0, .int 0, .int 0, .int 0])), (q_6, .inl (cA_6, 4, .inr (.inr (.inr (.inr fg_27))))), (q_7, .inl (cA_7, 5, .inr (.inr (.inr (.inr fg_41))))), (q_8, .inl (cA_8, 5, .inr (.inr (.inr (.inr fg_44))))), (q_47, .inr (7, [.ref rq_48, .int 0])), (rq_48, .inl (rc_48, 4, .inl (fun _ => 0)))] := hD
                  have hK : va_K (dC, dI) vwCl [(cA_6, .object RX8), (cA_7, .object RX8), (cA_8, .object RX8), (rc_48, .int)] s := hK
                  refine W.widen (k := 27) (n := 41967) (by omega) (by omega) ?_
                  refine va_astq hx hb hK hP hD hS 2 1 4 7 rfl rfl rfl rfl (by unfold vp_in; decide +kernel) dX2_init_113 (fun H locs hP hD hS => ?_)
                  have hP : va_P (dC, dI) vwCl [(h0, .inr (2, [.ref q_1, .ref q_3, .ref q_4, .ref q_5, .ref q_6, .ref q_7, .ref q_8, .null, .null, .int 0, .int 0, .int 0, .int 0, .int 0])), (q_6, .inl (cA_6, 4, .inr (.inr (.inr (.inr fg_27))))), (q_7, .inl (cA_7, 5, .inr (.inr (.inr (.inr (va_up (fg_41) 2 (some q_47))))))), (q_8, .inl (cA_8, 5, .inr (.inr (.inr (.inr fg_44))))), (q_47, .inr (7, [.ref rq_48, .int 0])), (rq_48, .inl (rc_48, 4, .inl (fun _ => 0)))] H := hP
                  have hD : va_D A [(h0, .inr (2, [.ref q_1, .ref q_3, .ref q_4, .ref q_5, .ref q_6, .ref q_7, .ref q_8, .null, .null, .int 0, .int 0, .int 0, .int 0, .int 0])), (q_6, .inl (cA_6, 4, .inr (.inr (.inr (.inr fg_27))))), (q_7, .inl (cA_7, 5, .inr (.inr (.inr (.inr (va_up (fg_41) 2 (some q_47))))))), (q_8, .inl (cA_8, 5, .inr (.inr (.inr (.inr fg_44))))), (q_47, .inr (7, [.ref rq_48, .int 0])), (rq_48, .inl (rc_48, 4, .inl (fun _ => 0)))] := hD
                  generalize hg_49 : va_up (fg_41) 2 (some q_47) = fg_49 at hP hD
                  have hP : va_P (dC, dI) vwCl [(h0, .inr (2, [.ref q_1, .ref q_3, .ref q_4, .ref q_5, .ref q_6, .ref q_7, .ref q_8, .null, .null, .int 0, .int 0, .int 0, .int 0, .int 0])), (q_6, .inl (cA_6, 4, .inr (.inr (.inr (.inr fg_27))))), (q_7, .inl (cA_7, 5, .inr (.inr (.inr (.inr fg_49))))), (q_8, .inl (cA_8, 5, .inr (.inr (.inr (.inr fg_44))))), (q_47, .inr (7, [.ref rq_48, .int 0])), (rq_48, .inl (rc_48, 4, .inl (fun _ => 0)))] H := hP
                  have hD : va_D A [(h0, .inr (2, [.ref q_1, .ref q_3, .ref q_4, .ref q_5, .ref q_6, .ref q_7, .ref q_8, .null, .null, .int 0, .int 0, .int 0, .int 0, .int 0])), (q_6, .inl (cA_6, 4, .inr (.inr (.inr (.inr fg_27))))), (q_7, .inl (cA_7, 5, .inr (.inr (.inr (.inr fg_49))))), (q_8, .inl (cA_8, 5, .inr (.inr (.inr (.inr fg_44))))), (q_47, .inr (7, [.ref rq_48, .int 0])), (rq_48, .inl (rc_48, 4, .inl (fun _ => 0)))] := hD
                  have hP := hP.sub (ws' := [(h0, .inr (2, [.ref q_1, .ref q_3, .ref q_4, .ref q_5, .ref q_6, .ref q_7, .ref q_8, .null, .null, .int 0, .int 0, .int 0, .int 0, .int 0])), (q_6, .inl (cA_6, 4, .inr (.inr (.inr (.inr fg_27))))), (q_7, .inl (cA_7, 5, .inr (.inr (.inr (.inr fg_49))))), (q_8, .inl (cA_8, 5, .inr (.inr (.inr (.inr fg_44)))))]) [0, 1, 2, 3] rfl
                  have hD := hD.sub (ws' := [(h0, .inr (2, [.ref q_1, .ref q_3, .ref q_4, .ref q_5, .ref q_6, .ref q_7, .ref q_8, .null, .null, .int 0, .int 0, .int 0, .int 0, .int 0])), (q_6, .inl (cA_6, 4, .inr (.inr (.inr (.inr fg_27))))), (q_7, .inl (cA_7, 5, .inr (.inr (.inr (.inr fg_49))))), (q_8, .inl (cA_8, 5, .inr (.inr (.inr (.inr fg_44)))))]) [0, 1, 2, 3] (by decide) rfl
                  have hK := hK.sub (tys' := [(cA_6, .object RX8), (cA_7, .object RX8), (cA_8, .object RX8)]) [0, 1, 2] rfl
                  refine lv_aload_n hx hb dX2_init_114 rfl (lv_at hl 1 rfl) ?_
                  refine va_get (D := (dC, dI)) (ci := 2) (v := .ref q_8) (C := RX2) (T := TX2) (N := 14) hx hb hts (by decide +kernel) hown hK hP 0 rfl rfl 6 (by decide) (hts (.fieldLink RX2 39 "CardTables$Ends" "layers" "[LCardTables$Row;") (List.mem_of_getElem? (l := wsX2_init) (i := 15) rfl)) (fun _ h9 => h9) rfl dX2_init_115 ?_
                  refine lv_iload_n hx hb dX2_init_118 rfl (lv_at hl 0 rfl) ?_
                  refine va_new (ci := 7) (fs := [.null, .int 0]) (C := RX8) (T := TX8) (N := 2) hx hb hts (by decide +kernel) tyX8 tyX8_ok hown (hts (.classLink RX2 30 RX8) (List.mem_of_getElem? (l := wsX2_init) (i := 12) rfl)) (hts (.instantiable RX8 2) (List.mem_of_getElem? (l := wsX2_init) (i := 16) rfl)) (hts (.initialized RX8) (List.mem_of_getElem? (l := wsX2_init) (i := 17) rfl)) hK hP hD hS hA rfl (fun j hj => by rcases (show j = 0 ∨ j = 1 by omega) with rfl | rfl <;> rfl) (Nat.le_of_ble_eq_true rfl) (Nat.le_of_ble_eq_true rfl) dX2_init_119 (fun q_50 H hP hD hS => ?_)
                  have hP : va_P (dC, dI) vwCl [(h0, .inr (2, [.ref q_1, .ref q_3, .ref q_4, .ref q_5, .ref q_6, .ref q_7, .ref q_8, .null, .null, .int 0, .int 0, .int 0, .int 0, .int 0])), (q_6, .inl (cA_6, 4, .inr (.inr (.inr (.inr fg_27))))), (q_7, .inl (cA_7, 5, .inr (.inr (.inr (.inr fg_49))))), (q_8, .inl (cA_8, 5, .inr (.inr (.inr (.inr fg_44))))), (q_50, .inr (7, [.null, .int 0]))] H := hP
                  have hD : va_D A [(h0, .inr (2, [.ref q_1, .ref q_3, .ref q_4, .ref q_5, .ref q_6, .ref q_7, .ref q_8, .null, .null, .int 0, .int 0, .int 0, .int 0, .int 0])), (q_6, .inl (cA_6, 4, .inr (.inr (.inr (.inr fg_27))))), (q_7, .inl (cA_7, 5, .inr (.inr (.inr (.inr fg_49))))), (q_8, .inl (cA_8, 5, .inr (.inr (.inr (.inr fg_44))))), (q_50, .inr (7, [.null, .int 0]))] := hD
                  refine W.widen (k := 28) (n := 41969) (by omega) (by omega) ?_
                  refine lv_dup hx hb dX2_init_122 rfl ?_
                  refine lv_iconst (v := 4) hx hb dX2_init_123 (by decide) ?_
                  have hPc := hP.sub (ws' := [(q_50, .inr (7, [.null, .int 0]))]) [4] rfl
                  have hDc := hD.sub (ws' := [(q_50, .inr (7, [.null, .int 0]))]) [4] (by decide) rfl
                  have hKc := hK.sub (tys' := []) [] rfl
                  have hFc := va_free (wc := [(q_50, .inr (7, [.null, .int 0]))]) hD hS hA [4] rfl
                  refine va_callv (va_runI (As := [.int 4]) (rest := [.ref q_50, .int 2, .ref q_8]) ⟨hx, hb, hml, hown, hts⟩ (c_Row_init l dC dI q_50 H.size 4 4 (by decide +kernel) (by decide +kernel) (by decide +kernel) (by decide +kernel)) (cwI 1 hts gX2_init_X8_init rfl rfl rfl (hts (.initialized RX8) (List.mem_of_getElem? (l := wsX2_init) (i := 17) rfl)) (hts (.methodLink RX2 42 yX8_init) (List.mem_of_getElem? (l := wsX2_init) (i := 25) rfl)) (hts (.instanceMethod yX8_init) (List.mem_of_getElem? (l := wsX2_init) (i := 26) rfl)) rfl (by decide +kernel) ⟨Nat.le_of_ble_eq_true rfl, Nat.le_of_ble_eq_true rfl⟩) ⟨fun a U g mk q => by obtain ⟨q0, q1, qP, qK, qD⟩ := q; exact ⟨q0, q1, qP, va_K.moved (u := U) (U := U.calling g mk a) (Vm.Alike.refl U.vm) qK, qD⟩, fun U hU hW => ⟨rfl, by rw [hU], by rw [hU]; exact hPc, va_K.moved hW.alike hKc, hDc.weaken (fun _ _ _ _ => trivial)⟩⟩ rfl rfl hl.1 rfl (lv_room (Nat.le_of_ble_eq_true rfl)) dX2_init_124 ⟨Nat.le_of_ble_eq_true rfl, Nat.le_of_ble_eq_true rfl⟩) hS (fun q _ h => hFc q h) hFc (fun u t H1 locs ht hvm hw hB hz1 hk1 hS => ?_)
                  obtain ⟨rq_51, rc_51, hP1, hK1, hD1⟩ := hB
                  rw [ht] at hP1
                  have hK1 := va_K.moved hvm.symm hK1
                  obtain ⟨hP, hD⟩ := va_join (wr := [(h0, .inr (2, [.ref q_1, .ref q_3, .ref q_4, .ref q_5, .ref q_6, .ref q_7, .ref q_8, .null, .null, .int 0, .int 0, .int 0, .int 0, .int 0])), (q_6, .inl (cA_6, 4, .inr (.inr (.inr (.inr fg_27))))), (q_7, .inl (cA_7, 5, .inr (.inr (.inr (.inr fg_49))))), (q_8, .inl (cA_8, 5, .inr (.inr (.inr (.inr fg_44)))))]) (w1 := [(q_50, .inr (7, [.ref rq_51, .int 0])), (rq_51, .inl (rc_51, 4, .inl (fun _ => 0)))]) hP hD [4] [0, 1, 2, 3] rfl rfl (by decide) (by decide) hk1 hFc hP1 hD1
                  have hK := (hK.sub (tys' := [(cA_6, .object RX8), (cA_7, .object RX8), (cA_8, .object RX8)]) [0, 1, 2] rfl).app hK1
                  generalize H1 = H at hP hS ⊢
                  have hP : va_P (dC, dI) vwCl [(h0, .inr (2, [.ref q_1, .ref q_3, .ref q_4, .ref q_5, .ref q_6, .ref q_7, .ref q_8, .null, .null, .int 0, .int 0, .int 0, .int 0, .int 0])), (q_6, .inl (cA_6, 4, .inr (.inr (.inr (.inr fg_27))))), (q_7, .inl (cA_7, 5, .inr (.inr (.inr (.inr fg_49))))), (q_8, .inl (cA_8, 5, .inr (.inr (.inr (.inr fg_44))))), (q_50, .inr (7, [.ref rq_51, .int 0])), (rq_51, .inl (rc_51, 4, .inl (fun _ => 0)))] H := hP
                  have hD : va_D A [(h0, .inr (2, [.ref q_1, .ref q_3, .ref q_4, .ref q_5, .ref q_6, .ref q_7, .ref q_8, .null, .null, .int 0, .int 0, .int 0, .int 0, .int 0])), (q_6, .inl (cA_6, 4, .inr (.inr (.inr (.inr fg_27))))), (q_7, .inl (cA_7, 5, .inr (.inr (.inr (.inr fg_49))))), (q_8, .inl (cA_8, 5, .inr (.inr (.inr (.inr fg_44))))), (q_50, .inr (7, [.ref rq_51, .int 0])), (rq_51, .inl (rc_51, 4, .inl (fun _ => 0)))] := hD
                  have hK : va_K (dC, dI) vwCl [(cA_6, .object RX8), (cA_7, .object RX8), (cA_8, .object RX8), (rc_51, .int)] s := hK
                  refine W.widen (k := 29) (n := 41973) (by omega) (by omega) ?_
                  refine va_astq hx hb hK hP hD hS 3 2 4 7 rfl rfl rfl rfl (by unfold vp_in; decide +kernel) dX2_init_127 (fun H locs hP hD hS => ?_)
                  have hP : va_P (dC, dI) vwCl [(h0, .inr (2, [.ref q_1, .ref q_3, .ref q_4, .ref q_5, .ref q_6, .ref q_7, .ref q_8, .null, .null, .int 0, .int 0, .int 0, .int 0, .int 0])), (q_6, .inl (cA_6, 4, .inr (.inr (.inr (.inr fg_27))))), (q_7, .inl (cA_7, 5, .inr (.inr (.inr (.inr fg_49))))), (q_8, .inl (cA_8, 5, .inr (.inr (.inr (.inr (va_up (fg_44) 2 (some q_50))))))), (q_50, .inr (7, [.ref rq_51, .int 0])), (rq_51, .inl (rc_51, 4, .inl (fun _ => 0)))] H := hP
                  have hD : va_D A [(h0, .inr (2, [.ref q_1, .ref q_3, .ref q_4, .ref q_5, .ref q_6, .ref q_7, .ref q_8, .null, .null, .int 0, .int 0, .int 0, .int 0, .int 0])), (q_6, .inl (cA_6, 4, .inr (.inr (.inr (.inr fg_27))))), (q_7, .inl (cA_7, 5, .inr (.inr (.inr (.inr fg_49))))), (q_8, .inl (cA_8, 5, .inr (.inr (.inr (.inr (va_up (fg_44) 2 (some q_50))))))), (q_50, .inr (7, [.ref rq_51, .int 0])), (rq_51, .inl (rc_51, 4, .inl (fun _ => 0)))] := hD
                  generalize hg_52 : va_up (fg_44) 2 (some q_50) = fg_52 at hP hD
                  have hP : va_P (dC, dI) vwCl [(h0, .inr (2, [.ref q_1, .ref q_3, .ref q_4, .ref q_5, .ref q_6, .ref q_7, .ref q_8, .null, .null, .int 0, .int 0, .int 0, .int 0, .int 0])), (q_6, .inl (cA_6, 4, .inr (.inr (.inr (.inr fg_27))))), (q_7, .inl (cA_7, 5, .inr (.inr (.inr (.inr fg_49))))), (q_8, .inl (cA_8, 5, .inr (.inr (.inr (.inr fg_52))))), (q_50, .inr (7, [.ref rq_51, .int 0])), (rq_51, .inl (rc_51, 4, .inl (fun _ => 0)))] H := hP
                  have hD : va_D A [(h0, .inr (2, [.ref q_1, .ref q_3, .ref q_4, .ref q_5, .ref q_6, .ref q_7, .ref q_8, .null, .null, .int 0, .int 0, .int 0, .int 0, .int 0])), (q_6, .inl (cA_6, 4, .inr (.inr (.inr (.inr fg_27))))), (q_7, .inl (cA_7, 5, .inr (.inr (.inr (.inr fg_49))))), (q_8, .inl (cA_8, 5, .inr (.inr (.inr (.inr fg_52))))), (q_50, .inr (7, [.ref rq_51, .int 0])), (rq_51, .inl (rc_51, 4, .inl (fun _ => 0)))] := hD
                  have hP := hP.sub (ws' := [(h0, .inr (2, [.ref q_1, .ref q_3, .ref q_4, .ref q_5, .ref q_6, .ref q_7, .ref q_8, .null, .null, .int 0, .int 0, .int 0, .int 0, .int 0])), (q_6, .inl (cA_6, 4, .inr (.inr (.inr (.inr fg_27))))), (q_7, .inl (cA_7, 5, .inr (.inr (.inr (.inr fg_49))))), (q_8, .inl (cA_8, 5, .inr (.inr (.inr (.inr fg_52)))))]) [0, 1, 2, 3] rfl
                  have hD := hD.sub (ws' := [(h0, .inr (2, [.ref q_1, .ref q_3, .ref q_4, .ref q_5, .ref q_6, .ref q_7, .ref q_8, .null, .null, .int 0, .int 0, .int 0, .int 0, .int 0])), (q_6, .inl (cA_6, 4, .inr (.inr (.inr (.inr fg_27))))), (q_7, .inl (cA_7, 5, .inr (.inr (.inr (.inr fg_49))))), (q_8, .inl (cA_8, 5, .inr (.inr (.inr (.inr fg_52)))))]) [0, 1, 2, 3] (by decide) rfl
                  have hK := hK.sub (tys' := [(cA_6, .object RX8), (cA_7, .object RX8), (cA_8, .object RX8)]) [0, 1, 2] rfl
                  refine lv_iinc (v := 3) (lv' := [(1, .int 3), (0, .ref h0)]) hx hb dX2_init_128 hl (k := 0) rfl (by decide) (by decide) rfl (fun ls hl => ?_)
                  refine lv_goto (tgt := 95) hx hb dX2_init_131 (by decide) ?_
                  refine lv_iload_n hx hb dX2_init_95 rfl (lv_at hl 0 rfl) ?_
                  refine lv_iconst (v := 4) hx hb dX2_init_96 (by decide) ?_
                  refine lv_icmp_gt (tgt := 134) hx hb dX2_init_97 (by decide) (fun c_54 => ?_) (fun c_54 => ?_)
                  · exact absurd c_54 (by decide +kernel)
                  · skip
                    refine lv_aload_n hx hb dX2_init_100 rfl (lv_at hl 1 rfl) ?_
                    refine va_get (D := (dC, dI)) (ci := 2) (v := .ref q_7) (C := RX2) (T := TX2) (N := 14) hx hb hts (by decide +kernel) hown hK hP 0 rfl rfl 5 (by decide) (hts (.fieldLink RX2 36 "CardTables$Ends" "tricks" "[LCardTables$Row;") (List.mem_of_getElem? (l := wsX2_init) (i := 14) rfl)) (fun _ h9 => h9) rfl dX2_init_101 ?_
                    refine lv_iload_n hx hb dX2_init_104 rfl (lv_at hl 0 rfl) ?_
                    refine va_new (ci := 7) (fs := [.null, .int 0]) (C := RX8) (T := TX8) (N := 2) hx hb hts (by decide +kernel) tyX8 tyX8_ok hown (hts (.classLink RX2 30 RX8) (List.mem_of_getElem? (l := wsX2_init) (i := 12) rfl)) (hts (.instantiable RX8 2) (List.mem_of_getElem? (l := wsX2_init) (i := 16) rfl)) (hts (.initialized RX8) (List.mem_of_getElem? (l := wsX2_init) (i := 17) rfl)) hK hP hD hS hA rfl (fun j hj => by rcases (show j = 0 ∨ j = 1 by omega) with rfl | rfl <;> rfl) (Nat.le_of_ble_eq_true rfl) (Nat.le_of_ble_eq_true rfl) dX2_init_105 (fun q_55 H hP hD hS => ?_)
                    have hP : va_P (dC, dI) vwCl [(h0, .inr (2, [.ref q_1, .ref q_3, .ref q_4, .ref q_5, .ref q_6, .ref q_7, .ref q_8, .null, .null, .int 0, .int 0, .int 0, .int 0, .int 0])), (q_6, .inl (cA_6, 4, .inr (.inr (.inr (.inr fg_27))))), (q_7, .inl (cA_7, 5, .inr (.inr (.inr (.inr fg_49))))), (q_8, .inl (cA_8, 5, .inr (.inr (.inr (.inr fg_52))))), (q_55, .inr (7, [.null, .int 0]))] H := hP
                    have hD : va_D A [(h0, .inr (2, [.ref q_1, .ref q_3, .ref q_4, .ref q_5, .ref q_6, .ref q_7, .ref q_8, .null, .null, .int 0, .int 0, .int 0, .int 0, .int 0])), (q_6, .inl (cA_6, 4, .inr (.inr (.inr (.inr fg_27))))), (q_7, .inl (cA_7, 5, .inr (.inr (.inr (.inr fg_49))))), (q_8, .inl (cA_8, 5, .inr (.inr (.inr (.inr fg_52))))), (q_55, .inr (7, [.null, .int 0]))] := hD
                    refine W.widen (k := 30) (n := 41975) (by omega) (by omega) ?_
                    refine lv_dup hx hb dX2_init_108 rfl ?_
                    refine lv_iconst (v := 4) hx hb dX2_init_109 (by decide) ?_
                    have hPc := hP.sub (ws' := [(q_55, .inr (7, [.null, .int 0]))]) [4] rfl
                    have hDc := hD.sub (ws' := [(q_55, .inr (7, [.null, .int 0]))]) [4] (by decide) rfl
                    have hKc := hK.sub (tys' := []) [] rfl
                    have hFc := va_free (wc := [(q_55, .inr (7, [.null, .int 0]))]) hD hS hA [4] rfl
                    refine va_callv (va_runI (As := [.int 4]) (rest := [.ref q_55, .int 3, .ref q_7]) ⟨hx, hb, hml, hown, hts⟩ (c_Row_init l dC dI q_55 H.size 4 4 (by decide +kernel) (by decide +kernel) (by decide +kernel) (by decide +kernel)) (cwI 1 hts gX2_init_X8_init rfl rfl rfl (hts (.initialized RX8) (List.mem_of_getElem? (l := wsX2_init) (i := 17) rfl)) (hts (.methodLink RX2 42 yX8_init) (List.mem_of_getElem? (l := wsX2_init) (i := 25) rfl)) (hts (.instanceMethod yX8_init) (List.mem_of_getElem? (l := wsX2_init) (i := 26) rfl)) rfl (by decide +kernel) ⟨Nat.le_of_ble_eq_true rfl, Nat.le_of_ble_eq_true rfl⟩) ⟨fun a U g mk q => by obtain ⟨q0, q1, qP, qK, qD⟩ := q; exact ⟨q0, q1, qP, va_K.moved (u := U) (U := U.calling g mk a) (Vm.Alike.refl U.vm) qK, qD⟩, fun U hU hW => ⟨rfl, by rw [hU], by rw [hU]; exact hPc, va_K.moved hW.alike hKc, hDc.weaken (fun _ _ _ _ => trivial)⟩⟩ rfl rfl hl.1 rfl (lv_room (Nat.le_of_ble_eq_true rfl)) dX2_init_110 ⟨Nat.le_of_ble_eq_true rfl, Nat.le_of_ble_eq_true rfl⟩) hS (fun q _ h => hFc q h) hFc (fun u t H1 locs ht hvm hw hB hz1 hk1 hS => ?_)
                    obtain ⟨rq_56, rc_56, hP1, hK1, hD1⟩ := hB
                    rw [ht] at hP1
                    have hK1 := va_K.moved hvm.symm hK1
                    obtain ⟨hP, hD⟩ := va_join (wr := [(h0, .inr (2, [.ref q_1, .ref q_3, .ref q_4, .ref q_5, .ref q_6, .ref q_7, .ref q_8, .null, .null, .int 0, .int 0, .int 0, .int 0, .int 0])), (q_6, .inl (cA_6, 4, .inr (.inr (.inr (.inr fg_27))))), (q_7, .inl (cA_7, 5, .inr (.inr (.inr (.inr fg_49))))), (q_8, .inl (cA_8, 5, .inr (.inr (.inr (.inr fg_52)))))]) (w1 := [(q_55, .inr (7, [.ref rq_56, .int 0])), (rq_56, .inl (rc_56, 4, .inl (fun _ => 0)))]) hP hD [4] [0, 1, 2, 3] rfl rfl (by decide) (by decide) hk1 hFc hP1 hD1
                    have hK := (hK.sub (tys' := [(cA_6, .object RX8), (cA_7, .object RX8), (cA_8, .object RX8)]) [0, 1, 2] rfl).app hK1
                    generalize H1 = H at hP hS ⊢
                    have hP : va_P (dC, dI) vwCl [(h0, .inr (2, [.ref q_1, .ref q_3, .ref q_4, .ref q_5, .ref q_6, .ref q_7, .ref q_8, .null, .null, .int 0, .int 0, .int 0, .int 0, .int 0])), (q_6, .inl (cA_6, 4, .inr (.inr (.inr (.inr fg_27))))), (q_7, .inl (cA_7, 5, .inr (.inr (.inr (.inr fg_49))))), (q_8, .inl (cA_8, 5, .inr (.inr (.inr (.inr fg_52))))), (q_55, .inr (7, [.ref rq_56, .int 0])), (rq_56, .inl (rc_56, 4, .inl (fun _ => 0)))] H := hP
                    have hD : va_D A [(h0, .inr (2, [.ref q_1, .ref q_3, .ref q_4, .ref q_5, .ref q_6, .ref q_7, .ref q_8, .null, .null, .int 0, .int 0, .int 0, .int 0, .int 0])), (q_6, .inl (cA_6, 4, .inr (.inr (.inr (.inr fg_27))))), (q_7, .inl (cA_7, 5, .inr (.inr (.inr (.inr fg_49))))), (q_8, .inl (cA_8, 5, .inr (.inr (.inr (.inr fg_52))))), (q_55, .inr (7, [.ref rq_56, .int 0])), (rq_56, .inl (rc_56, 4, .inl (fun _ => 0)))] := hD
                    have hK : va_K (dC, dI) vwCl [(cA_6, .object RX8), (cA_7, .object RX8), (cA_8, .object RX8), (rc_56, .int)] s := hK
                    refine W.widen (k := 31) (n := 41979) (by omega) (by omega) ?_
                    refine va_astq hx hb hK hP hD hS 2 1 4 7 rfl rfl rfl rfl (by unfold vp_in; decide +kernel) dX2_init_113 (fun H locs hP hD hS => ?_)
                    have hP : va_P (dC, dI) vwCl [(h0, .inr (2, [.ref q_1, .ref q_3, .ref q_4, .ref q_5, .ref q_6, .ref q_7, .ref q_8, .null, .null, .int 0, .int 0, .int 0, .int 0, .int 0])), (q_6, .inl (cA_6, 4, .inr (.inr (.inr (.inr fg_27))))), (q_7, .inl (cA_7, 5, .inr (.inr (.inr (.inr (va_up (fg_49) 3 (some q_55))))))), (q_8, .inl (cA_8, 5, .inr (.inr (.inr (.inr fg_52))))), (q_55, .inr (7, [.ref rq_56, .int 0])), (rq_56, .inl (rc_56, 4, .inl (fun _ => 0)))] H := hP
                    have hD : va_D A [(h0, .inr (2, [.ref q_1, .ref q_3, .ref q_4, .ref q_5, .ref q_6, .ref q_7, .ref q_8, .null, .null, .int 0, .int 0, .int 0, .int 0, .int 0])), (q_6, .inl (cA_6, 4, .inr (.inr (.inr (.inr fg_27))))), (q_7, .inl (cA_7, 5, .inr (.inr (.inr (.inr (va_up (fg_49) 3 (some q_55))))))), (q_8, .inl (cA_8, 5, .inr (.inr (.inr (.inr fg_52))))), (q_55, .inr (7, [.ref rq_56, .int 0])), (rq_56, .inl (rc_56, 4, .inl (fun _ => 0)))] := hD
                    generalize hg_57 : va_up (fg_49) 3 (some q_55) = fg_57 at hP hD
                    have hP : va_P (dC, dI) vwCl [(h0, .inr (2, [.ref q_1, .ref q_3, .ref q_4, .ref q_5, .ref q_6, .ref q_7, .ref q_8, .null, .null, .int 0, .int 0, .int 0, .int 0, .int 0])), (q_6, .inl (cA_6, 4, .inr (.inr (.inr (.inr fg_27))))), (q_7, .inl (cA_7, 5, .inr (.inr (.inr (.inr fg_57))))), (q_8, .inl (cA_8, 5, .inr (.inr (.inr (.inr fg_52))))), (q_55, .inr (7, [.ref rq_56, .int 0])), (rq_56, .inl (rc_56, 4, .inl (fun _ => 0)))] H := hP
                    have hD : va_D A [(h0, .inr (2, [.ref q_1, .ref q_3, .ref q_4, .ref q_5, .ref q_6, .ref q_7, .ref q_8, .null, .null, .int 0, .int 0, .int 0, .int 0, .int 0])), (q_6, .inl (cA_6, 4, .inr (.inr (.inr (.inr fg_27))))), (q_7, .inl (cA_7, 5, .inr (.inr (.inr (.inr fg_57))))), (q_8, .inl (cA_8, 5, .inr (.inr (.inr (.inr fg_52))))), (q_55, .inr (7, [.ref rq_56, .int 0])), (rq_56, .inl (rc_56, 4, .inl (fun _ => 0)))] := hD
                    have hP := hP.sub (ws' := [(h0, .inr (2, [.ref q_1, .ref q_3, .ref q_4, .ref q_5, .ref q_6, .ref q_7, .ref q_8, .null, .null, .int 0, .int 0, .int 0, .int 0, .int 0])), (q_6, .inl (cA_6, 4, .inr (.inr (.inr (.inr fg_27))))), (q_7, .inl (cA_7, 5, .inr (.inr (.inr (.inr fg_57))))), (q_8, .inl (cA_8, 5, .inr (.inr (.inr (.inr fg_52)))))]) [0, 1, 2, 3] rfl
                    have hD := hD.sub (ws' := [(h0, .inr (2, [.ref q_1, .ref q_3, .ref q_4, .ref q_5, .ref q_6, .ref q_7, .ref q_8, .null, .null, .int 0, .int 0, .int 0, .int 0, .int 0])), (q_6, .inl (cA_6, 4, .inr (.inr (.inr (.inr fg_27))))), (q_7, .inl (cA_7, 5, .inr (.inr (.inr (.inr fg_57))))), (q_8, .inl (cA_8, 5, .inr (.inr (.inr (.inr fg_52)))))]) [0, 1, 2, 3] (by decide) rfl
                    have hK := hK.sub (tys' := [(cA_6, .object RX8), (cA_7, .object RX8), (cA_8, .object RX8)]) [0, 1, 2] rfl
                    refine lv_aload_n hx hb dX2_init_114 rfl (lv_at hl 1 rfl) ?_
                    refine va_get (D := (dC, dI)) (ci := 2) (v := .ref q_8) (C := RX2) (T := TX2) (N := 14) hx hb hts (by decide +kernel) hown hK hP 0 rfl rfl 6 (by decide) (hts (.fieldLink RX2 39 "CardTables$Ends" "layers" "[LCardTables$Row;") (List.mem_of_getElem? (l := wsX2_init) (i := 15) rfl)) (fun _ h9 => h9) rfl dX2_init_115 ?_
                    refine lv_iload_n hx hb dX2_init_118 rfl (lv_at hl 0 rfl) ?_
                    refine va_new (ci := 7) (fs := [.null, .int 0]) (C := RX8) (T := TX8) (N := 2) hx hb hts (by decide +kernel) tyX8 tyX8_ok hown (hts (.classLink RX2 30 RX8) (List.mem_of_getElem? (l := wsX2_init) (i := 12) rfl)) (hts (.instantiable RX8 2) (List.mem_of_getElem? (l := wsX2_init) (i := 16) rfl)) (hts (.initialized RX8) (List.mem_of_getElem? (l := wsX2_init) (i := 17) rfl)) hK hP hD hS hA rfl (fun j hj => by rcases (show j = 0 ∨ j = 1 by omega) with rfl | rfl <;> rfl) (Nat.le_of_ble_eq_true rfl) (Nat.le_of_ble_eq_true rfl) dX2_init_119 (fun q_58 H hP hD hS => ?_)
                    have hP : va_P (dC, dI) vwCl [(h0, .inr (2, [.ref q_1, .ref q_3, .ref q_4, .ref q_5, .ref q_6, .ref q_7, .ref q_8, .null, .null, .int 0, .int 0, .int 0, .int 0, .int 0])), (q_6, .inl (cA_6, 4, .inr (.inr (.inr (.inr fg_27))))), (q_7, .inl (cA_7, 5, .inr (.inr (.inr (.inr fg_57))))), (q_8, .inl (cA_8, 5, .inr (.inr (.inr (.inr fg_52))))), (q_58, .inr (7, [.null, .int 0]))] H := hP
                    have hD : va_D A [(h0, .inr (2, [.ref q_1, .ref q_3, .ref q_4, .ref q_5, .ref q_6, .ref q_7, .ref q_8, .null, .null, .int 0, .int 0, .int 0, .int 0, .int 0])), (q_6, .inl (cA_6, 4, .inr (.inr (.inr (.inr fg_27))))), (q_7, .inl (cA_7, 5, .inr (.inr (.inr (.inr fg_57))))), (q_8, .inl (cA_8, 5, .inr (.inr (.inr (.inr fg_52))))), (q_58, .inr (7, [.null, .int 0]))] := hD
                    refine W.widen (k := 32) (n := 41981) (by omega) (by omega) ?_
                    refine lv_dup hx hb dX2_init_122 rfl ?_
                    refine lv_iconst (v := 4) hx hb dX2_init_123 (by decide) ?_
                    have hPc := hP.sub (ws' := [(q_58, .inr (7, [.null, .int 0]))]) [4] rfl
                    have hDc := hD.sub (ws' := [(q_58, .inr (7, [.null, .int 0]))]) [4] (by decide) rfl
                    have hKc := hK.sub (tys' := []) [] rfl
                    have hFc := va_free (wc := [(q_58, .inr (7, [.null, .int 0]))]) hD hS hA [4] rfl
                    refine va_callv (va_runI (As := [.int 4]) (rest := [.ref q_58, .int 3, .ref q_8]) ⟨hx, hb, hml, hown, hts⟩ (c_Row_init l dC dI q_58 H.size 4 4 (by decide +kernel) (by decide +kernel) (by decide +kernel) (by decide +kernel)) (cwI 1 hts gX2_init_X8_init rfl rfl rfl (hts (.initialized RX8) (List.mem_of_getElem? (l := wsX2_init) (i := 17) rfl)) (hts (.methodLink RX2 42 yX8_init) (List.mem_of_getElem? (l := wsX2_init) (i := 25) rfl)) (hts (.instanceMethod yX8_init) (List.mem_of_getElem? (l := wsX2_init) (i := 26) rfl)) rfl (by decide +kernel) ⟨Nat.le_of_ble_eq_true rfl, Nat.le_of_ble_eq_true rfl⟩) ⟨fun a U g mk q => by obtain ⟨q0, q1, qP, qK, qD⟩ := q; exact ⟨q0, q1, qP, va_K.moved (u := U) (U := U.calling g mk a) (Vm.Alike.refl U.vm) qK, qD⟩, fun U hU hW => ⟨rfl, by rw [hU], by rw [hU]; exact hPc, va_K.moved hW.alike hKc, hDc.weaken (fun _ _ _ _ => trivial)⟩⟩ rfl rfl hl.1 rfl (lv_room (Nat.le_of_ble_eq_true rfl)) dX2_init_124 ⟨Nat.le_of_ble_eq_true rfl, Nat.le_of_ble_eq_true rfl⟩) hS (fun q _ h => hFc q h) hFc (fun u t H1 locs ht hvm hw hB hz1 hk1 hS => ?_)
                    obtain ⟨rq_59, rc_59, hP1, hK1, hD1⟩ := hB
                    rw [ht] at hP1
                    have hK1 := va_K.moved hvm.symm hK1
                    obtain ⟨hP, hD⟩ := va_join (wr := [(h0, .inr (2, [.ref q_1, .ref q_3, .ref q_4, .ref q_5, .ref q_6, .ref q_7, .ref q_8, .null, .null, .int 0, .int 0, .int 0, .int 0, .int 0])), (q_6, .inl (cA_6, 4, .inr (.inr (.inr (.inr fg_27))))), (q_7, .inl (cA_7, 5, .inr (.inr (.inr (.inr fg_57))))), (q_8, .inl (cA_8, 5, .inr (.inr (.inr (.inr fg_52)))))]) (w1 := [(q_58, .inr (7, [.ref rq_59, .int 0])), (rq_59, .inl (rc_59, 4, .inl (fun _ => 0)))]) hP hD [4] [0, 1, 2, 3] rfl rfl (by decide) (by decide) hk1 hFc hP1 hD1
                    have hK := (hK.sub (tys' := [(cA_6, .object RX8), (cA_7, .object RX8), (cA_8, .object RX8)]) [0, 1, 2] rfl).app hK1
                    generalize H1 = H at hP hS ⊢
                    have hP : va_P (dC, dI) vwCl [(h0, .inr (2, [.ref q_1, .ref q_3, .ref q_4, .ref q_5, .ref q_6, .ref q_7, .ref q_8, .null, .null, .int 0, .int 0, .int 0, .int 0, .int 0])), (q_6, .inl (cA_6, 4, .inr (.inr (.inr (.inr fg_27))))), (q_7, .inl (cA_7, 5, .inr (.inr (.inr (.inr fg_57))))), (q_8, .inl (cA_8, 5, .inr (.inr (.inr (.inr fg_52))))), (q_58, .inr (7, [.ref rq_59, .int 0])), (rq_59, .inl (rc_59, 4, .inl (fun _ => 0)))] H := hP
                    have hD : va_D A [(h0, .inr (2, [.ref q_1, .ref q_3, .ref q_4, .ref q_5, .ref q_6, .ref q_7, .ref q_8, .null, .null, .int 0, .int 0, .int 0, .int 0, .int 0])), (q_6, .inl (cA_6, 4, .inr (.inr (.inr (.inr fg_27))))), (q_7, .inl (cA_7, 5, .inr (.inr (.inr (.inr fg_57))))), (q_8, .inl (cA_8, 5, .inr (.inr (.inr (.inr fg_52))))), (q_58, .inr (7, [.ref rq_59, .int 0])), (rq_59, .inl (rc_59, 4, .inl (fun _ => 0)))] := hD
                    have hK : va_K (dC, dI) vwCl [(cA_6, .object RX8), (cA_7, .object RX8), (cA_8, .object RX8), (rc_59, .int)] s := hK
                    refine W.widen (k := 33) (n := 41985) (by omega) (by omega) ?_
                    refine va_astq hx hb hK hP hD hS 3 2 4 7 rfl rfl rfl rfl (by unfold vp_in; decide +kernel) dX2_init_127 (fun H locs hP hD hS => ?_)
                    have hP : va_P (dC, dI) vwCl [(h0, .inr (2, [.ref q_1, .ref q_3, .ref q_4, .ref q_5, .ref q_6, .ref q_7, .ref q_8, .null, .null, .int 0, .int 0, .int 0, .int 0, .int 0])), (q_6, .inl (cA_6, 4, .inr (.inr (.inr (.inr fg_27))))), (q_7, .inl (cA_7, 5, .inr (.inr (.inr (.inr fg_57))))), (q_8, .inl (cA_8, 5, .inr (.inr (.inr (.inr (va_up (fg_52) 3 (some q_58))))))), (q_58, .inr (7, [.ref rq_59, .int 0])), (rq_59, .inl (rc_59, 4, .inl (fun _ => 0)))] H := hP
                    have hD : va_D A [(h0, .inr (2, [.ref q_1, .ref q_3, .ref q_4, .ref q_5, .ref q_6, .ref q_7, .ref q_8, .null, .null, .int 0, .int 0, .int 0, .int 0, .int 0])), (q_6, .inl (cA_6, 4, .inr (.inr (.inr (.inr fg_27))))), (q_7, .inl (cA_7, 5, .inr (.inr (.inr (.inr fg_57))))), (q_8, .inl (cA_8, 5, .inr (.inr (.inr (.inr (va_up (fg_52) 3 (some q_58))))))), (q_58, .inr (7, [.ref rq_59, .int 0])), (rq_59, .inl (rc_59, 4, .inl (fun _ => 0)))] := hD
                    generalize hg_60 : va_up (fg_52) 3 (some q_58) = fg_60 at hP hD
                    have hP : va_P (dC, dI) vwCl [(h0, .inr (2, [.ref q_1, .ref q_3, .ref q_4, .ref q_5, .ref q_6, .ref q_7, .ref q_8, .null, .null, .int 0, .int 0, .int 0, .int 0, .int 0])), (q_6, .inl (cA_6, 4, .inr (.inr (.inr (.inr fg_27))))), (q_7, .inl (cA_7, 5, .inr (.inr (.inr (.inr fg_57))))), (q_8, .inl (cA_8, 5, .inr (.inr (.inr (.inr fg_60))))), (q_58, .inr (7, [.ref rq_59, .int 0])), (rq_59, .inl (rc_59, 4, .inl (fun _ => 0)))] H := hP
                    have hD : va_D A [(h0, .inr (2, [.ref q_1, .ref q_3, .ref q_4, .ref q_5, .ref q_6, .ref q_7, .ref q_8, .null, .null, .int 0, .int 0, .int 0, .int 0, .int 0])), (q_6, .inl (cA_6, 4, .inr (.inr (.inr (.inr fg_27))))), (q_7, .inl (cA_7, 5, .inr (.inr (.inr (.inr fg_57))))), (q_8, .inl (cA_8, 5, .inr (.inr (.inr (.inr fg_60))))), (q_58, .inr (7, [.ref rq_59, .int 0])), (rq_59, .inl (rc_59, 4, .inl (fun _ => 0)))] := hD
                    have hP := hP.sub (ws' := [(h0, .inr (2, [.ref q_1, .ref q_3, .ref q_4, .ref q_5, .ref q_6, .ref q_7, .ref q_8, .null, .null, .int 0, .int 0, .int 0, .int 0, .int 0])), (q_6, .inl (cA_6, 4, .inr (.inr (.inr (.inr fg_27))))), (q_7, .inl (cA_7, 5, .inr (.inr (.inr (.inr fg_57))))), (q_8, .inl (cA_8, 5, .inr (.inr (.inr (.inr fg_60)))))]) [0, 1, 2, 3] rfl
                    have hD := hD.sub (ws' := [(h0, .inr (2, [.ref q_1, .ref q_3, .ref q_4, .ref q_5, .ref q_6, .ref q_7, .ref q_8, .null, .null, .int 0, .int 0, .int 0, .int 0, .int 0])), (q_6, .inl (cA_6, 4, .inr (.inr (.inr (.inr fg_27))))), (q_7, .inl (cA_7, 5, .inr (.inr (.inr (.inr fg_57))))), (q_8, .inl (cA_8, 5, .inr (.inr (.inr (.inr fg_60)))))]) [0, 1, 2, 3] (by decide) rfl
                    have hK := hK.sub (tys' := [(cA_6, .object RX8), (cA_7, .object RX8), (cA_8, .object RX8)]) [0, 1, 2] rfl
                    refine lv_iinc (v := 4) (lv' := [(1, .int 4), (0, .ref h0)]) hx hb dX2_init_128 hl (k := 0) rfl (by decide) (by decide) rfl (fun ls hl => ?_)
                    refine lv_goto (tgt := 95) hx hb dX2_init_131 (by decide) ?_
                    refine lv_iload_n hx hb dX2_init_95 rfl (lv_at hl 0 rfl) ?_
                    refine lv_iconst (v := 4) hx hb dX2_init_96 (by decide) ?_
                    refine lv_icmp_gt (tgt := 134) hx hb dX2_init_97 (by decide) (fun c_62 => ?_) (fun c_62 => ?_)
                    · exact absurd c_62 (by decide +kernel)
                    · skip
                      refine lv_aload_n hx hb dX2_init_100 rfl (lv_at hl 1 rfl) ?_
                      refine va_get (D := (dC, dI)) (ci := 2) (v := .ref q_7) (C := RX2) (T := TX2) (N := 14) hx hb hts (by decide +kernel) hown hK hP 0 rfl rfl 5 (by decide) (hts (.fieldLink RX2 36 "CardTables$Ends" "tricks" "[LCardTables$Row;") (List.mem_of_getElem? (l := wsX2_init) (i := 14) rfl)) (fun _ h9 => h9) rfl dX2_init_101 ?_
                      refine lv_iload_n hx hb dX2_init_104 rfl (lv_at hl 0 rfl) ?_
                      refine va_new (ci := 7) (fs := [.null, .int 0]) (C := RX8) (T := TX8) (N := 2) hx hb hts (by decide +kernel) tyX8 tyX8_ok hown (hts (.classLink RX2 30 RX8) (List.mem_of_getElem? (l := wsX2_init) (i := 12) rfl)) (hts (.instantiable RX8 2) (List.mem_of_getElem? (l := wsX2_init) (i := 16) rfl)) (hts (.initialized RX8) (List.mem_of_getElem? (l := wsX2_init) (i := 17) rfl)) hK hP hD hS hA rfl (fun j hj => by rcases (show j = 0 ∨ j = 1 by omega) with rfl | rfl <;> rfl) (Nat.le_of_ble_eq_true rfl) (Nat.le_of_ble_eq_true rfl) dX2_init_105 (fun q_63 H hP hD hS => ?_)
                      have hP : va_P (dC, dI) vwCl [(h0, .inr (2, [.ref q_1, .ref q_3, .ref q_4, .ref q_5, .ref q_6, .ref q_7, .ref q_8, .null, .null, .int 0, .int 0, .int 0, .int 0, .int 0])), (q_6, .inl (cA_6, 4, .inr (.inr (.inr (.inr fg_27))))), (q_7, .inl (cA_7, 5, .inr (.inr (.inr (.inr fg_57))))), (q_8, .inl (cA_8, 5, .inr (.inr (.inr (.inr fg_60))))), (q_63, .inr (7, [.null, .int 0]))] H := hP
                      have hD : va_D A [(h0, .inr (2, [.ref q_1, .ref q_3, .ref q_4, .ref q_5, .ref q_6, .ref q_7, .ref q_8, .null, .null, .int 0, .int 0, .int 0, .int 0, .int 0])), (q_6, .inl (cA_6, 4, .inr (.inr (.inr (.inr fg_27))))), (q_7, .inl (cA_7, 5, .inr (.inr (.inr (.inr fg_57))))), (q_8, .inl (cA_8, 5, .inr (.inr (.inr (.inr fg_60))))), (q_63, .inr (7, [.null, .int 0]))] := hD
                      refine W.widen (k := 34) (n := 41987) (by omega) (by omega) ?_
                      refine lv_dup hx hb dX2_init_108 rfl ?_
                      refine lv_iconst (v := 4) hx hb dX2_init_109 (by decide) ?_
                      have hPc := hP.sub (ws' := [(q_63, .inr (7, [.null, .int 0]))]) [4] rfl
                      have hDc := hD.sub (ws' := [(q_63, .inr (7, [.null, .int 0]))]) [4] (by decide) rfl
                      have hKc := hK.sub (tys' := []) [] rfl
                      have hFc := va_free (wc := [(q_63, .inr (7, [.null, .int 0]))]) hD hS hA [4] rfl
                      refine va_callv (va_runI (As := [.int 4]) (rest := [.ref q_63, .int 4, .ref q_7]) ⟨hx, hb, hml, hown, hts⟩ (c_Row_init l dC dI q_63 H.size 4 4 (by decide +kernel) (by decide +kernel) (by decide +kernel) (by decide +kernel)) (cwI 1 hts gX2_init_X8_init rfl rfl rfl (hts (.initialized RX8) (List.mem_of_getElem? (l := wsX2_init) (i := 17) rfl)) (hts (.methodLink RX2 42 yX8_init) (List.mem_of_getElem? (l := wsX2_init) (i := 25) rfl)) (hts (.instanceMethod yX8_init) (List.mem_of_getElem? (l := wsX2_init) (i := 26) rfl)) rfl (by decide +kernel) ⟨Nat.le_of_ble_eq_true rfl, Nat.le_of_ble_eq_true rfl⟩) ⟨fun a U g mk q => by obtain ⟨q0, q1, qP, qK, qD⟩ := q; exact ⟨q0, q1, qP, va_K.moved (u := U) (U := U.calling g mk a) (Vm.Alike.refl U.vm) qK, qD⟩, fun U hU hW => ⟨rfl, by rw [hU], by rw [hU]; exact hPc, va_K.moved hW.alike hKc, hDc.weaken (fun _ _ _ _ => trivial)⟩⟩ rfl rfl hl.1 rfl (lv_room (Nat.le_of_ble_eq_true rfl)) dX2_init_110 ⟨Nat.le_of_ble_eq_true rfl, Nat.le_of_ble_eq_true rfl⟩) hS (fun q _ h => hFc q h) hFc (fun u t H1 locs ht hvm hw hB hz1 hk1 hS => ?_)
                      obtain ⟨rq_64, rc_64, hP1, hK1, hD1⟩ := hB
                      rw [ht] at hP1
                      have hK1 := va_K.moved hvm.symm hK1
                      obtain ⟨hP, hD⟩ := va_join (wr := [(h0, .inr (2, [.ref q_1, .ref q_3, .ref q_4, .ref q_5, .ref q_6, .ref q_7, .ref q_8, .null, .null, .int 0, .int 0, .int 0, .int 0, .int 0])), (q_6, .inl (cA_6, 4, .inr (.inr (.inr (.inr fg_27))))), (q_7, .inl (cA_7, 5, .inr (.inr (.inr (.inr fg_57))))), (q_8, .inl (cA_8, 5, .inr (.inr (.inr (.inr fg_60)))))]) (w1 := [(q_63, .inr (7, [.ref rq_64, .int 0])), (rq_64, .inl (rc_64, 4, .inl (fun _ => 0)))]) hP hD [4] [0, 1, 2, 3] rfl rfl (by decide) (by decide) hk1 hFc hP1 hD1
                      have hK := (hK.sub (tys' := [(cA_6, .object RX8), (cA_7, .object RX8), (cA_8, .object RX8)]) [0, 1, 2] rfl).app hK1
                      generalize H1 = H at hP hS ⊢
                      have hP : va_P (dC, dI) vwCl [(h0, .inr (2, [.ref q_1, .ref q_3, .ref q_4, .ref q_5, .ref q_6, .ref q_7, .ref q_8, .null, .null, .int 0, .int 0, .int 0, .int 0, .int 0])), (q_6, .inl (cA_6, 4, .inr (.inr (.inr (.inr fg_27))))), (q_7, .inl (cA_7, 5, .inr (.inr (.inr (.inr fg_57))))), (q_8, .inl (cA_8, 5, .inr (.inr (.inr (.inr fg_60))))), (q_63, .inr (7, [.ref rq_64, .int 0])), (rq_64, .inl (rc_64, 4, .inl (fun _ => 0)))] H := hP
                      have hD : va_D A [(h0, .inr (2, [.ref q_1, .ref q_3, .ref q_4, .ref q_5, .ref q_6, .ref q_7, .ref q_8, .null, .null, .int 0, .int 0, .int 0, .int 0, .int 0])), (q_6, .inl (cA_6, 4, .inr (.inr (.inr (.inr fg_27))))), (q_7, .inl (cA_7, 5, .inr (.inr (.inr (.inr fg_57))))), (q_8, .inl (cA_8, 5, .inr (.inr (.inr (.inr fg_60))))), (q_63, .inr (7, [.ref rq_64, .int 0])), (rq_64, .inl (rc_64, 4, .inl (fun _ => 0)))] := hD
                      have hK : va_K (dC, dI) vwCl [(cA_6, .object RX8), (cA_7, .object RX8), (cA_8, .object RX8), (rc_64, .int)] s := hK
                      refine W.widen (k := 35) (n := 41991) (by omega) (by omega) ?_
                      refine va_astq hx hb hK hP hD hS 2 1 4 7 rfl rfl rfl rfl (by unfold vp_in; decide +kernel) dX2_init_113 (fun H locs hP hD hS => ?_)
                      have hP : va_P (dC, dI) vwCl [(h0, .inr (2, [.ref q_1, .ref q_3, .ref q_4, .ref q_5, .ref q_6, .ref q_7, .ref q_8, .null, .null, .int 0, .int 0, .int 0, .int 0, .int 0])), (q_6, .inl (cA_6, 4, .inr (.inr (.inr (.inr fg_27))))), (q_7, .inl (cA_7, 5, .inr (.inr (.inr (.inr (va_up (fg_57) 4 (some q_63))))))), (q_8, .inl (cA_8, 5, .inr (.inr (.inr (.inr fg_60))))), (q_63, .inr (7, [.ref rq_64, .int 0])), (rq_64, .inl (rc_64, 4, .inl (fun _ => 0)))] H := hP
                      have hD : va_D A [(h0, .inr (2, [.ref q_1, .ref q_3, .ref q_4, .ref q_5, .ref q_6, .ref q_7, .ref q_8, .null, .null, .int 0, .int 0, .int 0, .int 0, .int 0])), (q_6, .inl (cA_6, 4, .inr (.inr (.inr (.inr fg_27))))), (q_7, .inl (cA_7, 5, .inr (.inr (.inr (.inr (va_up (fg_57) 4 (some q_63))))))), (q_8, .inl (cA_8, 5, .inr (.inr (.inr (.inr fg_60))))), (q_63, .inr (7, [.ref rq_64, .int 0])), (rq_64, .inl (rc_64, 4, .inl (fun _ => 0)))] := hD
                      generalize hg_65 : va_up (fg_57) 4 (some q_63) = fg_65 at hP hD
                      have hP : va_P (dC, dI) vwCl [(h0, .inr (2, [.ref q_1, .ref q_3, .ref q_4, .ref q_5, .ref q_6, .ref q_7, .ref q_8, .null, .null, .int 0, .int 0, .int 0, .int 0, .int 0])), (q_6, .inl (cA_6, 4, .inr (.inr (.inr (.inr fg_27))))), (q_7, .inl (cA_7, 5, .inr (.inr (.inr (.inr fg_65))))), (q_8, .inl (cA_8, 5, .inr (.inr (.inr (.inr fg_60))))), (q_63, .inr (7, [.ref rq_64, .int 0])), (rq_64, .inl (rc_64, 4, .inl (fun _ => 0)))] H := hP
                      have hD : va_D A [(h0, .inr (2, [.ref q_1, .ref q_3, .ref q_4, .ref q_5, .ref q_6, .ref q_7, .ref q_8, .null, .null, .int 0, .int 0, .int 0, .int 0, .int 0])), (q_6, .inl (cA_6, 4, .inr (.inr (.inr (.inr fg_27))))), (q_7, .inl (cA_7, 5, .inr (.inr (.inr (.inr fg_65))))), (q_8, .inl (cA_8, 5, .inr (.inr (.inr (.inr fg_60))))), (q_63, .inr (7, [.ref rq_64, .int 0])), (rq_64, .inl (rc_64, 4, .inl (fun _ => 0)))] := hD
                      have hP := hP.sub (ws' := [(h0, .inr (2, [.ref q_1, .ref q_3, .ref q_4, .ref q_5, .ref q_6, .ref q_7, .ref q_8, .null, .null, .int 0, .int 0, .int 0, .int 0, .int 0])), (q_6, .inl (cA_6, 4, .inr (.inr (.inr (.inr fg_27))))), (q_7, .inl (cA_7, 5, .inr (.inr (.inr (.inr fg_65))))), (q_8, .inl (cA_8, 5, .inr (.inr (.inr (.inr fg_60)))))]) [0, 1, 2, 3] rfl
                      have hD := hD.sub (ws' := [(h0, .inr (2, [.ref q_1, .ref q_3, .ref q_4, .ref q_5, .ref q_6, .ref q_7, .ref q_8, .null, .null, .int 0, .int 0, .int 0, .int 0, .int 0])), (q_6, .inl (cA_6, 4, .inr (.inr (.inr (.inr fg_27))))), (q_7, .inl (cA_7, 5, .inr (.inr (.inr (.inr fg_65))))), (q_8, .inl (cA_8, 5, .inr (.inr (.inr (.inr fg_60)))))]) [0, 1, 2, 3] (by decide) rfl
                      have hK := hK.sub (tys' := [(cA_6, .object RX8), (cA_7, .object RX8), (cA_8, .object RX8)]) [0, 1, 2] rfl
                      refine lv_aload_n hx hb dX2_init_114 rfl (lv_at hl 1 rfl) ?_
                      refine va_get (D := (dC, dI)) (ci := 2) (v := .ref q_8) (C := RX2) (T := TX2) (N := 14) hx hb hts (by decide +kernel) hown hK hP 0 rfl rfl 6 (by decide) (hts (.fieldLink RX2 39 "CardTables$Ends" "layers" "[LCardTables$Row;") (List.mem_of_getElem? (l := wsX2_init) (i := 15) rfl)) (fun _ h9 => h9) rfl dX2_init_115 ?_
                      refine lv_iload_n hx hb dX2_init_118 rfl (lv_at hl 0 rfl) ?_
                      refine va_new (ci := 7) (fs := [.null, .int 0]) (C := RX8) (T := TX8) (N := 2) hx hb hts (by decide +kernel) tyX8 tyX8_ok hown (hts (.classLink RX2 30 RX8) (List.mem_of_getElem? (l := wsX2_init) (i := 12) rfl)) (hts (.instantiable RX8 2) (List.mem_of_getElem? (l := wsX2_init) (i := 16) rfl)) (hts (.initialized RX8) (List.mem_of_getElem? (l := wsX2_init) (i := 17) rfl)) hK hP hD hS hA rfl (fun j hj => by rcases (show j = 0 ∨ j = 1 by omega) with rfl | rfl <;> rfl) (Nat.le_of_ble_eq_true rfl) (Nat.le_of_ble_eq_true rfl) dX2_init_119 (fun q_66 H hP hD hS => ?_)
                      have hP : va_P (dC, dI) vwCl [(h0, .inr (2, [.ref q_1, .ref q_3, .ref q_4, .ref q_5, .ref q_6, .ref q_7, .ref q_8, .null, .null, .int 0, .int 0, .int 0, .int 0, .int 0])), (q_6, .inl (cA_6, 4, .inr (.inr (.inr (.inr fg_27))))), (q_7, .inl (cA_7, 5, .inr (.inr (.inr (.inr fg_65))))), (q_8, .inl (cA_8, 5, .inr (.inr (.inr (.inr fg_60))))), (q_66, .inr (7, [.null, .int 0]))] H := hP
                      have hD : va_D A [(h0, .inr (2, [.ref q_1, .ref q_3, .ref q_4, .ref q_5, .ref q_6, .ref q_7, .ref q_8, .null, .null, .int 0, .int 0, .int 0, .int 0, .int 0])), (q_6, .inl (cA_6, 4, .inr (.inr (.inr (.inr fg_27))))), (q_7, .inl (cA_7, 5, .inr (.inr (.inr (.inr fg_65))))), (q_8, .inl (cA_8, 5, .inr (.inr (.inr (.inr fg_60))))), (q_66, .inr (7, [.null, .int 0]))] := hD
                      refine W.widen (k := 36) (n := 41993) (by omega) (by omega) ?_
                      refine lv_dup hx hb dX2_init_122 rfl ?_
                      refine lv_iconst (v := 4) hx hb dX2_init_123 (by decide) ?_
                      have hPc := hP.sub (ws' := [(q_66, .inr (7, [.null, .int 0]))]) [4] rfl
                      have hDc := hD.sub (ws' := [(q_66, .inr (7, [.null, .int 0]))]) [4] (by decide) rfl
                      have hKc := hK.sub (tys' := []) [] rfl
                      have hFc := va_free (wc := [(q_66, .inr (7, [.null, .int 0]))]) hD hS hA [4] rfl
                      refine va_callv (va_runI (As := [.int 4]) (rest := [.ref q_66, .int 4, .ref q_8]) ⟨hx, hb, hml, hown, hts⟩ (c_Row_init l dC dI q_66 H.size 4 4 (by decide +kernel) (by decide +kernel) (by decide +kernel) (by decide +kernel)) (cwI 1 hts gX2_init_X8_init rfl rfl rfl (hts (.initialized RX8) (List.mem_of_getElem? (l := wsX2_init) (i := 17) rfl)) (hts (.methodLink RX2 42 yX8_init) (List.mem_of_getElem? (l := wsX2_init) (i := 25) rfl)) (hts (.instanceMethod yX8_init) (List.mem_of_getElem? (l := wsX2_init) (i := 26) rfl)) rfl (by decide +kernel) ⟨Nat.le_of_ble_eq_true rfl, Nat.le_of_ble_eq_true rfl⟩) ⟨fun a U g mk q => by obtain ⟨q0, q1, qP, qK, qD⟩ := q; exact ⟨q0, q1, qP, va_K.moved (u := U) (U := U.calling g mk a) (Vm.Alike.refl U.vm) qK, qD⟩, fun U hU hW => ⟨rfl, by rw [hU], by rw [hU]; exact hPc, va_K.moved hW.alike hKc, hDc.weaken (fun _ _ _ _ => trivial)⟩⟩ rfl rfl hl.1 rfl (lv_room (Nat.le_of_ble_eq_true rfl)) dX2_init_124 ⟨Nat.le_of_ble_eq_true rfl, Nat.le_of_ble_eq_true rfl⟩) hS (fun q _ h => hFc q h) hFc (fun u t H1 locs ht hvm hw hB hz1 hk1 hS => ?_)
                      obtain ⟨rq_67, rc_67, hP1, hK1, hD1⟩ := hB
                      rw [ht] at hP1
                      have hK1 := va_K.moved hvm.symm hK1
                      obtain ⟨hP, hD⟩ := va_join (wr := [(h0, .inr (2, [.ref q_1, .ref q_3, .ref q_4, .ref q_5, .ref q_6, .ref q_7, .ref q_8, .null, .null, .int 0, .int 0, .int 0, .int 0, .int 0])), (q_6, .inl (cA_6, 4, .inr (.inr (.inr (.inr fg_27))))), (q_7, .inl (cA_7, 5, .inr (.inr (.inr (.inr fg_65))))), (q_8, .inl (cA_8, 5, .inr (.inr (.inr (.inr fg_60)))))]) (w1 := [(q_66, .inr (7, [.ref rq_67, .int 0])), (rq_67, .inl (rc_67, 4, .inl (fun _ => 0)))]) hP hD [4] [0, 1, 2, 3] rfl rfl (by decide) (by decide) hk1 hFc hP1 hD1
                      have hK := (hK.sub (tys' := [(cA_6, .object RX8), (cA_7, .object RX8), (cA_8, .object RX8)]) [0, 1, 2] rfl).app hK1
                      generalize H1 = H at hP hS ⊢
                      have hP : va_P (dC, dI) vwCl [(h0, .inr (2, [.ref q_1, .ref q_3, .ref q_4, .ref q_5, .ref q_6, .ref q_7, .ref q_8, .null, .null, .int 0, .int 0, .int 0, .int 0, .int 0])), (q_6, .inl (cA_6, 4, .inr (.inr (.inr (.inr fg_27))))), (q_7, .inl (cA_7, 5, .inr (.inr (.inr (.inr fg_65))))), (q_8, .inl (cA_8, 5, .inr (.inr (.inr (.inr fg_60))))), (q_66, .inr (7, [.ref rq_67, .int 0])), (rq_67, .inl (rc_67, 4, .inl (fun _ => 0)))] H := hP
                      have hD : va_D A [(h0, .inr (2, [.ref q_1, .ref q_3, .ref q_4, .ref q_5, .ref q_6, .ref q_7, .ref q_8, .null, .null, .int 0, .int 0, .int 0, .int 0, .int 0])), (q_6, .inl (cA_6, 4, .inr (.inr (.inr (.inr fg_27))))), (q_7, .inl (cA_7, 5, .inr (.inr (.inr (.inr fg_65))))), (q_8, .inl (cA_8, 5, .inr (.inr (.inr (.inr fg_60))))), (q_66, .inr (7, [.ref rq_67, .int 0])), (rq_67, .inl (rc_67, 4, .inl (fun _ => 0)))] := hD
                      have hK : va_K (dC, dI) vwCl [(cA_6, .object RX8), (cA_7, .object RX8), (cA_8, .object RX8), (rc_67, .int)] s := hK
                      refine W.widen (k := 37) (n := 41997) (by omega) (by omega) ?_
                      refine va_astq hx hb hK hP hD hS 3 2 4 7 rfl rfl rfl rfl (by unfold vp_in; decide +kernel) dX2_init_127 (fun H locs hP hD hS => ?_)
                      have hP : va_P (dC, dI) vwCl [(h0, .inr (2, [.ref q_1, .ref q_3, .ref q_4, .ref q_5, .ref q_6, .ref q_7, .ref q_8, .null, .null, .int 0, .int 0, .int 0, .int 0, .int 0])), (q_6, .inl (cA_6, 4, .inr (.inr (.inr (.inr fg_27))))), (q_7, .inl (cA_7, 5, .inr (.inr (.inr (.inr fg_65))))), (q_8, .inl (cA_8, 5, .inr (.inr (.inr (.inr (va_up (fg_60) 4 (some q_66))))))), (q_66, .inr (7, [.ref rq_67, .int 0])), (rq_67, .inl (rc_67, 4, .inl (fun _ => 0)))] H := hP
                      have hD : va_D A [(h0, .inr (2, [.ref q_1, .ref q_3, .ref q_4, .ref q_5, .ref q_6, .ref q_7, .ref q_8, .null, .null, .int 0, .int 0, .int 0, .int 0, .int 0])), (q_6, .inl (cA_6, 4, .inr (.inr (.inr (.inr fg_27))))), (q_7, .inl (cA_7, 5, .inr (.inr (.inr (.inr fg_65))))), (q_8, .inl (cA_8, 5, .inr (.inr (.inr (.inr (va_up (fg_60) 4 (some q_66))))))), (q_66, .inr (7, [.ref rq_67, .int 0])), (rq_67, .inl (rc_67, 4, .inl (fun _ => 0)))] := hD
                      generalize hg_68 : va_up (fg_60) 4 (some q_66) = fg_68 at hP hD
                      have hP : va_P (dC, dI) vwCl [(h0, .inr (2, [.ref q_1, .ref q_3, .ref q_4, .ref q_5, .ref q_6, .ref q_7, .ref q_8, .null, .null, .int 0, .int 0, .int 0, .int 0, .int 0])), (q_6, .inl (cA_6, 4, .inr (.inr (.inr (.inr fg_27))))), (q_7, .inl (cA_7, 5, .inr (.inr (.inr (.inr fg_65))))), (q_8, .inl (cA_8, 5, .inr (.inr (.inr (.inr fg_68))))), (q_66, .inr (7, [.ref rq_67, .int 0])), (rq_67, .inl (rc_67, 4, .inl (fun _ => 0)))] H := hP
                      have hD : va_D A [(h0, .inr (2, [.ref q_1, .ref q_3, .ref q_4, .ref q_5, .ref q_6, .ref q_7, .ref q_8, .null, .null, .int 0, .int 0, .int 0, .int 0, .int 0])), (q_6, .inl (cA_6, 4, .inr (.inr (.inr (.inr fg_27))))), (q_7, .inl (cA_7, 5, .inr (.inr (.inr (.inr fg_65))))), (q_8, .inl (cA_8, 5, .inr (.inr (.inr (.inr fg_68))))), (q_66, .inr (7, [.ref rq_67, .int 0])), (rq_67, .inl (rc_67, 4, .inl (fun _ => 0)))] := hD
                      have hP := hP.sub (ws' := [(h0, .inr (2, [.ref q_1, .ref q_3, .ref q_4, .ref q_5, .ref q_6, .ref q_7, .ref q_8, .null, .null, .int 0, .int 0, .int 0, .int 0, .int 0])), (q_6, .inl (cA_6, 4, .inr (.inr (.inr (.inr fg_27))))), (q_7, .inl (cA_7, 5, .inr (.inr (.inr (.inr fg_65))))), (q_8, .inl (cA_8, 5, .inr (.inr (.inr (.inr fg_68)))))]) [0, 1, 2, 3] rfl
                      have hD := hD.sub (ws' := [(h0, .inr (2, [.ref q_1, .ref q_3, .ref q_4, .ref q_5, .ref q_6, .ref q_7, .ref q_8, .null, .null, .int 0, .int 0, .int 0, .int 0, .int 0])), (q_6, .inl (cA_6, 4, .inr (.inr (.inr (.inr fg_27))))), (q_7, .inl (cA_7, 5, .inr (.inr (.inr (.inr fg_65))))), (q_8, .inl (cA_8, 5, .inr (.inr (.inr (.inr fg_68)))))]) [0, 1, 2, 3] (by decide) rfl
                      have hK := hK.sub (tys' := [(cA_6, .object RX8), (cA_7, .object RX8), (cA_8, .object RX8)]) [0, 1, 2] rfl
                      refine lv_iinc (v := 5) (lv' := [(1, .int 5), (0, .ref h0)]) hx hb dX2_init_128 hl (k := 0) rfl (by decide) (by decide) rfl (fun ls hl => ?_)
                      refine lv_goto (tgt := 95) hx hb dX2_init_131 (by decide) ?_
                      refine lv_iload_n hx hb dX2_init_95 rfl (lv_at hl 0 rfl) ?_
                      refine lv_iconst (v := 4) hx hb dX2_init_96 (by decide) ?_
                      refine lv_icmp_gt (tgt := 134) hx hb dX2_init_97 (by decide) (fun c_70 => ?_) (fun c_70 => ?_)
                      · skip
                        have hP9 := hP.sub (ws' := [(h0, .inr (2, [.ref q_1, .ref q_3, .ref q_4, .ref q_5, .ref q_6, .ref q_7, .ref q_8, .null, .null, .int 0, .int 0, .int 0, .int 0, .int 0]))]) [0] rfl
                        have hD9 := hD.sub (ws' := [(h0, .inr (2, [.ref q_1, .ref q_3, .ref q_4, .ref q_5, .ref q_6, .ref q_7, .ref q_8, .null, .null, .int 0, .int 0, .int 0, .int 0, .int 0]))]) [0] (by decide) rfl
                        have hK9 := hK.sub (tys' := []) [] rfl
                        exact W.vret hx hb hr (fun t ht hW => ⟨⟨(), rfl, trivial, _, by rw [ht]; exact hP9, va_K.moved hW.alike hK9, hD9⟩, hS.F ht⟩) hS.2.2 dX2_init_134
                      · exact absurd c_70 (by decide +kernel)
          · exact absurd c_29 (by decide +kernel)
end
