-- ===== PART A: goes FIRST, ahead of the names: the tables' words, and 'selects' of the private methods out of them =====
/-- a private method of a class that the tables say can be made, by its rows of tables_1 -/
def lw_okq (q : MethodName × Nat) : Prop := (q.1.cls ≠ "java/lang/invoke/MethodHandle" ∧ q.1.cls ≠ "java/lang/invoke/VarHandle") ∧ Cond.instantiable q.1.cls q.2 ∈ tables_1 ∧ Cond.privateMethod q.1 ∈ tables_1 ∧ Cond.instanceMethod q.1 ∈ tables_1
theorem lw_p0 : lw_okq (⟨"PvArray", "isString", "(I)Z"⟩, 10) := ⟨⟨by decide +kernel, by decide +kernel⟩, List.mem_of_getElem? (i := 10) (by decide +kernel), List.mem_of_getElem? (i := 152) (by decide +kernel), List.mem_of_getElem? (i := 153) (by decide +kernel)⟩
theorem lw_p1 : lw_okq (⟨"PvArray$PvString", "isFull", "()Z"⟩, 3) := ⟨⟨by decide +kernel, by decide +kernel⟩, List.mem_of_getElem? (i := 81) (by decide +kernel), List.mem_of_getElem? (i := 159) (by decide +kernel), List.mem_of_getElem? (i := 160) (by decide +kernel)⟩
theorem lw_p2 : lw_okq (⟨"PvArray$PvModule", "illuminate", "(I)V"⟩, 9) := ⟨⟨by decide +kernel, by decide +kernel⟩, List.mem_of_getElem? (i := 33) (by decide +kernel), List.mem_of_getElem? (i := 163) (by decide +kernel), List.mem_of_getElem? (i := 164) (by decide +kernel)⟩
theorem lw_p3 : lw_okq (⟨"PvArray", "putLast", "(II)I"⟩, 10) := ⟨⟨by decide +kernel, by decide +kernel⟩, List.mem_of_getElem? (i := 10) (by decide +kernel), List.mem_of_getElem? (i := 167) (by decide +kernel), List.mem_of_getElem? (i := 168) (by decide +kernel)⟩
theorem lw_p4 : lw_okq (⟨"PvArray", "place", "(III)V"⟩, 10) := ⟨⟨by decide +kernel, by decide +kernel⟩, List.mem_of_getElem? (i := 10) (by decide +kernel), List.mem_of_getElem? (i := 171) (by decide +kernel), List.mem_of_getElem? (i := 172) (by decide +kernel)⟩
theorem lw_p5 : lw_okq (⟨"PvArray", "isModule", "(I)Z"⟩, 10) := ⟨⟨by decide +kernel, by decide +kernel⟩, List.mem_of_getElem? (i := 10) (by decide +kernel), List.mem_of_getElem? (i := 179) (by decide +kernel), List.mem_of_getElem? (i := 180) (by decide +kernel)⟩
theorem lw_p6 : lw_okq (⟨"PvArray", "takeOut", "(I)V"⟩, 10) := ⟨⟨by decide +kernel, by decide +kernel⟩, List.mem_of_getElem? (i := 10) (by decide +kernel), List.mem_of_getElem? (i := 203) (by decide +kernel), List.mem_of_getElem? (i := 204) (by decide +kernel)⟩
theorem lw_p7 : lw_okq (⟨"PvArray", "exchange", "(II)V"⟩, 10) := ⟨⟨by decide +kernel, by decide +kernel⟩, List.mem_of_getElem? (i := 10) (by decide +kernel), List.mem_of_getElem? (i := 211) (by decide +kernel), List.mem_of_getElem? (i := 212) (by decide +kernel)⟩
theorem lw_p8 : lw_okq (⟨"PvArray$PvString", "deliveredAt", "(I)I"⟩, 3) := ⟨⟨by decide +kernel, by decide +kernel⟩, List.mem_of_getElem? (i := 81) (by decide +kernel), List.mem_of_getElem? (i := 277) (by decide +kernel), List.mem_of_getElem? (i := 278) (by decide +kernel)⟩
theorem lw_p9 : lw_okq (⟨"PvArray$PvString", "bypassedAt", "(I)I"⟩, 3) := ⟨⟨by decide +kernel, by decide +kernel⟩, List.mem_of_getElem? (i := 81) (by decide +kernel), List.mem_of_getElem? (i := 322) (by decide +kernel), List.mem_of_getElem? (i := 323) (by decide +kernel)⟩
theorem lw_p10 : lw_okq (⟨"PvArray$PvString", "isPeak", "(II)Z"⟩, 3) := ⟨⟨by decide +kernel, by decide +kernel⟩, List.mem_of_getElem? (i := 81) (by decide +kernel), List.mem_of_getElem? (i := 330) (by decide +kernel), List.mem_of_getElem? (i := 331) (by decide +kernel)⟩
theorem lw_p11 : lw_okq (⟨"PvArray$PvString", "bestOfScan", "(I)I"⟩, 3) := ⟨⟨by decide +kernel, by decide +kernel⟩, List.mem_of_getElem? (i := 81) (by decide +kernel), List.mem_of_getElem? (i := 364) (by decide +kernel), List.mem_of_getElem? (i := 365) (by decide +kernel)⟩
theorem lw_p12 : lw_okq (⟨"PvArray$PvString", "climbFrom", "(I)I"⟩, 3) := ⟨⟨by decide +kernel, by decide +kernel⟩, List.mem_of_getElem? (i := 81) (by decide +kernel), List.mem_of_getElem? (i := 368) (by decide +kernel), List.mem_of_getElem? (i := 369) (by decide +kernel)⟩
theorem lw_p13 : lw_okq (⟨"PvArray", "findBestSwap", "()V"⟩, 10) := ⟨⟨by decide +kernel, by decide +kernel⟩, List.mem_of_getElem? (i := 10) (by decide +kernel), List.mem_of_getElem? (i := 396) (by decide +kernel), List.mem_of_getElem? (i := 397) (by decide +kernel)⟩
theorem lw_p14 : lw_okq (⟨"PvArray", "sortByLightCurrent", "()V"⟩, 10) := ⟨⟨by decide +kernel, by decide +kernel⟩, List.mem_of_getElem? (i := 10) (by decide +kernel), List.mem_of_getElem? (i := 412) (by decide +kernel), List.mem_of_getElem? (i := 413) (by decide +kernel)⟩
theorem lw_p15 : lw_okq (⟨"PvArrayModel", "isString", "(I)Z"⟩, 19) := ⟨⟨by decide +kernel, by decide +kernel⟩, List.mem_of_getElem? (i := 416) (by decide +kernel), List.mem_of_getElem? (i := 489) (by decide +kernel), List.mem_of_getElem? (i := 490) (by decide +kernel)⟩
def lw_privs_1 : List (MethodName × Nat) := [(⟨"PvArray", "isString", "(I)Z"⟩, 10), (⟨"PvArray$PvString", "isFull", "()Z"⟩, 3), (⟨"PvArray$PvModule", "illuminate", "(I)V"⟩, 9), (⟨"PvArray", "putLast", "(II)I"⟩, 10), (⟨"PvArray", "place", "(III)V"⟩, 10), (⟨"PvArray", "isModule", "(I)Z"⟩, 10), (⟨"PvArray", "takeOut", "(I)V"⟩, 10), (⟨"PvArray", "exchange", "(II)V"⟩, 10), (⟨"PvArray$PvString", "deliveredAt", "(I)I"⟩, 3), (⟨"PvArray$PvString", "bypassedAt", "(I)I"⟩, 3), (⟨"PvArray$PvString", "isPeak", "(II)Z"⟩, 3), (⟨"PvArray$PvString", "bestOfScan", "(I)I"⟩, 3), (⟨"PvArray$PvString", "climbFrom", "(I)I"⟩, 3), (⟨"PvArray", "findBestSwap", "()V"⟩, 10), (⟨"PvArray", "sortByLightCurrent", "()V"⟩, 10), (⟨"PvArrayModel", "isString", "(I)Z"⟩, 19)]
theorem lw_r1 : ∀ q ∈ lw_privs_1, lw_okq q := List.forall_mem_cons.mpr ⟨lw_p0, List.forall_mem_cons.mpr ⟨lw_p1, List.forall_mem_cons.mpr ⟨lw_p2, List.forall_mem_cons.mpr ⟨lw_p3, List.forall_mem_cons.mpr ⟨lw_p4, List.forall_mem_cons.mpr ⟨lw_p5, List.forall_mem_cons.mpr ⟨lw_p6, List.forall_mem_cons.mpr ⟨lw_p7, List.forall_mem_cons.mpr ⟨lw_p8, List.forall_mem_cons.mpr ⟨lw_p9, List.forall_mem_cons.mpr ⟨lw_p10, List.forall_mem_cons.mpr ⟨lw_p11, List.forall_mem_cons.mpr ⟨lw_p12, List.forall_mem_cons.mpr ⟨lw_p13, List.forall_mem_cons.mpr ⟨lw_p14, List.forall_mem_cons.mpr ⟨lw_p15, fun _ h => absurd h List.not_mem_nil⟩⟩⟩⟩⟩⟩⟩⟩⟩⟩⟩⟩⟩⟩⟩⟩
theorem lw_p16 : lw_okq (⟨"PvArrayModel", "append", "(II)V"⟩, 19) := ⟨⟨by decide +kernel, by decide +kernel⟩, List.mem_of_getElem? (i := 416) (by decide +kernel), List.mem_of_getElem? (i := 496) (by decide +kernel), List.mem_of_getElem? (i := 497) (by decide +kernel)⟩
theorem lw_p17 : lw_okq (⟨"PvArrayModel", "isModule", "(I)Z"⟩, 19) := ⟨⟨by decide +kernel, by decide +kernel⟩, List.mem_of_getElem? (i := 416) (by decide +kernel), List.mem_of_getElem? (i := 504) (by decide +kernel), List.mem_of_getElem? (i := 505) (by decide +kernel)⟩
theorem lw_p18 : lw_okq (⟨"PvArrayModel", "placeOf", "(I)I"⟩, 19) := ⟨⟨by decide +kernel, by decide +kernel⟩, List.mem_of_getElem? (i := 416) (by decide +kernel), List.mem_of_getElem? (i := 528) (by decide +kernel), List.mem_of_getElem? (i := 529) (by decide +kernel)⟩
theorem lw_p19 : lw_okq (⟨"PvArrayModel", "remove", "(I)V"⟩, 19) := ⟨⟨by decide +kernel, by decide +kernel⟩, List.mem_of_getElem? (i := 416) (by decide +kernel), List.mem_of_getElem? (i := 532) (by decide +kernel), List.mem_of_getElem? (i := 533) (by decide +kernel)⟩
theorem lw_p20 : lw_okq (⟨"PvArrayModel", "exchange", "(II)V"⟩, 19) := ⟨⟨by decide +kernel, by decide +kernel⟩, List.mem_of_getElem? (i := 416) (by decide +kernel), List.mem_of_getElem? (i := 540) (by decide +kernel), List.mem_of_getElem? (i := 541) (by decide +kernel)⟩
theorem lw_p21 : lw_okq (⟨"PvArrayModel", "photocurrentOf", "(I)I"⟩, 19) := ⟨⟨by decide +kernel, by decide +kernel⟩, List.mem_of_getElem? (i := 416) (by decide +kernel), List.mem_of_getElem? (i := 556) (by decide +kernel), List.mem_of_getElem? (i := 557) (by decide +kernel)⟩
theorem lw_p22 : lw_okq (⟨"PvArrayModel", "voltageOf", "(II)I"⟩, 19) := ⟨⟨by decide +kernel, by decide +kernel⟩, List.mem_of_getElem? (i := 416) (by decide +kernel), List.mem_of_getElem? (i := 564) (by decide +kernel), List.mem_of_getElem? (i := 565) (by decide +kernel)⟩
theorem lw_p23 : lw_okq (⟨"PvArrayModel", "litVoltage", "(II)I"⟩, 19) := ⟨⟨by decide +kernel, by decide +kernel⟩, List.mem_of_getElem? (i := 416) (by decide +kernel), List.mem_of_getElem? (i := 568) (by decide +kernel), List.mem_of_getElem? (i := 569) (by decide +kernel)⟩
theorem lw_p24 : lw_okq (⟨"PvArrayModel", "peakPowerOf", "(I)J"⟩, 19) := ⟨⟨by decide +kernel, by decide +kernel⟩, List.mem_of_getElem? (i := 416) (by decide +kernel), List.mem_of_getElem? (i := 576) (by decide +kernel), List.mem_of_getElem? (i := 577) (by decide +kernel)⟩
theorem lw_p25 : lw_okq (⟨"PvArrayModel", "limitOf", "(I)I"⟩, 19) := ⟨⟨by decide +kernel, by decide +kernel⟩, List.mem_of_getElem? (i := 416) (by decide +kernel), List.mem_of_getElem? (i := 585) (by decide +kernel), List.mem_of_getElem? (i := 586) (by decide +kernel)⟩
theorem lw_p26 : lw_okq (⟨"PvArrayModel", "voltageAt", "(II)I"⟩, 19) := ⟨⟨by decide +kernel, by decide +kernel⟩, List.mem_of_getElem? (i := 416) (by decide +kernel), List.mem_of_getElem? (i := 593) (by decide +kernel), List.mem_of_getElem? (i := 594) (by decide +kernel)⟩
theorem lw_p27 : lw_okq (⟨"PvArrayModel", "powerAt", "(II)J"⟩, 19) := ⟨⟨by decide +kernel, by decide +kernel⟩, List.mem_of_getElem? (i := 416) (by decide +kernel), List.mem_of_getElem? (i := 601) (by decide +kernel), List.mem_of_getElem? (i := 602) (by decide +kernel)⟩
theorem lw_p28 : lw_okq (⟨"PvArrayModel", "layOut", "(I)V"⟩, 19) := ⟨⟨by decide +kernel, by decide +kernel⟩, List.mem_of_getElem? (i := 416) (by decide +kernel), List.mem_of_getElem? (i := 613) (by decide +kernel), List.mem_of_getElem? (i := 614) (by decide +kernel)⟩
theorem lw_p29 : lw_okq (⟨"PvArrayModel", "isPeak", "(I)Z"⟩, 19) := ⟨⟨by decide +kernel, by decide +kernel⟩, List.mem_of_getElem? (i := 416) (by decide +kernel), List.mem_of_getElem? (i := 617) (by decide +kernel), List.mem_of_getElem? (i := 618) (by decide +kernel)⟩
theorem lw_p30 : lw_okq (⟨"PvArrayModel", "bestOf", "(I)I"⟩, 19) := ⟨⟨by decide +kernel, by decide +kernel⟩, List.mem_of_getElem? (i := 416) (by decide +kernel), List.mem_of_getElem? (i := 629) (by decide +kernel), List.mem_of_getElem? (i := 630) (by decide +kernel)⟩
theorem lw_p31 : lw_okq (⟨"PvArrayModel", "bestPowerOf", "(I)J"⟩, 19) := ⟨⟨by decide +kernel, by decide +kernel⟩, List.mem_of_getElem? (i := 416) (by decide +kernel), List.mem_of_getElem? (i := 637) (by decide +kernel), List.mem_of_getElem? (i := 638) (by decide +kernel)⟩
def lw_privs_2 : List (MethodName × Nat) := [(⟨"PvArrayModel", "append", "(II)V"⟩, 19), (⟨"PvArrayModel", "isModule", "(I)Z"⟩, 19), (⟨"PvArrayModel", "placeOf", "(I)I"⟩, 19), (⟨"PvArrayModel", "remove", "(I)V"⟩, 19), (⟨"PvArrayModel", "exchange", "(II)V"⟩, 19), (⟨"PvArrayModel", "photocurrentOf", "(I)I"⟩, 19), (⟨"PvArrayModel", "voltageOf", "(II)I"⟩, 19), (⟨"PvArrayModel", "litVoltage", "(II)I"⟩, 19), (⟨"PvArrayModel", "peakPowerOf", "(I)J"⟩, 19), (⟨"PvArrayModel", "limitOf", "(I)I"⟩, 19), (⟨"PvArrayModel", "voltageAt", "(II)I"⟩, 19), (⟨"PvArrayModel", "powerAt", "(II)J"⟩, 19), (⟨"PvArrayModel", "layOut", "(I)V"⟩, 19), (⟨"PvArrayModel", "isPeak", "(I)Z"⟩, 19), (⟨"PvArrayModel", "bestOf", "(I)I"⟩, 19), (⟨"PvArrayModel", "bestPowerOf", "(I)J"⟩, 19)]
theorem lw_r2 : ∀ q ∈ lw_privs_2, lw_okq q := List.forall_mem_cons.mpr ⟨lw_p16, List.forall_mem_cons.mpr ⟨lw_p17, List.forall_mem_cons.mpr ⟨lw_p18, List.forall_mem_cons.mpr ⟨lw_p19, List.forall_mem_cons.mpr ⟨lw_p20, List.forall_mem_cons.mpr ⟨lw_p21, List.forall_mem_cons.mpr ⟨lw_p22, List.forall_mem_cons.mpr ⟨lw_p23, List.forall_mem_cons.mpr ⟨lw_p24, List.forall_mem_cons.mpr ⟨lw_p25, List.forall_mem_cons.mpr ⟨lw_p26, List.forall_mem_cons.mpr ⟨lw_p27, List.forall_mem_cons.mpr ⟨lw_p28, List.forall_mem_cons.mpr ⟨lw_p29, List.forall_mem_cons.mpr ⟨lw_p30, List.forall_mem_cons.mpr ⟨lw_p31, fun _ h => absurd h List.not_mem_nil⟩⟩⟩⟩⟩⟩⟩⟩⟩⟩⟩⟩⟩⟩⟩⟩
theorem lw_p32 : lw_okq (⟨"PvArrayModel", "layOutArray", "()V"⟩, 19) := ⟨⟨by decide +kernel, by decide +kernel⟩, List.mem_of_getElem? (i := 416) (by decide +kernel), List.mem_of_getElem? (i := 653) (by decide +kernel), List.mem_of_getElem? (i := 654) (by decide +kernel)⟩
theorem lw_p33 : lw_okq (⟨"PvArrayModel", "addDelivered", "(I)V"⟩, 19) := ⟨⟨by decide +kernel, by decide +kernel⟩, List.mem_of_getElem? (i := 416) (by decide +kernel), List.mem_of_getElem? (i := 657) (by decide +kernel), List.mem_of_getElem? (i := 658) (by decide +kernel)⟩
theorem lw_p34 : lw_okq (⟨"PvArrayModel", "totalNow", "()J"⟩, 19) := ⟨⟨by decide +kernel, by decide +kernel⟩, List.mem_of_getElem? (i := 416) (by decide +kernel), List.mem_of_getElem? (i := 669) (by decide +kernel), List.mem_of_getElem? (i := 670) (by decide +kernel)⟩
theorem lw_p35 : lw_okq (⟨"PvArrayModel", "findBestSwap", "()V"⟩, 19) := ⟨⟨by decide +kernel, by decide +kernel⟩, List.mem_of_getElem? (i := 416) (by decide +kernel), List.mem_of_getElem? (i := 681) (by decide +kernel), List.mem_of_getElem? (i := 682) (by decide +kernel)⟩
def lw_privs_3 : List (MethodName × Nat) := [(⟨"PvArrayModel", "layOutArray", "()V"⟩, 19), (⟨"PvArrayModel", "addDelivered", "(I)V"⟩, 19), (⟨"PvArrayModel", "totalNow", "()J"⟩, 19), (⟨"PvArrayModel", "findBestSwap", "()V"⟩, 19)]
theorem lw_r3 : ∀ q ∈ lw_privs_3, lw_okq q := List.forall_mem_cons.mpr ⟨lw_p32, List.forall_mem_cons.mpr ⟨lw_p33, List.forall_mem_cons.mpr ⟨lw_p34, List.forall_mem_cons.mpr ⟨lw_p35, fun _ h => absurd h List.not_mem_nil⟩⟩⟩⟩
def lw_privs : List (MethodName × Nat) := lw_privs_1 ++ (lw_privs_2 ++ (lw_privs_3))
def lw_tbl : List Cond := k2_sels lw_privs ++ tables_1
theorem lw_privs_ok : ∀ q ∈ lw_privs, lw_okq q := by
  show ∀ q ∈ lw_privs_1 ++ (lw_privs_2 ++ (lw_privs_3)), lw_okq q
  exact List.forall_mem_append.mpr ⟨lw_r1, List.forall_mem_append.mpr ⟨lw_r2, lw_r3⟩⟩
/-! ===== BEGIN words of one list among another's, by their places ===== -/
theorem goodIn_r {big : List Cond} (ws : List Cond) (ps : List Nat) (hp : ws = ps.filterMap (fun i => big[i]?)) (h : ws.all goodWord = true) : GoodIn big ws := by
  intro w hw
  have h1 := List.all_eq_true.mp h w hw
  rw [hp] at hw
  obtain ⟨i, -, hi⟩ := List.mem_filterMap.mp hw
  have hm : w ∈ big := by first | exact List.mem_of_getElem? hi | exact List.getElem?_mem hi
  exact ⟨hm, good_of_word h1⟩
theorem goodIn_app {big a b : List Cond} (ha : GoodIn big a) (hb : GoodIn big b) : GoodIn big (a ++ b) := fun w h => (List.mem_append.mp h).elim (ha w) (hb w)
theorem goodIn_ca {big a b : List Cond} {c : Cond} (ha : GoodIn big (c :: a)) (hb : GoodIn big b) : GoodIn big (c :: (a ++ b)) := fun w h => (List.mem_cons.mp h).elim (fun e => ha w (List.mem_cons.mpr (Or.inl e))) (fun h => (List.mem_append.mp h).elim (fun h => ha w (List.mem_cons.mpr (Or.inr h))) (hb w))
theorem goodIn_sub {big ws : List Cond} (hm : ∀ w ∈ ws, w ∈ big) (h : ws.all goodWord = true) : GoodIn big ws := fun w hw => ⟨hm w hw, good_of_word (List.all_eq_true.mp h w hw)⟩
/-! ===== END ===== -/

/-! ===== BEGIN printed: names, fields, word lists, decode rows ===== -/
def RX0 : String := "PvArray$Curve"
def TX0 : u_T := fun k => match k with
  | _ => ("", "", "", false)
def tyX0 : Nat → FieldType := fun k => match k with
  | _ => .int
abbrev wsX00 : List Cond := u_ws RX0 TX0 0
theorem nmX0 : ∀ a, a < 0 → ∀ b, b < 0 → a ≠ b → (TX0 a).2.1 ≠ (TX0 b).2.1 := by decide +kernel
theorem tyX0_ok : ∀ k, k < 0 → parseFieldDescriptor (TX0 k).2.2.1 = some (tyX0 k) := by decide +kernel
abbrev cX0_init : ByteArray := prog_2_method_1_code
def yX0_init : MethodName := ⟨RX0, "<init>", "()V"⟩
abbrev cX0_productAt : ByteArray := prog_2_method_4_code
def yX0_productAt : MethodName := ⟨RX0, "productAt", "(I)J"⟩
abbrev cX0_greatestProduct : ByteArray := prog_2_method_5_code
def yX0_greatestProduct : MethodName := ⟨RX0, "greatestProduct", "()J"⟩
abbrev cX0_bestPoint : ByteArray := prog_2_method_6_code
def yX0_bestPoint : MethodName := ⟨RX0, "bestPoint", "()I"⟩
def RX1 : String := "PvArray$Diodes"
def TX1 : u_T := fun k => match k with
  | _ => ("PvArray$Diodes", "drop", "I", false)
def tyX1 : Nat → FieldType := fun k => match k with
  | _ => .int
abbrev wsX10 : List Cond := u_ws RX1 TX1 1
theorem nmX1 : ∀ a, a < 1 → ∀ b, b < 1 → a ≠ b → (TX1 a).2.1 ≠ (TX1 b).2.1 := by decide +kernel
theorem tyX1_ok : ∀ k, k < 1 → parseFieldDescriptor (TX1 k).2.2.1 = some (tyX1 k) := by decide +kernel
abbrev cX1_init : ByteArray := prog_3_method_1_code
def yX1_init : MethodName := ⟨RX1, "<init>", "()V"⟩
def RX2 : String := "PvArray$Parallel"
def TX2 : u_T := fun k => match k with
  | 0 => ("PvArray$Parallel", "strings", "[LPvArray$PvString;", true)
  | _ => ("PvArray$Parallel", "count", "I", false)
def tyX2 : Nat → FieldType := fun k => match k with
  | 0 => .array (.object "PvArray$PvString")
  | _ => .int
abbrev wsX20 : List Cond := u_ws RX2 TX2 2
theorem nmX2 : ∀ a, a < 2 → ∀ b, b < 2 → a ≠ b → (TX2 a).2.1 ≠ (TX2 b).2.1 := by decide +kernel
theorem tyX2_ok : ∀ k, k < 2 → parseFieldDescriptor (TX2 k).2.2.1 = some (tyX2 k) := by decide +kernel
abbrev cX2_init : ByteArray := prog_4_method_1_code
def yX2_init : MethodName := ⟨RX2, "<init>", "([LPvArray$PvString;)V"⟩
abbrev cX2_valueAt : ByteArray := prog_4_method_2_code
def yX2_valueAt : MethodName := ⟨RX2, "valueAt", "(I)I"⟩
abbrev cX2_end : ByteArray := prog_4_method_3_code
def yX2_end : MethodName := ⟨RX2, "end", "()I"⟩
def RX3 : String := "PvArray$PvModule"
def TX3 : u_T := fun k => match k with
  | 0 => ("PvArray$PvModule", "diodes", "LPvArray$Diodes;", true)
  | 1 => ("PvArray$PvModule", "ratedCurrent", "I", false)
  | 2 => ("PvArray$PvModule", "openVoltage", "I", false)
  | 3 => ("PvArray$PvModule", "irradiance", "I", false)
  | 4 => ("PvArray$PvModule", "lightCurrent", "I", false)
  | 5 => ("PvArray$PvModule", "resistance", "I", false)
  | 6 => ("PvArray$PvModule", "hasDiode", "Z", false)
  | 7 => ("PvArray$PvModule", "string", "I", false)
  | _ => ("PvArray$PvModule", "position", "I", false)
def tyX3 : Nat → FieldType := fun k => match k with
  | 0 => .object "PvArray$Diodes"
  | 1 => .int
  | 2 => .int
  | 3 => .int
  | 4 => .int
  | 5 => .int
  | 6 => .boolean
  | 7 => .int
  | _ => .int
abbrev wsX30 : List Cond := u_ws RX3 TX3 9
theorem nmX3 : ∀ a, a < 9 → ∀ b, b < 9 → a ≠ b → (TX3 a).2.1 ≠ (TX3 b).2.1 := by decide +kernel
theorem tyX3_ok : ∀ k, k < 9 → parseFieldDescriptor (TX3 k).2.2.1 = some (tyX3 k) := by decide +kernel
abbrev cX3_init : ByteArray := prog_5_method_1_code
def yX3_init : MethodName := ⟨RX3, "<init>", "(LPvArray$Diodes;)V"⟩
abbrev cX3_illuminate : ByteArray := prog_5_method_2_code
def yX3_illuminate : MethodName := ⟨RX3, "illuminate", "(I)V"⟩
abbrev cX3_valueAt : ByteArray := prog_5_method_3_code
def yX3_valueAt : MethodName := ⟨RX3, "valueAt", "(I)I"⟩
abbrev cX3_end : ByteArray := prog_5_method_4_code
def yX3_end : MethodName := ⟨RX3, "end", "()I"⟩
def RX4 : String := "PvArray$PvString"
def TX4 : u_T := fun k => match k with
  | 0 => ("PvArray$PvString", "modules", "[LPvArray$PvModule;", true)
  | 1 => ("PvArray$PvString", "members", "[I", true)
  | _ => ("PvArray$PvString", "count", "I", false)
def tyX4 : Nat → FieldType := fun k => match k with
  | 0 => .array (.object "PvArray$PvModule")
  | 1 => .array .int
  | _ => .int
abbrev wsX40 : List Cond := u_ws RX4 TX4 3
theorem nmX4 : ∀ a, a < 3 → ∀ b, b < 3 → a ≠ b → (TX4 a).2.1 ≠ (TX4 b).2.1 := by decide +kernel
theorem tyX4_ok : ∀ k, k < 3 → parseFieldDescriptor (TX4 k).2.2.1 = some (tyX4 k) := by decide +kernel
abbrev cX4_init : ByteArray := prog_6_method_1_code
def yX4_init : MethodName := ⟨RX4, "<init>", "([LPvArray$PvModule;)V"⟩
abbrev cX4_isFull : ByteArray := prog_6_method_2_code
def yX4_isFull : MethodName := ⟨RX4, "isFull", "()Z"⟩
abbrev cX4_valueAt : ByteArray := prog_6_method_3_code
def yX4_valueAt : MethodName := ⟨RX4, "valueAt", "(I)I"⟩
abbrev cX4_end : ByteArray := prog_6_method_4_code
def yX4_end : MethodName := ⟨RX4, "end", "()I"⟩
abbrev cX4_bypassedAt : ByteArray := prog_6_method_5_code
def yX4_bypassedAt : MethodName := ⟨RX4, "bypassedAt", "(I)I"⟩
abbrev cX4_isPeak : ByteArray := prog_6_method_6_code
def yX4_isPeak : MethodName := ⟨RX4, "isPeak", "(II)Z"⟩
abbrev cX4_bestOfScan : ByteArray := prog_6_method_7_code
def yX4_bestOfScan : MethodName := ⟨RX4, "bestOfScan", "(I)I"⟩
abbrev cX4_climbFrom : ByteArray := prog_6_method_8_code
def yX4_climbFrom : MethodName := ⟨RX4, "climbFrom", "(I)I"⟩
abbrev cX4_deliveredAt : ByteArray := prog_6_method_9_code
def yX4_deliveredAt : MethodName := ⟨RX4, "deliveredAt", "(I)I"⟩
def RX5 : String := "PvArray"
def TX5 : u_T := fun k => match k with
  | 0 => ("PvArray", "diodes", "LPvArray$Diodes;", true)
  | 1 => ("PvArray", "modules", "[LPvArray$PvModule;", true)
  | 2 => ("PvArray", "moduleCount", "I", false)
  | 3 => ("PvArray", "strings", "[LPvArray$PvString;", true)
  | 4 => ("PvArray", "parallel", "LPvArray$Parallel;", true)
  | 5 => ("PvArray", "powerBefore", "[J", true)
  | 6 => ("PvArray", "swapGain", "J", false)
  | 7 => ("PvArray", "swapLower", "I", false)
  | 8 => ("PvArray", "swapHigher", "I", false)
  | _ => ("PvArray", "sorted", "[I", true)
def tyX5 : Nat → FieldType := fun k => match k with
  | 0 => .object "PvArray$Diodes"
  | 1 => .array (.object "PvArray$PvModule")
  | 2 => .int
  | 3 => .array (.object "PvArray$PvString")
  | 4 => .object "PvArray$Parallel"
  | 5 => .array .long
  | 6 => .long
  | 7 => .int
  | 8 => .int
  | _ => .array .int
abbrev wsX50 : List Cond := u_ws RX5 TX5 10
theorem nmX5 : ∀ a, a < 10 → ∀ b, b < 10 → a ≠ b → (TX5 a).2.1 ≠ (TX5 b).2.1 := by decide +kernel
theorem tyX5_ok : ∀ k, k < 10 → parseFieldDescriptor (TX5 k).2.2.1 = some (tyX5 k) := by decide +kernel
abbrev cX5_init : ByteArray := prog_1_method_1_code
def yX5_init : MethodName := ⟨RX5, "<init>", "()V"⟩
abbrev cX5_addString : ByteArray := prog_1_method_2_code
def yX5_addString : MethodName := ⟨RX5, "addString", "()I"⟩
abbrev cX5_addModule : ByteArray := prog_1_method_3_code
def yX5_addModule : MethodName := ⟨RX5, "addModule", "(III)I"⟩
abbrev cX5_setIrradiance : ByteArray := prog_1_method_4_code
def yX5_setIrradiance : MethodName := ⟨RX5, "setIrradiance", "(II)I"⟩
abbrev cX5_shade : ByteArray := prog_1_method_5_code
def yX5_shade : MethodName := ⟨RX5, "shade", "(III)I"⟩
abbrev cX5_setResistance : ByteArray := prog_1_method_6_code
def yX5_setResistance : MethodName := ⟨RX5, "setResistance", "(II)I"⟩
abbrev cX5_setBypassDiode : ByteArray := prog_1_method_7_code
def yX5_setBypassDiode : MethodName := ⟨RX5, "setBypassDiode", "(IZ)I"⟩
abbrev cX5_setDiodeDrop : ByteArray := prog_1_method_8_code
def yX5_setDiodeDrop : MethodName := ⟨RX5, "setDiodeDrop", "(I)I"⟩
abbrev cX5_moveModule : ByteArray := prog_1_method_9_code
def yX5_moveModule : MethodName := ⟨RX5, "moveModule", "(II)I"⟩
abbrev cX5_swapModules : ByteArray := prog_1_method_10_code
def yX5_swapModules : MethodName := ⟨RX5, "swapModules", "(II)I"⟩
abbrev cX5_stringOf : ByteArray := prog_1_method_11_code
def yX5_stringOf : MethodName := ⟨RX5, "stringOf", "(I)I"⟩
abbrev cX5_moduleAt : ByteArray := prog_1_method_12_code
def yX5_moduleAt : MethodName := ⟨RX5, "moduleAt", "(II)I"⟩
abbrev cX5_photocurrent : ByteArray := prog_1_method_13_code
def yX5_photocurrent : MethodName := ⟨RX5, "photocurrent", "(I)I"⟩
abbrev cX5_moduleVoltage : ByteArray := prog_1_method_14_code
def yX5_moduleVoltage : MethodName := ⟨RX5, "moduleVoltage", "(II)I"⟩
abbrev cX5_modulePeakPower : ByteArray := prog_1_method_15_code
def yX5_modulePeakPower : MethodName := ⟨RX5, "modulePeakPower", "(I)J"⟩
abbrev cX5_currentLimit : ByteArray := prog_1_method_16_code
def yX5_currentLimit : MethodName := ⟨RX5, "currentLimit", "(I)I"⟩
abbrev cX5_stringVoltage : ByteArray := prog_1_method_17_code
def yX5_stringVoltage : MethodName := ⟨RX5, "stringVoltage", "(II)I"⟩
abbrev cX5_stringPower : ByteArray := prog_1_method_18_code
def yX5_stringPower : MethodName := ⟨RX5, "stringPower", "(II)J"⟩
abbrev cX5_bypassedModules : ByteArray := prog_1_method_19_code
def yX5_bypassedModules : MethodName := ⟨RX5, "bypassedModules", "(II)I"⟩
abbrev cX5_peakCount : ByteArray := prog_1_method_20_code
def yX5_peakCount : MethodName := ⟨RX5, "peakCount", "(I)I"⟩
abbrev cX5_peakCurrent : ByteArray := prog_1_method_21_code
def yX5_peakCurrent : MethodName := ⟨RX5, "peakCurrent", "(II)I"⟩
abbrev cX5_bestCurrent : ByteArray := prog_1_method_22_code
def yX5_bestCurrent : MethodName := ⟨RX5, "bestCurrent", "(I)I"⟩
abbrev cX5_bestPower : ByteArray := prog_1_method_23_code
def yX5_bestPower : MethodName := ⟨RX5, "bestPower", "(I)J"⟩
abbrev cX5_perturbAndObserve : ByteArray := prog_1_method_24_code
def yX5_perturbAndObserve : MethodName := ⟨RX5, "perturbAndObserve", "(IIII)I"⟩
abbrev cX5_scanAndClimb : ByteArray := prog_1_method_25_code
def yX5_scanAndClimb : MethodName := ⟨RX5, "scanAndClimb", "(II)I"⟩
abbrev cX5_arrayCurrent : ByteArray := prog_1_method_26_code
def yX5_arrayCurrent : MethodName := ⟨RX5, "arrayCurrent", "(I)I"⟩
abbrev cX5_bestArrayVoltage : ByteArray := prog_1_method_27_code
def yX5_bestArrayVoltage : MethodName := ⟨RX5, "bestArrayVoltage", "()I"⟩
abbrev cX5_totalBestPower : ByteArray := prog_1_method_28_code
def yX5_totalBestPower : MethodName := ⟨RX5, "totalBestPower", "()J"⟩
abbrev cX5_mismatchLoss : ByteArray := prog_1_method_29_code
def yX5_mismatchLoss : MethodName := ⟨RX5, "mismatchLoss", "()J"⟩
abbrev cX5_bestSwapGain : ByteArray := prog_1_method_30_code
def yX5_bestSwapGain : MethodName := ⟨RX5, "bestSwapGain", "()J"⟩
abbrev cX5_bestSwapLower : ByteArray := prog_1_method_31_code
def yX5_bestSwapLower : MethodName := ⟨RX5, "bestSwapLower", "()I"⟩
abbrev cX5_bestSwapHigher : ByteArray := prog_1_method_32_code
def yX5_bestSwapHigher : MethodName := ⟨RX5, "bestSwapHigher", "()I"⟩
abbrev cX5_regroup : ByteArray := prog_1_method_33_code
def yX5_regroup : MethodName := ⟨RX5, "regroup", "()I"⟩
abbrev cX5_isString : ByteArray := prog_1_method_34_code
def yX5_isString : MethodName := ⟨RX5, "isString", "(I)Z"⟩
abbrev cX5_isModule : ByteArray := prog_1_method_35_code
def yX5_isModule : MethodName := ⟨RX5, "isModule", "(I)Z"⟩
abbrev cX5_isWithin : ByteArray := prog_1_method_36_code
def yX5_isWithin : MethodName := ⟨RX5, "isWithin", "(III)Z"⟩
abbrev cX5_place : ByteArray := prog_1_method_37_code
def yX5_place : MethodName := ⟨RX5, "place", "(III)V"⟩
abbrev cX5_putLast : ByteArray := prog_1_method_38_code
def yX5_putLast : MethodName := ⟨RX5, "putLast", "(II)I"⟩
abbrev cX5_takeOut : ByteArray := prog_1_method_39_code
def yX5_takeOut : MethodName := ⟨RX5, "takeOut", "(I)V"⟩
abbrev cX5_exchange : ByteArray := prog_1_method_40_code
def yX5_exchange : MethodName := ⟨RX5, "exchange", "(II)V"⟩
abbrev cX5_findBestSwap : ByteArray := prog_1_method_41_code
def yX5_findBestSwap : MethodName := ⟨RX5, "findBestSwap", "()V"⟩
abbrev cX5_sortByLightCurrent : ByteArray := prog_1_method_42_code
def yX5_sortByLightCurrent : MethodName := ⟨RX5, "sortByLightCurrent", "()V"⟩
def RX6 : String := "PvArrayModel"
def TX6 : u_T := fun k => match k with
  | 0 => ("PvArrayModel", "diodeDrop", "I", false)
  | 1 => ("PvArrayModel", "modules", "I", false)
  | 2 => ("PvArrayModel", "rated", "[I", true)
  | 3 => ("PvArrayModel", "open", "[I", true)
  | 4 => ("PvArrayModel", "light", "[I", true)
  | 5 => ("PvArrayModel", "resistance", "[I", true)
  | 6 => ("PvArrayModel", "hasDiode", "[Z", true)
  | 7 => ("PvArrayModel", "strings", "I", false)
  | 8 => ("PvArrayModel", "count", "[I", true)
  | 9 => ("PvArrayModel", "place", "[I", true)
  | 10 => ("PvArrayModel", "limit", "I", false)
  | 11 => ("PvArrayModel", "power", "[J", true)
  | 12 => ("PvArrayModel", "delivered", "[I", true)
  | 13 => ("PvArrayModel", "swapGain", "J", false)
  | 14 => ("PvArrayModel", "swapLower", "I", false)
  | 15 => ("PvArrayModel", "swapHigher", "I", false)
  | 16 => ("PvArrayModel", "bestBefore", "[J", true)
  | 17 => ("PvArrayModel", "sorted", "[I", true)
  | _ => ("PvArrayModel", "stringBefore", "[I", true)
def tyX6 : Nat → FieldType := fun k => match k with
  | 0 => .int
  | 1 => .int
  | 2 => .array .int
  | 3 => .array .int
  | 4 => .array .int
  | 5 => .array .int
  | 6 => .array .boolean
  | 7 => .int
  | 8 => .array .int
  | 9 => .array .int
  | 10 => .int
  | 11 => .array .long
  | 12 => .array .int
  | 13 => .long
  | 14 => .int
  | 15 => .int
  | 16 => .array .long
  | 17 => .array .int
  | _ => .array .int
abbrev wsX60 : List Cond := u_ws RX6 TX6 19
theorem nmX6 : ∀ a, a < 19 → ∀ b, b < 19 → a ≠ b → (TX6 a).2.1 ≠ (TX6 b).2.1 := by decide +kernel
theorem tyX6_ok : ∀ k, k < 19 → parseFieldDescriptor (TX6 k).2.2.1 = some (tyX6 k) := by decide +kernel
abbrev cX6_init : ByteArray := prog_8_method_1_code
def yX6_init : MethodName := ⟨RX6, "<init>", "()V"⟩
abbrev cX6_isBetween : ByteArray := prog_8_method_2_code
def yX6_isBetween : MethodName := ⟨RX6, "isBetween", "(III)Z"⟩
abbrev cX6_isModule : ByteArray := prog_8_method_3_code
def yX6_isModule : MethodName := ⟨RX6, "isModule", "(I)Z"⟩
abbrev cX6_isString : ByteArray := prog_8_method_4_code
def yX6_isString : MethodName := ⟨RX6, "isString", "(I)Z"⟩
abbrev cX6_addString : ByteArray := prog_8_method_5_code
def yX6_addString : MethodName := ⟨RX6, "addString", "()I"⟩
abbrev cX6_addModule : ByteArray := prog_8_method_6_code
def yX6_addModule : MethodName := ⟨RX6, "addModule", "(III)I"⟩
abbrev cX6_setIrradiance : ByteArray := prog_8_method_7_code
def yX6_setIrradiance : MethodName := ⟨RX6, "setIrradiance", "(II)I"⟩
abbrev cX6_shade : ByteArray := prog_8_method_8_code
def yX6_shade : MethodName := ⟨RX6, "shade", "(III)I"⟩
abbrev cX6_setResistance : ByteArray := prog_8_method_9_code
def yX6_setResistance : MethodName := ⟨RX6, "setResistance", "(II)I"⟩
abbrev cX6_setBypassDiode : ByteArray := prog_8_method_10_code
def yX6_setBypassDiode : MethodName := ⟨RX6, "setBypassDiode", "(IZ)I"⟩
abbrev cX6_setDiodeDrop : ByteArray := prog_8_method_11_code
def yX6_setDiodeDrop : MethodName := ⟨RX6, "setDiodeDrop", "(I)I"⟩
abbrev cX6_append : ByteArray := prog_8_method_12_code
def yX6_append : MethodName := ⟨RX6, "append", "(II)V"⟩
abbrev cX6_placeOf : ByteArray := prog_8_method_13_code
def yX6_placeOf : MethodName := ⟨RX6, "placeOf", "(I)I"⟩
abbrev cX6_remove : ByteArray := prog_8_method_14_code
def yX6_remove : MethodName := ⟨RX6, "remove", "(I)V"⟩
abbrev cX6_moveModule : ByteArray := prog_8_method_15_code
def yX6_moveModule : MethodName := ⟨RX6, "moveModule", "(II)I"⟩
abbrev cX6_exchange : ByteArray := prog_8_method_16_code
def yX6_exchange : MethodName := ⟨RX6, "exchange", "(II)V"⟩
abbrev cX6_swapModules : ByteArray := prog_8_method_17_code
def yX6_swapModules : MethodName := ⟨RX6, "swapModules", "(II)I"⟩
abbrev cX6_stringOf : ByteArray := prog_8_method_18_code
def yX6_stringOf : MethodName := ⟨RX6, "stringOf", "(I)I"⟩
abbrev cX6_moduleAt : ByteArray := prog_8_method_19_code
def yX6_moduleAt : MethodName := ⟨RX6, "moduleAt", "(II)I"⟩
abbrev cX6_photocurrentOf : ByteArray := prog_8_method_20_code
def yX6_photocurrentOf : MethodName := ⟨RX6, "photocurrentOf", "(I)I"⟩
abbrev cX6_photocurrent : ByteArray := prog_8_method_21_code
def yX6_photocurrent : MethodName := ⟨RX6, "photocurrent", "(I)I"⟩
abbrev cX6_litVoltage : ByteArray := prog_8_method_22_code
def yX6_litVoltage : MethodName := ⟨RX6, "litVoltage", "(II)I"⟩
abbrev cX6_voltageOf : ByteArray := prog_8_method_23_code
def yX6_voltageOf : MethodName := ⟨RX6, "voltageOf", "(II)I"⟩
abbrev cX6_moduleVoltage : ByteArray := prog_8_method_24_code
def yX6_moduleVoltage : MethodName := ⟨RX6, "moduleVoltage", "(II)I"⟩
abbrev cX6_peakPowerOf : ByteArray := prog_8_method_25_code
def yX6_peakPowerOf : MethodName := ⟨RX6, "peakPowerOf", "(I)J"⟩
abbrev cX6_modulePeakPower : ByteArray := prog_8_method_26_code
def yX6_modulePeakPower : MethodName := ⟨RX6, "modulePeakPower", "(I)J"⟩
abbrev cX6_limitOf : ByteArray := prog_8_method_27_code
def yX6_limitOf : MethodName := ⟨RX6, "limitOf", "(I)I"⟩
abbrev cX6_voltageAt : ByteArray := prog_8_method_28_code
def yX6_voltageAt : MethodName := ⟨RX6, "voltageAt", "(II)I"⟩
abbrev cX6_powerAt : ByteArray := prog_8_method_29_code
def yX6_powerAt : MethodName := ⟨RX6, "powerAt", "(II)J"⟩
abbrev cX6_currentLimit : ByteArray := prog_8_method_30_code
def yX6_currentLimit : MethodName := ⟨RX6, "currentLimit", "(I)I"⟩
abbrev cX6_stringVoltage : ByteArray := prog_8_method_31_code
def yX6_stringVoltage : MethodName := ⟨RX6, "stringVoltage", "(II)I"⟩
abbrev cX6_stringPower : ByteArray := prog_8_method_32_code
def yX6_stringPower : MethodName := ⟨RX6, "stringPower", "(II)J"⟩
abbrev cX6_bypassedModules : ByteArray := prog_8_method_33_code
def yX6_bypassedModules : MethodName := ⟨RX6, "bypassedModules", "(II)I"⟩
abbrev cX6_layOut : ByteArray := prog_8_method_34_code
def yX6_layOut : MethodName := ⟨RX6, "layOut", "(I)V"⟩
abbrev cX6_isPeak : ByteArray := prog_8_method_35_code
def yX6_isPeak : MethodName := ⟨RX6, "isPeak", "(I)Z"⟩
abbrev cX6_peakCount : ByteArray := prog_8_method_36_code
def yX6_peakCount : MethodName := ⟨RX6, "peakCount", "(I)I"⟩
abbrev cX6_peakCurrent : ByteArray := prog_8_method_37_code
def yX6_peakCurrent : MethodName := ⟨RX6, "peakCurrent", "(II)I"⟩
abbrev cX6_bestOf : ByteArray := prog_8_method_38_code
def yX6_bestOf : MethodName := ⟨RX6, "bestOf", "(I)I"⟩
abbrev cX6_bestPowerOf : ByteArray := prog_8_method_39_code
def yX6_bestPowerOf : MethodName := ⟨RX6, "bestPowerOf", "(I)J"⟩
abbrev cX6_bestCurrent : ByteArray := prog_8_method_40_code
def yX6_bestCurrent : MethodName := ⟨RX6, "bestCurrent", "(I)I"⟩
abbrev cX6_bestPower : ByteArray := prog_8_method_41_code
def yX6_bestPower : MethodName := ⟨RX6, "bestPower", "(I)J"⟩
abbrev cX6_perturbAndObserve : ByteArray := prog_8_method_42_code
def yX6_perturbAndObserve : MethodName := ⟨RX6, "perturbAndObserve", "(IIII)I"⟩
abbrev cX6_scanAndClimb : ByteArray := prog_8_method_43_code
def yX6_scanAndClimb : MethodName := ⟨RX6, "scanAndClimb", "(II)I"⟩
abbrev cX6_addDelivered : ByteArray := prog_8_method_44_code
def yX6_addDelivered : MethodName := ⟨RX6, "addDelivered", "(I)V"⟩
abbrev cX6_layOutArray : ByteArray := prog_8_method_45_code
def yX6_layOutArray : MethodName := ⟨RX6, "layOutArray", "()V"⟩
abbrev cX6_arrayCurrent : ByteArray := prog_8_method_46_code
def yX6_arrayCurrent : MethodName := ⟨RX6, "arrayCurrent", "(I)I"⟩
abbrev cX6_bestArrayVoltage : ByteArray := prog_8_method_47_code
def yX6_bestArrayVoltage : MethodName := ⟨RX6, "bestArrayVoltage", "()I"⟩
abbrev cX6_totalNow : ByteArray := prog_8_method_48_code
def yX6_totalNow : MethodName := ⟨RX6, "totalNow", "()J"⟩
abbrev cX6_totalBestPower : ByteArray := prog_8_method_49_code
def yX6_totalBestPower : MethodName := ⟨RX6, "totalBestPower", "()J"⟩
abbrev cX6_mismatchLoss : ByteArray := prog_8_method_50_code
def yX6_mismatchLoss : MethodName := ⟨RX6, "mismatchLoss", "()J"⟩
abbrev cX6_findBestSwap : ByteArray := prog_8_method_51_code
def yX6_findBestSwap : MethodName := ⟨RX6, "findBestSwap", "()V"⟩
abbrev cX6_bestSwapGain : ByteArray := prog_8_method_52_code
def yX6_bestSwapGain : MethodName := ⟨RX6, "bestSwapGain", "()J"⟩
abbrev cX6_bestSwapLower : ByteArray := prog_8_method_53_code
def yX6_bestSwapLower : MethodName := ⟨RX6, "bestSwapLower", "()I"⟩
abbrev cX6_bestSwapHigher : ByteArray := prog_8_method_54_code
def yX6_bestSwapHigher : MethodName := ⟨RX6, "bestSwapHigher", "()I"⟩
abbrev cX6_regroup : ByteArray := prog_8_method_55_code
def yX6_regroup : MethodName := ⟨RX6, "regroup", "()I"⟩
def RJ9 : String := "java/lang/Math"
def TJ9 : u_T := fun k => match k with
  | _ => ("", "", "", false)
def tyJ9 : Nat → FieldType := fun k => match k with
  | _ => .int
abbrev wsJ90 : List Cond := u_ws RJ9 TJ9 0
theorem nmJ9 : ∀ a, a < 0 → ∀ b, b < 0 → a ≠ b → (TJ9 a).2.1 ≠ (TJ9 b).2.1 := by decide +kernel
theorem tyJ9_ok : ∀ k, k < 0 → parseFieldDescriptor (TJ9 k).2.2.1 = some (tyJ9 k) := by decide +kernel
abbrev cJ9_max_7cf53 : ByteArray := prog_9_method_65_code
def yJ9_max_7cf53 : MethodName := ⟨RJ9, "max", "(II)I"⟩
abbrev cJ9_max_f86c9 : ByteArray := prog_9_method_66_code
def yJ9_max_f86c9 : MethodName := ⟨RJ9, "max", "(JJ)J"⟩
abbrev cJ9_min_7cf53 : ByteArray := prog_9_method_69_code
def yJ9_min_7cf53 : MethodName := ⟨RJ9, "min", "(II)I"⟩
def RL : String := "PvArrayLaw"
abbrev cL_law : ByteArray := code
def yL_law : MethodName := ⟨RL, "law", "([I)Z"⟩
abbrev vwCl : List vw_C := [(RX1, TX1, 1), (RX2, TX2, 2), (RX3, TX3, 9), (RX4, TX4, 3), (RX5, TX5, 10), (RX6, TX6, 19)]
