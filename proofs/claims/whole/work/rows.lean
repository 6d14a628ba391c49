section
-- ===== PART A: goes FIRST, ahead of the names: the tables' words, and 'selects' of the private methods out of them =====
/-- a private method of a class that the tables say can be made, by its rows of tables_1 -/
def lw_okq (q : MethodName × Nat) : Prop := (q.1.cls ≠ "java/lang/invoke/MethodHandle" ∧ q.1.cls ≠ "java/lang/invoke/VarHandle") ∧ Cond.instantiable q.1.cls q.2 ∈ tables_1 ∧ Cond.privateMethod q.1 ∈ tables_1 ∧ Cond.instanceMethod q.1 ∈ tables_1
theorem lw_p0 : lw_okq (⟨"PvArray", "isString", "(I)Z"⟩, 10) := ⟨⟨by decide +kernel, by decide +kernel⟩, List.mem_of_getElem? (i := 10) (by decide +kernel), List.mem_of_getElem? (i := 152) (by decide +kernel), List.mem_of_getElem? (i := 153) (by decide +kernel)⟩
theorem lw_p1 : lw_okq (⟨"PvArray$PvString", "isFull", "()Z"⟩, 3) := ⟨⟨by decide +kernel, by decide +kernel⟩, List.mem_of_getElem? (i := 81) (by decide +kernel), List.mem_of_getElem? (i := 159) (by decide +kernel), List.mem_of_getElem? (i := 160) (by decide +kernel)⟩
theorem lw_p2 : lw_okq (⟨"PvArray$PvModule", "illuminate", "(I)V"⟩, 9) := ⟨⟨by decide +kernel, by decide +kernel⟩, List.mem_of_getElem? (i := 33) (by decide +kernel), List.mem_of_getElem? (i := 163) (by decide +kernel), List.mem_of_getElem? (i := 164) (by decide +kernel)⟩
theorem lw_p3 : lw_okq (⟨"PvArray", "putLast", "(II)I"⟩, 10) := ⟨⟨by decide +kernel, by decide +kernel⟩, List.mem_of_getElem? (i := 10) (by decide +kernel), List.mem_of_getElem? (i := 167) (by decide +kernel), List.mem_of_getElem? (i := 168) (by decide +kernel)⟩
theorem lw_p4 : lw_okq (⟨"PvArray", "place", "(III)V"⟩, 10) := ⟨⟨by decide +kernel, by decide +kernel⟩, List.mem_of_getElem? (i := 10) (by decide +kernel), List.mem_of_getElem? (i := 171) (by decide +kernel), List.mem_of_getElem? (i := 172) (by decide +kernel)⟩
theorem lw_p5 : lw_okq (⟨"PvArray", "isModule", "(I)Z"⟩, 10) := ⟨⟨by decide +kernel, by decide +kernel⟩, List.mem_of_getElem? (i := 10) (by decide +kernel), List.mem_of_getElem? (i := 179) (by decide +kernel), List.mem_of_getElem? (i := 180) (by decide +kernel)⟩
theorem lw_p6 : lw_okq (⟨"PvArray", "takeOut", "(I)V"⟩, 10) := ⟨⟨by decide +kernel, by decide +kernel⟩, List.mem_of_getElem? (i := 10) (by decide +kernel), List.mem_of_getElem? (i := 203) (by decide +kernel), List.mem_of_getElem? (i := 204) (by decide +kernel)⟩
theorem lw_p7 : lw_okq (⟨"PvArray", "exchange", "(II)V"⟩, 10) := ⟨⟨by decide +kernel, by decide +kernel⟩, List.mem_of_getElem? (i := 10) (by decide +kernel), List.mem_of_getElem? (i := 211) (by decide +kernel), List.mem_of_getElem? (i := 212) (by decide +kernel)⟩
theorem lw_p8 : lw_okq (⟨"PvArray$PvString", "deliveredAt", "(I)I"⟩, 3) := ⟨⟨by decide +kernel, by decide +kernel⟩, List.mem_of_getElem? (i := 81) (by decide +kernel), List.mem_of_getElem? (i := 277) (by decide +kernel), List.mem_of_getElem? (i := 278) (by decide +kernel)⟩
theorem lw_p9 : lw_okq (⟨"PvArray$PvString", "bypassedAt", "(I)I"⟩, 3) := ⟨⟨by decide +kernel, by decide +kernel⟩, List.mem_of_getElem? (i := 81) (by decide +kernel), List.mem_of_getElem? (i := 322) (by decide +kernel), List.mem_of_getElem? (i := 323) (by decide +kernel)⟩
theorem lw_p10 : lw_okq (⟨"PvArray$PvString", "isPeak", "(II)Z"⟩, 3) := ⟨⟨by decide +kernel, by decide +kernel⟩, List.mem_of_getElem? (i := 81) (by decide +kernel), List.mem_of_getElem? (i := 330) (by decide +kernel), List.mem_of_getElem? (i := 331) (by decide +kernel)⟩
theorem lw_p11 : lw_okq (⟨"PvArray$PvString", "bestOfScan", "(I)I"⟩, 3) := ⟨⟨by decide +kernel, by decide +kernel⟩, List.mem_of_getElem? (i := 81) (by decide +kernel), List.mem_of_getElem? (i := 364) (by decide +kernel), List.mem_of_getElem? (i := 365) (by decide +kernel)⟩
theorem lw_p12 : lw_okq (⟨"PvArray$PvString", "climbFrom", "(I)I"⟩, 3) := ⟨⟨by decide +kernel, by decide +kernel⟩, List.mem_of_getElem? (i := 81) (by decide +kernel), List.mem_of_getElem? (i := 368) (by decide +kernel), List.mem_of_getElem? (i := 369) (by decide +kernel)⟩
theorem lw_p13 : lw_okq (⟨"PvArray", "findBestSwap", "()V"⟩, 10) := ⟨⟨by decide +kernel, by decide +kernel⟩, List.mem_of_getElem? (i := 10) (by decide +kernel), List.mem_of_getElem? (i := 396) (by decide +kernel), List.mem_of_getElem? (i := 397) (by decide +kernel)⟩
theorem lw_p14 : lw_okq (⟨"PvArray", "sortByLightCurrent", "()V"⟩, 10) := ⟨⟨by decide +kernel, by decide +kernel⟩, List.mem_of_getElem? (i := 10) (by decide +kernel), List.mem_of_getElem? (i := 412) (by decide +kernel), List.mem_of_getElem? (i := 413) (by decide +kernel)⟩
theorem lw_p15 : lw_okq (⟨"PvArrayModel", "isString", "(I)Z"⟩, 19) := ⟨⟨by decide +kernel, by decide +kernel⟩, List.mem_of_getElem? (i := 416) (by decide +kernel), List.mem_of_getElem? (i := 489) (by decide +kernel), List.mem_of_getElem? (i := 490) (by decide +kernel)⟩
def lw_privs_1 : List (MethodName × Nat) := [(⟨"PvArray", "isString", "(I)Z"⟩, 10), (⟨"PvArray$PvString", "isFull", "()Z"⟩, 3), (⟨"PvArray$PvModule", "illuminate", "(I)V"⟩, 9), (⟨"PvArray", "putLast", "(II)I"⟩, 10), (⟨"PvArray", "place", "(III)V"⟩, 10), (⟨"PvArray", "isModule", "(I)Z"⟩, 10), (⟨"PvArray", "takeOut", "(I)V"⟩, 10), (⟨"PvArray", "exchange", "(II)V"⟩, 10), (⟨"PvArray$PvString", "deliveredAt", "(I)I"⟩, 3), (⟨"PvArray$PvString", "bypassedAt", "(I)I"⟩, 3), (⟨"PvArray$PvString", "isPeak", "(II)Z"⟩, 3), (⟨"PvArray$PvString", "bestOfScan", "(I)I"⟩, 3), (⟨"PvArray$PvString", "climbFrom", "(I)I"⟩, 3), (⟨"PvArray", "findBestSwap", "()V"⟩, 10), (⟨"PvArray", "sortByLightCurrent", "()V"⟩, 10), (⟨"PvArrayModel", "isString", "(I)Z"⟩, 19)]
theorem lw_r1 : ∀ q ∈ lw_privs_1, lw_okq q := List.forall_mem_cons.mpr ⟨lw_p0, List.forall_mem_cons.mpr ⟨lw_p1, List.forall_mem_cons.mpr ⟨lw_p2, List.forall_mem_cons.mpr ⟨lw_p3, List.forall_mem_cons.mpr ⟨lw_p4, List.forall_mem_cons.mpr ⟨lw_p5, List.forall_mem_cons.mpr ⟨lw_p6, List.forall_mem_cons.mpr ⟨lw_p7, List.forall_mem_cons.mpr ⟨lw_p8, List.forall_mem_cons.mpr ⟨lw_p9, List.forall_mem_cons.mpr ⟨lw_p10, List.forall_mem_cons.mpr ⟨lw_p11, List.forall_mem_cons.mpr ⟨lw_p12, List.forall_mem_cons.mpr ⟨lw_p13, List.forall_mem_cons.mpr ⟨lw_p14, List.forall_mem_cons.mpr ⟨lw_p15, fun _ h => absurd h List.not_mem_nil⟩⟩⟩⟩⟩⟩⟩⟩⟩⟩⟩⟩⟩⟩⟩⟩
theorem lw_p16 : lw_okq (⟨"PvArrayModel", "append", "(II)V"⟩, 19) := ⟨⟨by decide +kernel, by decide +kernel⟩, List.mem_of_getElem? (i := 416) (by decide +kernel), List.mem_of_getElem? (i := 496) (by decide +kernel), List.mem_of_getElem? (i := 497) (by decide +kernel)⟩
theorem lw_p17 : lw_okq (⟨"PvArrayModel", "isModule", "(I)Z"⟩, 19) := ⟨⟨by decide +kernel, by decide +kernel⟩, List.mem_of_getElem? (i := 416) (by decide +kernel), List.mem_of_getElem? (i := 504) (by decide +kernel), List.mem_of_getElem? (i := 505) (by decide +kernel)⟩
theorem lw_p18 : lw_okq (⟨"PvArrayModel", "placeOf", "(I)I"⟩, 19) := ⟨⟨by decide +kernel, by decide +kernel⟩, List.mem_of_getElem? (i := 416) (by decide +kernel), List.mem_of_getElem? (i := 528) (by decide +kernel), List.mem_of_getElem? (i := 529) (by decide +kernel)⟩
theorem lw_p19 : lw_okq (⟨"PvArrayModel", "remove", "(I)V"⟩, 19) := ⟨⟨by decide +kernel, by decide +kernel⟩, List.mem_of_getElem? (i := 416) (by decide +kernel), List.mem_of_getElem? (i := 532) (by decide +kernel), List.mem_of_getElem? (i := 533) (by decide +kernel)⟩
theorem lw_p20 : lw_okq (⟨"PvArrayModel", "exchange", "(II)V"⟩, 19) := ⟨⟨by decide +kernel, by decide +kernel⟩, List.mem_of_getElem? (i := 416) (by decide +kernel), List.mem_of_getElem? (i := 540) (by decide +kernel), List.mem_of_getElem? (i := 541) (by decide +kernel)⟩
theorem lw_p21 : lw_okq (⟨"PvArrayModel", "photocurrentOf", "(I)I"⟩, 19) := ⟨⟨by decide +kernel, by decide +kernel⟩, List.mem_of_getElem? (i := 416) (by decide +kernel), List.mem_of_getElem? (i := 556) (by decide +kernel), List.mem_of_getElem? (i := 557) (by decide +kernel)⟩
theorem lw_p22 : lw_okq (⟨"PvArrayModel", "voltageOf", "(II)I"⟩, 19) := ⟨⟨by decide +kernel, by decide +kernel⟩, List.mem_of_getElem? (i := 416) (by decide +kernel), List.mem_of_getElem? (i := 564) (by decide +kernel), List.mem_of_getElem? (i := 565) (by decide +kernel)⟩
theorem lw_p23 : lw_okq (⟨"PvArrayModel", "litVoltage", "(II)I"⟩, 19) := ⟨⟨by decide +kernel, by decide +kernel⟩, List.mem_of_getElem? (i := 416) (by decide +kernel), List.mem_of_getElem? (i := 568) (by decide +kernel), List.mem_of_getElem? (i := 569) (by decide +kernel)⟩
theorem lw_p24 : lw_okq (⟨"PvArrayModel", "peakPowerOf", "(I)J"⟩, 19) := ⟨⟨by decide +kernel, by decide +kernel⟩, List.mem_of_getElem? (i := 416) (by decide +kernel), List.mem_of_getElem? (i := 576) (by decide +kernel), List.mem_of_getElem? (i := 577) (by decide +kernel)⟩
theorem lw_p25 : lw_okq (⟨"PvArrayModel", "limitOf", "(I)I"⟩, 19) := ⟨⟨by decide +kernel, by decide +kernel⟩, List.mem_of_getElem? (i := 416) (by decide +kernel), List.mem_of_getElem? (i := 585) (by decide +kernel), List.mem_of_getElem? (i := 586) (by decide +kernel)⟩
theorem lw_p26 : lw_okq (⟨"PvArrayModel", "voltageAt", "(II)I"⟩, 19) := ⟨⟨by decide +kernel, by decide +kernel⟩, List.mem_of_getElem? (i := 416) (by decide +kernel), List.mem_of_getElem? (i := 593) (by decide +kernel), List.mem_of_getElem? (i := 594) (by decide +kernel)⟩
theorem lw_p27 : lw_okq (⟨"PvArrayModel", "powerAt", "(II)J"⟩, 19) := ⟨⟨by decide +kernel, by decide +kernel⟩, List.mem_of_getElem? (i := 416) (by decide +kernel), List.mem_of_getElem? (i := 601) (by decide +kernel), List.mem_of_getElem? (i := 602) (by decide +kernel)⟩
theorem lw_p28 : lw_okq (⟨"PvArrayModel", "layOut", "(I)V"⟩, 19) := ⟨⟨by decide +kernel, by decide +kernel⟩, List.mem_of_getElem? (i := 416) (by decide +kernel), List.mem_of_getElem? (i := 613) (by decide +kernel), List.mem_of_getElem? (i := 614) (by decide +kernel)⟩
theorem lw_p29 : lw_okq (⟨"PvArrayModel", "isPeak", "(I)Z"⟩, 19) := ⟨⟨by decide +kernel, by decide +kernel⟩, List.mem_of_getElem? (i := 416) (by decide +kernel), List.mem_of_getElem? (i := 617) (by decide +kernel), List.mem_of_getElem? (i := 618) (by decide +kernel)⟩
theorem lw_p30 : lw_okq (⟨"PvArrayModel", "bestOf", "(I)I"⟩, 19) := ⟨⟨by decide +kernel, by decide +kernel⟩, List.mem_of_getElem? (i := 416) (by decide +kernel), List.mem_of_getElem? (i := 629) (by decide +kernel), List.mem_of_getElem? (i := 630) (by decide +kernel)⟩
theorem lw_p31 : lw_okq (⟨"PvArrayModel", "bestPowerOf", "(I)J"⟩, 19) := ⟨⟨by decide +kernel, by decide +kernel⟩, List.mem_of_getElem? (i := 416) (by decide +kernel), List.mem_of_getElem? (i := 637) (by decide +kernel), List.mem_of_getElem? (i := 638) (by decide +kernel)⟩
def lw_privs_2 : List (MethodName × Nat) := [(⟨"PvArrayModel", "append", "(II)V"⟩, 19), (⟨"PvArrayModel", "isModule", "(I)Z"⟩, 19), (⟨"PvArrayModel", "placeOf", "(I)I"⟩, 19), (⟨"PvArrayModel", "remove", "(I)V"⟩, 19), (⟨"PvArrayModel", "exchange", "(II)V"⟩, 19), (⟨"PvArrayModel", "photocurrentOf", "(I)I"⟩, 19), (⟨"PvArrayModel", "voltageOf", "(II)I"⟩, 19), (⟨"PvArrayModel", "litVoltage", "(II)I"⟩, 19), (⟨"PvArrayModel", "peakPowerOf", "(I)J"⟩, 19), (⟨"PvArrayModel", "limitOf", "(I)I"⟩, 19), (⟨"PvArrayModel", "voltageAt", "(II)I"⟩, 19), (⟨"PvArrayModel", "powerAt", "(II)J"⟩, 19), (⟨"PvArrayModel", "layOut", "(I)V"⟩, 19), (⟨"PvArrayModel", "isPeak", "(I)Z"⟩, 19), (⟨"PvArrayModel", "bestOf", "(I)I"⟩, 19), (⟨"PvArrayModel", "bestPowerOf", "(I)J"⟩, 19)]
theorem lw_r2 : ∀ q ∈ lw_privs_2, lw_okq q := List.forall_mem_cons.mpr ⟨lw_p16, List.forall_mem_cons.mpr ⟨lw_p17, List.forall_mem_cons.mpr ⟨lw_p18, List.forall_mem_cons.mpr ⟨lw_p19, List.forall_mem_cons.mpr ⟨lw_p20, List.forall_mem_cons.mpr ⟨lw_p21, List.forall_mem_cons.mpr ⟨lw_p22, List.forall_mem_cons.mpr ⟨lw_p23, List.forall_mem_cons.mpr ⟨lw_p24, List.forall_mem_cons.mpr ⟨lw_p25, List.forall_mem_cons.mpr ⟨lw_p26, List.forall_mem_cons.mpr ⟨lw_p27, List.forall_mem_cons.mpr ⟨lw_p28, List.forall_mem_cons.mpr ⟨lw_p29, List.forall_mem_cons.mpr ⟨lw_p30, List.forall_mem_cons.mpr ⟨lw_p31, fun _ h => absurd h List.not_mem_nil⟩⟩⟩⟩⟩⟩⟩⟩⟩⟩⟩⟩⟩⟩⟩⟩
theorem lw_p32 : lw_okq (⟨"PvArrayModel", "layOutArray", "()V"⟩, 19) := ⟨⟨by decide +kernel, by decide +kernel⟩, List.mem_of_getElem? (i := 416) (by decide +kernel), List.mem_of_getElem? (i := 653) (by decide +kernel), List.mem_of_getElem? (i := 654) (by decide +kernel)⟩
theorem lw_p33 : lw_okq (⟨"PvArrayModel", "addDelivered", "(I)V"⟩, 19) := ⟨⟨by decide +kernel, by decide +kernel⟩, List.mem_of_getElem? (i := 416) (by decide +kernel), List.mem_of_getElem? (i := 657) (by decide +kernel), List.mem_of_getElem? (i := 658) (by decide +kernel)⟩
theorem lw_p34 : lw_okq (⟨"PvArrayModel", "totalNow", "()J"⟩, 19) := ⟨⟨by decide +kernel, by decide +kernel⟩, List.mem_of_getElem? (i := 416) (by decide +kernel), List.mem_of_getElem? (i := 669) (by decide +kernel), List.mem_of_getElem? (i := 670) (by decide +kernel)⟩
theorem lw_p35 : lw_okq (⟨"PvArrayModel", "findBestSwap", "()V"⟩, 19) := ⟨⟨by decide +kernel, by decide +kernel⟩, List.mem_of_getElem? (i := 416) (by decide +kernel), List.mem_of_getElem? (i := 681) (by decide +kernel), List.mem_of_getElem? (i := 682) (by decide +kernel)⟩
def lw_privs_3 : List (MethodName × Nat) := [(⟨"PvArrayModel", "layOutArray", "()V"⟩, 19), (⟨"PvArrayModel", "addDelivered", "(I)V"⟩, 19), (⟨"PvArrayModel", "totalNow", "()J"⟩, 19), (⟨"PvArrayModel", "findBestSwap", "()V"⟩, 19)]
theorem lw_r3 : ∀ q ∈ lw_privs_3, lw_okq q := List.forall_mem_cons.mpr ⟨lw_p32, List.forall_mem_cons.mpr ⟨lw_p33, List.forall_mem_cons.mpr ⟨lw_p34, List.forall_mem_cons.mpr ⟨lw_p35, fun _ h => absurd h List.not_mem_nil⟩⟩⟩⟩
def lw_privs : List (MethodName × Nat) := lw_privs_1 ++ (lw_privs_2 ++ (lw_privs_3))
def lw_tbl : List Cond := k2_sels lw_privs ++ tables_1
theorem lw_privs_ok : ∀ q ∈ lw_privs, lw_okq q := by
  show ∀ q ∈ lw_privs_1 ++ (lw_privs_2 ++ (lw_privs_3)), lw_okq q
  exact List.forall_mem_append.mpr ⟨lw_r1, List.forall_mem_append.mpr ⟨lw_r2, lw_r3⟩⟩
/-! ===== BEGIN words of one list among another's, by their places ===== -/
theorem goodIn_r {big : List Cond} (ws : List Cond) (ps : List Nat) (hp : ws = ps.filterMap (fun i => big[i]?)) (h : ws.all goodWord = true) : GoodIn big ws := by
  intro w hw
  have h1 := List.all_eq_true.mp h w hw
  rw [hp] at hw
  obtain ⟨i, -, hi⟩ := List.mem_filterMap.mp hw
  have hm : w ∈ big := by first | exact List.mem_of_getElem? hi | exact List.getElem?_mem hi
  exact ⟨hm, good_of_word h1⟩
theorem goodIn_app {big a b : List Cond} (ha : GoodIn big a) (hb : GoodIn big b) : GoodIn big (a ++ b) := fun w h => (List.mem_append.mp h).elim (ha w) (hb w)
theorem goodIn_ca {big a b : List Cond} {c : Cond} (ha : GoodIn big (c :: a)) (hb : GoodIn big b) : GoodIn big (c :: (a ++ b)) := fun w h => (List.mem_cons.mp h).elim (fun e => ha w (List.mem_cons.mpr (Or.inl e))) (fun h => (List.mem_append.mp h).elim (fun h => ha w (List.mem_cons.mpr (Or.inr h))) (hb w))
theorem goodIn_sub {big ws : List Cond} (hm : ∀ w ∈ ws, w ∈ big) (h : ws.all goodWord = true) : GoodIn big ws := fun w hw => ⟨hm w hw, good_of_word (List.all_eq_true.mp h w hw)⟩
/-! ===== END ===== -/

/-! ===== BEGIN printed: names, fields, word lists, decode rows ===== -/
def RX0 : String := "PvArray$Curve"
def TX0 : u_T := fun k => match k with
  | _ => ("", "", "", false)
def tyX0 : Nat → FieldType := fun k => match k with
  | _ => .int
abbrev wsX00 : List Cond := u_ws RX0 TX0 0
theorem nmX0 : ∀ a, a < 0 → ∀ b, b < 0 → a ≠ b → (TX0 a).2.1 ≠ (TX0 b).2.1 := by decide +kernel
theorem tyX0_ok : ∀ k, k < 0 → parseFieldDescriptor (TX0 k).2.2.1 = some (tyX0 k) := by decide +kernel
abbrev cX0_init : ByteArray := prog_2_method_1_code
def yX0_init : MethodName := ⟨RX0, "<init>", "()V"⟩
abbrev cX0_productAt : ByteArray := prog_2_method_4_code
def yX0_productAt : MethodName := ⟨RX0, "productAt", "(I)J"⟩
abbrev cX0_greatestProduct : ByteArray := prog_2_method_5_code
def yX0_greatestProduct : MethodName := ⟨RX0, "greatestProduct", "()J"⟩
abbrev cX0_bestPoint : ByteArray := prog_2_method_6_code
def yX0_bestPoint : MethodName := ⟨RX0, "bestPoint", "()I"⟩
def RX1 : String := "PvArray$Diodes"
def TX1 : u_T := fun k => match k with
  | _ => ("PvArray$Diodes", "drop", "I", false)
def tyX1 : Nat → FieldType := fun k => match k with
  | _ => .int
abbrev wsX10 : List Cond := u_ws RX1 TX1 1
theorem nmX1 : ∀ a, a < 1 → ∀ b, b < 1 → a ≠ b → (TX1 a).2.1 ≠ (TX1 b).2.1 := by decide +kernel
theorem tyX1_ok : ∀ k, k < 1 → parseFieldDescriptor (TX1 k).2.2.1 = some (tyX1 k) := by decide +kernel
abbrev cX1_init : ByteArray := prog_3_method_1_code
def yX1_init : MethodName := ⟨RX1, "<init>", "()V"⟩
def RX2 : String := "PvArray$Parallel"
def TX2 : u_T := fun k => match k with
  | 0 => ("PvArray$Parallel", "strings", "[LPvArray$PvString;", true)
  | _ => ("PvArray$Parallel", "count", "I", false)
def tyX2 : Nat → FieldType := fun k => match k with
  | 0 => .array (.object "PvArray$PvString")
  | _ => .int
abbrev wsX20 : List Cond := u_ws RX2 TX2 2
theorem nmX2 : ∀ a, a < 2 → ∀ b, b < 2 → a ≠ b → (TX2 a).2.1 ≠ (TX2 b).2.1 := by decide +kernel
theorem tyX2_ok : ∀ k, k < 2 → parseFieldDescriptor (TX2 k).2.2.1 = some (tyX2 k) := by decide +kernel
abbrev cX2_init : ByteArray := prog_4_method_1_code
def yX2_init : MethodName := ⟨RX2, "<init>", "([LPvArray$PvString;)V"⟩
abbrev cX2_valueAt : ByteArray := prog_4_method_2_code
def yX2_valueAt : MethodName := ⟨RX2, "valueAt", "(I)I"⟩
abbrev cX2_end : ByteArray := prog_4_method_3_code
def yX2_end : MethodName := ⟨RX2, "end", "()I"⟩
def RX3 : String := "PvArray$PvModule"
def TX3 : u_T := fun k => match k with
  | 0 => ("PvArray$PvModule", "diodes", "LPvArray$Diodes;", true)
  | 1 => ("PvArray$PvModule", "ratedCurrent", "I", false)
  | 2 => ("PvArray$PvModule", "openVoltage", "I", false)
  | 3 => ("PvArray$PvModule", "irradiance", "I", false)
  | 4 => ("PvArray$PvModule", "lightCurrent", "I", false)
  | 5 => ("PvArray$PvModule", "resistance", "I", false)
  | 6 => ("PvArray$PvModule", "hasDiode", "Z", false)
  | 7 => ("PvArray$PvModule", "string", "I", false)
  | _ => ("PvArray$PvModule", "position", "I", false)
def tyX3 : Nat → FieldType := fun k => match k with
  | 0 => .object "PvArray$Diodes"
  | 1 => .int
  | 2 => .int
  | 3 => .int
  | 4 => .int
  | 5 => .int
  | 6 => .boolean
  | 7 => .int
  | _ => .int
abbrev wsX30 : List Cond := u_ws RX3 TX3 9
theorem nmX3 : ∀ a, a < 9 → ∀ b, b < 9 → a ≠ b → (TX3 a).2.1 ≠ (TX3 b).2.1 := by decide +kernel
theorem tyX3_ok : ∀ k, k < 9 → parseFieldDescriptor (TX3 k).2.2.1 = some (tyX3 k) := by decide +kernel
abbrev cX3_init : ByteArray := prog_5_method_1_code
def yX3_init : MethodName := ⟨RX3, "<init>", "(LPvArray$Diodes;)V"⟩
abbrev cX3_illuminate : ByteArray := prog_5_method_2_code
def yX3_illuminate : MethodName := ⟨RX3, "illuminate", "(I)V"⟩
abbrev cX3_valueAt : ByteArray := prog_5_method_3_code
def yX3_valueAt : MethodName := ⟨RX3, "valueAt", "(I)I"⟩
abbrev cX3_end : ByteArray := prog_5_method_4_code
def yX3_end : MethodName := ⟨RX3, "end", "()I"⟩
def RX4 : String := "PvArray$PvString"
def TX4 : u_T := fun k => match k with
  | 0 => ("PvArray$PvString", "modules", "[LPvArray$PvModule;", true)
  | 1 => ("PvArray$PvString", "members", "[I", true)
  | _ => ("PvArray$PvString", "count", "I", false)
def tyX4 : Nat → FieldType := fun k => match k with
  | 0 => .array (.object "PvArray$PvModule")
  | 1 => .array .int
  | _ => .int
abbrev wsX40 : List Cond := u_ws RX4 TX4 3
theorem nmX4 : ∀ a, a < 3 → ∀ b, b < 3 → a ≠ b → (TX4 a).2.1 ≠ (TX4 b).2.1 := by decide +kernel
theorem tyX4_ok : ∀ k, k < 3 → parseFieldDescriptor (TX4 k).2.2.1 = some (tyX4 k) := by decide +kernel
abbrev cX4_init : ByteArray := prog_6_method_1_code
def yX4_init : MethodName := ⟨RX4, "<init>", "([LPvArray$PvModule;)V"⟩
abbrev cX4_isFull : ByteArray := prog_6_method_2_code
def yX4_isFull : MethodName := ⟨RX4, "isFull", "()Z"⟩
abbrev cX4_valueAt : ByteArray := prog_6_method_3_code
def yX4_valueAt : MethodName := ⟨RX4, "valueAt", "(I)I"⟩
abbrev cX4_end : ByteArray := prog_6_method_4_code
def yX4_end : MethodName := ⟨RX4, "end", "()I"⟩
abbrev cX4_bypassedAt : ByteArray := prog_6_method_5_code
def yX4_bypassedAt : MethodName := ⟨RX4, "bypassedAt", "(I)I"⟩
abbrev cX4_isPeak : ByteArray := prog_6_method_6_code
def yX4_isPeak : MethodName := ⟨RX4, "isPeak", "(II)Z"⟩
abbrev cX4_bestOfScan : ByteArray := prog_6_method_7_code
def yX4_bestOfScan : MethodName := ⟨RX4, "bestOfScan", "(I)I"⟩
abbrev cX4_climbFrom : ByteArray := prog_6_method_8_code
def yX4_climbFrom : MethodName := ⟨RX4, "climbFrom", "(I)I"⟩
abbrev cX4_deliveredAt : ByteArray := prog_6_method_9_code
def yX4_deliveredAt : MethodName := ⟨RX4, "deliveredAt", "(I)I"⟩
def RX5 : String := "PvArray"
def TX5 : u_T := fun k => match k with
  | 0 => ("PvArray", "diodes", "LPvArray$Diodes;", true)
  | 1 => ("PvArray", "modules", "[LPvArray$PvModule;", true)
  | 2 => ("PvArray", "moduleCount", "I", false)
  | 3 => ("PvArray", "strings", "[LPvArray$PvString;", true)
  | 4 => ("PvArray", "parallel", "LPvArray$Parallel;", true)
  | 5 => ("PvArray", "powerBefore", "[J", true)
  | 6 => ("PvArray", "swapGain", "J", false)
  | 7 => ("PvArray", "swapLower", "I", false)
  | 8 => ("PvArray", "swapHigher", "I", false)
  | _ => ("PvArray", "sorted", "[I", true)
def tyX5 : Nat → FieldType := fun k => match k with
  | 0 => .object "PvArray$Diodes"
  | 1 => .array (.object "PvArray$PvModule")
  | 2 => .int
  | 3 => .array (.object "PvArray$PvString")
  | 4 => .object "PvArray$Parallel"
  | 5 => .array .long
  | 6 => .long
  | 7 => .int
  | 8 => .int
  | _ => .array .int
abbrev wsX50 : List Cond := u_ws RX5 TX5 10
theorem nmX5 : ∀ a, a < 10 → ∀ b, b < 10 → a ≠ b → (TX5 a).2.1 ≠ (TX5 b).2.1 := by decide +kernel
theorem tyX5_ok : ∀ k, k < 10 → parseFieldDescriptor (TX5 k).2.2.1 = some (tyX5 k) := by decide +kernel
abbrev cX5_init : ByteArray := prog_1_method_1_code
def yX5_init : MethodName := ⟨RX5, "<init>", "()V"⟩
abbrev cX5_addString : ByteArray := prog_1_method_2_code
def yX5_addString : MethodName := ⟨RX5, "addString", "()I"⟩
abbrev cX5_addModule : ByteArray := prog_1_method_3_code
def yX5_addModule : MethodName := ⟨RX5, "addModule", "(III)I"⟩
abbrev cX5_setIrradiance : ByteArray := prog_1_method_4_code
def yX5_setIrradiance : MethodName := ⟨RX5, "setIrradiance", "(II)I"⟩
abbrev cX5_shade : ByteArray := prog_1_method_5_code
def yX5_shade : MethodName := ⟨RX5, "shade", "(III)I"⟩
abbrev cX5_setResistance : ByteArray := prog_1_method_6_code
def yX5_setResistance : MethodName := ⟨RX5, "setResistance", "(II)I"⟩
abbrev cX5_setBypassDiode : ByteArray := prog_1_method_7_code
def yX5_setBypassDiode : MethodName := ⟨RX5, "setBypassDiode", "(IZ)I"⟩
abbrev cX5_setDiodeDrop : ByteArray := prog_1_method_8_code
def yX5_setDiodeDrop : MethodName := ⟨RX5, "setDiodeDrop", "(I)I"⟩
abbrev cX5_moveModule : ByteArray := prog_1_method_9_code
def yX5_moveModule : MethodName := ⟨RX5, "moveModule", "(II)I"⟩
abbrev cX5_swapModules : ByteArray := prog_1_method_10_code
def yX5_swapModules : MethodName := ⟨RX5, "swapModules", "(II)I"⟩
abbrev cX5_stringOf : ByteArray := prog_1_method_11_code
def yX5_stringOf : MethodName := ⟨RX5, "stringOf", "(I)I"⟩
abbrev cX5_moduleAt : ByteArray := prog_1_method_12_code
def yX5_moduleAt : MethodName := ⟨RX5, "moduleAt", "(II)I"⟩
abbrev cX5_photocurrent : ByteArray := prog_1_method_13_code
def yX5_photocurrent : MethodName := ⟨RX5, "photocurrent", "(I)I"⟩
abbrev cX5_moduleVoltage : ByteArray := prog_1_method_14_code
def yX5_moduleVoltage : MethodName := ⟨RX5, "moduleVoltage", "(II)I"⟩
abbrev cX5_modulePeakPower : ByteArray := prog_1_method_15_code
def yX5_modulePeakPower : MethodName := ⟨RX5, "modulePeakPower", "(I)J"⟩
abbrev cX5_currentLimit : ByteArray := prog_1_method_16_code
def yX5_currentLimit : MethodName := ⟨RX5, "currentLimit", "(I)I"⟩
abbrev cX5_stringVoltage : ByteArray := prog_1_method_17_code
def yX5_stringVoltage : MethodName := ⟨RX5, "stringVoltage", "(II)I"⟩
abbrev cX5_stringPower : ByteArray := prog_1_method_18_code
def yX5_stringPower : MethodName := ⟨RX5, "stringPower", "(II)J"⟩
abbrev cX5_bypassedModules : ByteArray := prog_1_method_19_code
def yX5_bypassedModules : MethodName := ⟨RX5, "bypassedModules", "(II)I"⟩
abbrev cX5_peakCount : ByteArray := prog_1_method_20_code
def yX5_peakCount : MethodName := ⟨RX5, "peakCount", "(I)I"⟩
abbrev cX5_peakCurrent : ByteArray := prog_1_method_21_code
def yX5_peakCurrent : MethodName := ⟨RX5, "peakCurrent", "(II)I"⟩
abbrev cX5_bestCurrent : ByteArray := prog_1_method_22_code
def yX5_bestCurrent : MethodName := ⟨RX5, "bestCurrent", "(I)I"⟩
abbrev cX5_bestPower : ByteArray := prog_1_method_23_code
def yX5_bestPower : MethodName := ⟨RX5, "bestPower", "(I)J"⟩
abbrev cX5_perturbAndObserve : ByteArray := prog_1_method_24_code
def yX5_perturbAndObserve : MethodName := ⟨RX5, "perturbAndObserve", "(IIII)I"⟩
abbrev cX5_scanAndClimb : ByteArray := prog_1_method_25_code
def yX5_scanAndClimb : MethodName := ⟨RX5, "scanAndClimb", "(II)I"⟩
abbrev cX5_arrayCurrent : ByteArray := prog_1_method_26_code
def yX5_arrayCurrent : MethodName := ⟨RX5, "arrayCurrent", "(I)I"⟩
abbrev cX5_bestArrayVoltage : ByteArray := prog_1_method_27_code
def yX5_bestArrayVoltage : MethodName := ⟨RX5, "bestArrayVoltage", "()I"⟩
abbrev cX5_totalBestPower : ByteArray := prog_1_method_28_code
def yX5_totalBestPower : MethodName := ⟨RX5, "totalBestPower", "()J"⟩
abbrev cX5_mismatchLoss : ByteArray := prog_1_method_29_code
def yX5_mismatchLoss : MethodName := ⟨RX5, "mismatchLoss", "()J"⟩
abbrev cX5_bestSwapGain : ByteArray := prog_1_method_30_code
def yX5_bestSwapGain : MethodName := ⟨RX5, "bestSwapGain", "()J"⟩
abbrev cX5_bestSwapLower : ByteArray := prog_1_method_31_code
def yX5_bestSwapLower : MethodName := ⟨RX5, "bestSwapLower", "()I"⟩
abbrev cX5_bestSwapHigher : ByteArray := prog_1_method_32_code
def yX5_bestSwapHigher : MethodName := ⟨RX5, "bestSwapHigher", "()I"⟩
abbrev cX5_regroup : ByteArray := prog_1_method_33_code
def yX5_regroup : MethodName := ⟨RX5, "regroup", "()I"⟩
abbrev cX5_isString : ByteArray := prog_1_method_34_code
def yX5_isString : MethodName := ⟨RX5, "isString", "(I)Z"⟩
abbrev cX5_isModule : ByteArray := prog_1_method_35_code
def yX5_isModule : MethodName := ⟨RX5, "isModule", "(I)Z"⟩
abbrev cX5_isWithin : ByteArray := prog_1_method_36_code
def yX5_isWithin : MethodName := ⟨RX5, "isWithin", "(III)Z"⟩
abbrev cX5_place : ByteArray := prog_1_method_37_code
def yX5_place : MethodName := ⟨RX5, "place", "(III)V"⟩
abbrev cX5_putLast : ByteArray := prog_1_method_38_code
def yX5_putLast : MethodName := ⟨RX5, "putLast", "(II)I"⟩
abbrev cX5_takeOut : ByteArray := prog_1_method_39_code
def yX5_takeOut : MethodName := ⟨RX5, "takeOut", "(I)V"⟩
abbrev cX5_exchange : ByteArray := prog_1_method_40_code
def yX5_exchange : MethodName := ⟨RX5, "exchange", "(II)V"⟩
abbrev cX5_findBestSwap : ByteArray := prog_1_method_41_code
def yX5_findBestSwap : MethodName := ⟨RX5, "findBestSwap", "()V"⟩
abbrev cX5_sortByLightCurrent : ByteArray := prog_1_method_42_code
def yX5_sortByLightCurrent : MethodName := ⟨RX5, "sortByLightCurrent", "()V"⟩
def RX6 : String := "PvArrayModel"
def TX6 : u_T := fun k => match k with
  | 0 => ("PvArrayModel", "diodeDrop", "I", false)
  | 1 => ("PvArrayModel", "modules", "I", false)
  | 2 => ("PvArrayModel", "rated", "[I", true)
  | 3 => ("PvArrayModel", "open", "[I", true)
  | 4 => ("PvArrayModel", "light", "[I", true)
  | 5 => ("PvArrayModel", "resistance", "[I", true)
  | 6 => ("PvArrayModel", "hasDiode", "[Z", true)
  | 7 => ("PvArrayModel", "strings", "I", false)
  | 8 => ("PvArrayModel", "count", "[I", true)
  | 9 => ("PvArrayModel", "place", "[I", true)
  | 10 => ("PvArrayModel", "limit", "I", false)
  | 11 => ("PvArrayModel", "power", "[J", true)
  | 12 => ("PvArrayModel", "delivered", "[I", true)
  | 13 => ("PvArrayModel", "swapGain", "J", false)
  | 14 => ("PvArrayModel", "swapLower", "I", false)
  | 15 => ("PvArrayModel", "swapHigher", "I", false)
  | 16 => ("PvArrayModel", "bestBefore", "[J", true)
  | 17 => ("PvArrayModel", "sorted", "[I", true)
  | _ => ("PvArrayModel", "stringBefore", "[I", true)
def tyX6 : Nat → FieldType := fun k => match k with
  | 0 => .int
  | 1 => .int
  | 2 => .array .int
  | 3 => .array .int
  | 4 => .array .int
  | 5 => .array .int
  | 6 => .array .boolean
  | 7 => .int
  | 8 => .array .int
  | 9 => .array .int
  | 10 => .int
  | 11 => .array .long
  | 12 => .array .int
  | 13 => .long
  | 14 => .int
  | 15 => .int
  | 16 => .array .long
  | 17 => .array .int
  | _ => .array .int
abbrev wsX60 : List Cond := u_ws RX6 TX6 19
theorem nmX6 : ∀ a, a < 19 → ∀ b, b < 19 → a ≠ b → (TX6 a).2.1 ≠ (TX6 b).2.1 := by decide +kernel
theorem tyX6_ok : ∀ k, k < 19 → parseFieldDescriptor (TX6 k).2.2.1 = some (tyX6 k) := by decide +kernel
abbrev cX6_init : ByteArray := prog_8_method_1_code
def yX6_init : MethodName := ⟨RX6, "<init>", "()V"⟩
abbrev cX6_isBetween : ByteArray := prog_8_method_2_code
def yX6_isBetween : MethodName := ⟨RX6, "isBetween", "(III)Z"⟩
abbrev cX6_isModule : ByteArray := prog_8_method_3_code
def yX6_isModule : MethodName := ⟨RX6, "isModule", "(I)Z"⟩
abbrev cX6_isString : ByteArray := prog_8_method_4_code
def yX6_isString : MethodName := ⟨RX6, "isString", "(I)Z"⟩
abbrev cX6_addString : ByteArray := prog_8_method_5_code
def yX6_addString : MethodName := ⟨RX6, "addString", "()I"⟩
abbrev cX6_addModule : ByteArray := prog_8_method_6_code
def yX6_addModule : MethodName := ⟨RX6, "addModule", "(III)I"⟩
abbrev cX6_setIrradiance : ByteArray := prog_8_method_7_code
def yX6_setIrradiance : MethodName := ⟨RX6, "setIrradiance", "(II)I"⟩
abbrev cX6_shade : ByteArray := prog_8_method_8_code
def yX6_shade : MethodName := ⟨RX6, "shade", "(III)I"⟩
abbrev cX6_setResistance : ByteArray := prog_8_method_9_code
def yX6_setResistance : MethodName := ⟨RX6, "setResistance", "(II)I"⟩
abbrev cX6_setBypassDiode : ByteArray := prog_8_method_10_code
def yX6_setBypassDiode : MethodName := ⟨RX6, "setBypassDiode", "(IZ)I"⟩
abbrev cX6_setDiodeDrop : ByteArray := prog_8_method_11_code
def yX6_setDiodeDrop : MethodName := ⟨RX6, "setDiodeDrop", "(I)I"⟩
abbrev cX6_append : ByteArray := prog_8_method_12_code
def yX6_append : MethodName := ⟨RX6, "append", "(II)V"⟩
abbrev cX6_placeOf : ByteArray := prog_8_method_13_code
def yX6_placeOf : MethodName := ⟨RX6, "placeOf", "(I)I"⟩
abbrev cX6_remove : ByteArray := prog_8_method_14_code
def yX6_remove : MethodName := ⟨RX6, "remove", "(I)V"⟩
abbrev cX6_moveModule : ByteArray := prog_8_method_15_code
def yX6_moveModule : MethodName := ⟨RX6, "moveModule", "(II)I"⟩
abbrev cX6_exchange : ByteArray := prog_8_method_16_code
def yX6_exchange : MethodName := ⟨RX6, "exchange", "(II)V"⟩
abbrev cX6_swapModules : ByteArray := prog_8_method_17_code
def yX6_swapModules : MethodName := ⟨RX6, "swapModules", "(II)I"⟩
abbrev cX6_stringOf : ByteArray := prog_8_method_18_code
def yX6_stringOf : MethodName := ⟨RX6, "stringOf", "(I)I"⟩
abbrev cX6_moduleAt : ByteArray := prog_8_method_19_code
def yX6_moduleAt : MethodName := ⟨RX6, "moduleAt", "(II)I"⟩
abbrev cX6_photocurrentOf : ByteArray := prog_8_method_20_code
def yX6_photocurrentOf : MethodName := ⟨RX6, "photocurrentOf", "(I)I"⟩
abbrev cX6_photocurrent : ByteArray := prog_8_method_21_code
def yX6_photocurrent : MethodName := ⟨RX6, "photocurrent", "(I)I"⟩
abbrev cX6_litVoltage : ByteArray := prog_8_method_22_code
def yX6_litVoltage : MethodName := ⟨RX6, "litVoltage", "(II)I"⟩
abbrev cX6_voltageOf : ByteArray := prog_8_method_23_code
def yX6_voltageOf : MethodName := ⟨RX6, "voltageOf", "(II)I"⟩
abbrev cX6_moduleVoltage : ByteArray := prog_8_method_24_code
def yX6_moduleVoltage : MethodName := ⟨RX6, "moduleVoltage", "(II)I"⟩
abbrev cX6_peakPowerOf : ByteArray := prog_8_method_25_code
def yX6_peakPowerOf : MethodName := ⟨RX6, "peakPowerOf", "(I)J"⟩
abbrev cX6_modulePeakPower : ByteArray := prog_8_method_26_code
def yX6_modulePeakPower : MethodName := ⟨RX6, "modulePeakPower", "(I)J"⟩
abbrev cX6_limitOf : ByteArray := prog_8_method_27_code
def yX6_limitOf : MethodName := ⟨RX6, "limitOf", "(I)I"⟩
abbrev cX6_voltageAt : ByteArray := prog_8_method_28_code
def yX6_voltageAt : MethodName := ⟨RX6, "voltageAt", "(II)I"⟩
abbrev cX6_powerAt : ByteArray := prog_8_method_29_code
def yX6_powerAt : MethodName := ⟨RX6, "powerAt", "(II)J"⟩
abbrev cX6_currentLimit : ByteArray := prog_8_method_30_code
def yX6_currentLimit : MethodName := ⟨RX6, "currentLimit", "(I)I"⟩
abbrev cX6_stringVoltage : ByteArray := prog_8_method_31_code
def yX6_stringVoltage : MethodName := ⟨RX6, "stringVoltage", "(II)I"⟩
abbrev cX6_stringPower : ByteArray := prog_8_method_32_code
def yX6_stringPower : MethodName := ⟨RX6, "stringPower", "(II)J"⟩
abbrev cX6_bypassedModules : ByteArray := prog_8_method_33_code
def yX6_bypassedModules : MethodName := ⟨RX6, "bypassedModules", "(II)I"⟩
abbrev cX6_layOut : ByteArray := prog_8_method_34_code
def yX6_layOut : MethodName := ⟨RX6, "layOut", "(I)V"⟩
abbrev cX6_isPeak : ByteArray := prog_8_method_35_code
def yX6_isPeak : MethodName := ⟨RX6, "isPeak", "(I)Z"⟩
abbrev cX6_peakCount : ByteArray := prog_8_method_36_code
def yX6_peakCount : MethodName := ⟨RX6, "peakCount", "(I)I"⟩
abbrev cX6_peakCurrent : ByteArray := prog_8_method_37_code
def yX6_peakCurrent : MethodName := ⟨RX6, "peakCurrent", "(II)I"⟩
abbrev cX6_bestOf : ByteArray := prog_8_method_38_code
def yX6_bestOf : MethodName := ⟨RX6, "bestOf", "(I)I"⟩
abbrev cX6_bestPowerOf : ByteArray := prog_8_method_39_code
def yX6_bestPowerOf : MethodName := ⟨RX6, "bestPowerOf", "(I)J"⟩
abbrev cX6_bestCurrent : ByteArray := prog_8_method_40_code
def yX6_bestCurrent : MethodName := ⟨RX6, "bestCurrent", "(I)I"⟩
abbrev cX6_bestPower : ByteArray := prog_8_method_41_code
def yX6_bestPower : MethodName := ⟨RX6, "bestPower", "(I)J"⟩
abbrev cX6_perturbAndObserve : ByteArray := prog_8_method_42_code
def yX6_perturbAndObserve : MethodName := ⟨RX6, "perturbAndObserve", "(IIII)I"⟩
abbrev cX6_scanAndClimb : ByteArray := prog_8_method_43_code
def yX6_scanAndClimb : MethodName := ⟨RX6, "scanAndClimb", "(II)I"⟩
abbrev cX6_addDelivered : ByteArray := prog_8_method_44_code
def yX6_addDelivered : MethodName := ⟨RX6, "addDelivered", "(I)V"⟩
abbrev cX6_layOutArray : ByteArray := prog_8_method_45_code
def yX6_layOutArray : MethodName := ⟨RX6, "layOutArray", "()V"⟩
abbrev cX6_arrayCurrent : ByteArray := prog_8_method_46_code
def yX6_arrayCurrent : MethodName := ⟨RX6, "arrayCurrent", "(I)I"⟩
abbrev cX6_bestArrayVoltage : ByteArray := prog_8_method_47_code
def yX6_bestArrayVoltage : MethodName := ⟨RX6, "bestArrayVoltage", "()I"⟩
abbrev cX6_totalNow : ByteArray := prog_8_method_48_code
def yX6_totalNow : MethodName := ⟨RX6, "totalNow", "()J"⟩
abbrev cX6_totalBestPower : ByteArray := prog_8_method_49_code
def yX6_totalBestPower : MethodName := ⟨RX6, "totalBestPower", "()J"⟩
abbrev cX6_mismatchLoss : ByteArray := prog_8_method_50_code
def yX6_mismatchLoss : MethodName := ⟨RX6, "mismatchLoss", "()J"⟩
abbrev cX6_findBestSwap : ByteArray := prog_8_method_51_code
def yX6_findBestSwap : MethodName := ⟨RX6, "findBestSwap", "()V"⟩
abbrev cX6_bestSwapGain : ByteArray := prog_8_method_52_code
def yX6_bestSwapGain : MethodName := ⟨RX6, "bestSwapGain", "()J"⟩
abbrev cX6_bestSwapLower : ByteArray := prog_8_method_53_code
def yX6_bestSwapLower : MethodName := ⟨RX6, "bestSwapLower", "()I"⟩
abbrev cX6_bestSwapHigher : ByteArray := prog_8_method_54_code
def yX6_bestSwapHigher : MethodName := ⟨RX6, "bestSwapHigher", "()I"⟩
abbrev cX6_regroup : ByteArray := prog_8_method_55_code
def yX6_regroup : MethodName := ⟨RX6, "regroup", "()I"⟩
def RJ9 : String := "java/lang/Math"
def TJ9 : u_T := fun k => match k with
  | _ => ("", "", "", false)
def tyJ9 : Nat → FieldType := fun k => match k with
  | _ => .int
abbrev wsJ90 : List Cond := u_ws RJ9 TJ9 0
theorem nmJ9 : ∀ a, a < 0 → ∀ b, b < 0 → a ≠ b → (TJ9 a).2.1 ≠ (TJ9 b).2.1 := by decide +kernel
theorem tyJ9_ok : ∀ k, k < 0 → parseFieldDescriptor (TJ9 k).2.2.1 = some (tyJ9 k) := by decide +kernel
abbrev cJ9_max_7cf53 : ByteArray := prog_9_method_65_code
def yJ9_max_7cf53 : MethodName := ⟨RJ9, "max", "(II)I"⟩
abbrev cJ9_max_f86c9 : ByteArray := prog_9_method_66_code
def yJ9_max_f86c9 : MethodName := ⟨RJ9, "max", "(JJ)J"⟩
abbrev cJ9_min_7cf53 : ByteArray := prog_9_method_69_code
def yJ9_min_7cf53 : MethodName := ⟨RJ9, "min", "(II)I"⟩
def RL : String := "PvArrayLaw"
abbrev cL_law : ByteArray := code
def yL_law : MethodName := ⟨RL, "law", "([I)Z"⟩
abbrev vwCl : List vw_C := [(RX1, TX1, 1), (RX2, TX2, 2), (RX3, TX3, 9), (RX4, TX4, 3), (RX5, TX5, 10), (RX6, TX6, 19)]
end
section
theorem dX0_init_0 : decode cX0_init 0 = .ok (.aload_n 0, 1) := by decide +kernel
theorem dX0_init_1 : decode cX0_init 1 = .ok (.invokespecial 3, 3) := by decide +kernel
theorem dX0_init_4 : decode cX0_init 4 = .ok (.return_, 1) := by decide +kernel
theorem dX0_productAt_0 : decode cX0_productAt 0 = .ok (.iload_n 1, 1) := by decide +kernel
theorem dX0_productAt_1 : decode cX0_productAt 1 = .ok (.i2l, 1) := by decide +kernel
theorem dX0_productAt_2 : decode cX0_productAt 2 = .ok (.aload_n 0, 1) := by decide +kernel
theorem dX0_productAt_3 : decode cX0_productAt 3 = .ok (.iload_n 1, 1) := by decide +kernel
theorem dX0_productAt_4 : decode cX0_productAt 4 = .ok (.invokevirtual 9, 3) := by decide +kernel
theorem dX0_productAt_7 : decode cX0_productAt 7 = .ok (.i2l, 1) := by decide +kernel
theorem dX0_productAt_8 : decode cX0_productAt 8 = .ok (.lmul, 1) := by decide +kernel
theorem dX0_productAt_9 : decode cX0_productAt 9 = .ok (.lreturn, 1) := by decide +kernel
theorem dX0_greatestProduct_0 : decode cX0_greatestProduct 0 = .ok (.aload_n 0, 1) := by decide +kernel
theorem dX0_greatestProduct_1 : decode cX0_greatestProduct 1 = .ok (.aload_n 0, 1) := by decide +kernel
theorem dX0_greatestProduct_2 : decode cX0_greatestProduct 2 = .ok (.invokevirtual 15, 3) := by decide +kernel
theorem dX0_greatestProduct_5 : decode cX0_greatestProduct 5 = .ok (.invokevirtual 19, 3) := by decide +kernel
theorem dX0_greatestProduct_8 : decode cX0_greatestProduct 8 = .ok (.lreturn, 1) := by decide +kernel
theorem dX0_bestPoint_0 : decode cX0_bestPoint 0 = .ok (.aload_n 0, 1) := by decide +kernel
theorem dX0_bestPoint_1 : decode cX0_bestPoint 1 = .ok (.invokevirtual 23, 3) := by decide +kernel
theorem dX0_bestPoint_4 : decode cX0_bestPoint 4 = .ok (.istore_n 1, 1) := by decide +kernel
theorem dX0_bestPoint_5 : decode cX0_bestPoint 5 = .ok (.iload_n 1, 1) := by decide +kernel
theorem dX0_bestPoint_6 : decode cX0_bestPoint 6 = .ok (.bipush 32, 2) := by decide +kernel
theorem dX0_bestPoint_8 : decode cX0_bestPoint 8 = .ok (.idiv, 1) := by decide +kernel
theorem dX0_bestPoint_9 : decode cX0_bestPoint 9 = .ok (.iconst 1, 1) := by decide +kernel
theorem dX0_bestPoint_10 : decode cX0_bestPoint 10 = .ok (.iadd, 1) := by decide +kernel
theorem dX0_bestPoint_11 : decode cX0_bestPoint 11 = .ok (.istore_n 2, 1) := by decide +kernel
theorem dX0_bestPoint_12 : decode cX0_bestPoint 12 = .ok (.ldc2_w 26, 3) := by decide +kernel
theorem dX0_bestPoint_15 : decode cX0_bestPoint 15 = .ok (.lstore_n 3, 1) := by decide +kernel
theorem dX0_bestPoint_16 : decode cX0_bestPoint 16 = .ok (.iconst 0, 1) := by decide +kernel
theorem dX0_bestPoint_17 : decode cX0_bestPoint 17 = .ok (.istore 5, 2) := by decide +kernel
theorem dX0_bestPoint_19 : decode cX0_bestPoint 19 = .ok (.iload 5, 2) := by decide +kernel
theorem dX0_bestPoint_21 : decode cX0_bestPoint 21 = .ok (.iload_n 1, 1) := by decide +kernel
theorem dX0_bestPoint_22 : decode cX0_bestPoint 22 = .ok (.if_icmp .gt 30, 3) := by decide +kernel
theorem dX0_bestPoint_25 : decode cX0_bestPoint 25 = .ok (.lload_n 3, 1) := by decide +kernel
theorem dX0_bestPoint_26 : decode cX0_bestPoint 26 = .ok (.iload 5, 2) := by decide +kernel
theorem dX0_bestPoint_28 : decode cX0_bestPoint 28 = .ok (.i2l, 1) := by decide +kernel
theorem dX0_bestPoint_29 : decode cX0_bestPoint 29 = .ok (.aload_n 0, 1) := by decide +kernel
theorem dX0_bestPoint_30 : decode cX0_bestPoint 30 = .ok (.iload 5, 2) := by decide +kernel
theorem dX0_bestPoint_32 : decode cX0_bestPoint 32 = .ok (.invokevirtual 9, 3) := by decide +kernel
theorem dX0_bestPoint_35 : decode cX0_bestPoint 35 = .ok (.i2l, 1) := by decide +kernel
theorem dX0_bestPoint_36 : decode cX0_bestPoint 36 = .ok (.lmul, 1) := by decide +kernel
theorem dX0_bestPoint_37 : decode cX0_bestPoint 37 = .ok (.lconst 1, 1) := by decide +kernel
theorem dX0_bestPoint_38 : decode cX0_bestPoint 38 = .ok (.lsub, 1) := by decide +kernel
theorem dX0_bestPoint_39 : decode cX0_bestPoint 39 = .ok (.invokestatic 28, 3) := by decide +kernel
theorem dX0_bestPoint_42 : decode cX0_bestPoint 42 = .ok (.lstore_n 3, 1) := by decide +kernel
theorem dX0_bestPoint_43 : decode cX0_bestPoint 43 = .ok (.iload 5, 2) := by decide +kernel
theorem dX0_bestPoint_45 : decode cX0_bestPoint 45 = .ok (.iload_n 2, 1) := by decide +kernel
theorem dX0_bestPoint_46 : decode cX0_bestPoint 46 = .ok (.iadd, 1) := by decide +kernel
theorem dX0_bestPoint_47 : decode cX0_bestPoint 47 = .ok (.istore 5, 2) := by decide +kernel
theorem dX0_bestPoint_49 : decode cX0_bestPoint 49 = .ok (.goto (-30), 3) := by decide +kernel
theorem dX0_bestPoint_52 : decode cX0_bestPoint 52 = .ok (.iconst 0, 1) := by decide +kernel
theorem dX0_bestPoint_53 : decode cX0_bestPoint 53 = .ok (.istore 5, 2) := by decide +kernel
theorem dX0_bestPoint_55 : decode cX0_bestPoint 55 = .ok (.iconst 0, 1) := by decide +kernel
theorem dX0_bestPoint_56 : decode cX0_bestPoint 56 = .ok (.istore 6, 2) := by decide +kernel
theorem dX0_bestPoint_58 : decode cX0_bestPoint 58 = .ok (.iload 6, 2) := by decide +kernel
theorem dX0_bestPoint_60 : decode cX0_bestPoint 60 = .ok (.iload_n 1, 1) := by decide +kernel
theorem dX0_bestPoint_61 : decode cX0_bestPoint 61 = .ok (.if_icmp .gt 64, 3) := by decide +kernel
theorem dX0_bestPoint_64 : decode cX0_bestPoint 64 = .ok (.aload_n 0, 1) := by decide +kernel
theorem dX0_bestPoint_65 : decode cX0_bestPoint 65 = .ok (.iload 6, 2) := by decide +kernel
theorem dX0_bestPoint_67 : decode cX0_bestPoint 67 = .ok (.invokevirtual 9, 3) := by decide +kernel
theorem dX0_bestPoint_70 : decode cX0_bestPoint 70 = .ok (.istore 7, 2) := by decide +kernel
theorem dX0_bestPoint_72 : decode cX0_bestPoint 72 = .ok (.iload 7, 2) := by decide +kernel
theorem dX0_bestPoint_74 : decode cX0_bestPoint 74 = .ok (.ifCond .gt 6, 3) := by decide +kernel
theorem dX0_bestPoint_77 : decode cX0_bestPoint 77 = .ok (.goto 48, 3) := by decide +kernel
theorem dX0_bestPoint_80 : decode cX0_bestPoint 80 = .ok (.iload 6, 2) := by decide +kernel
theorem dX0_bestPoint_82 : decode cX0_bestPoint 82 = .ok (.i2l, 1) := by decide +kernel
theorem dX0_bestPoint_83 : decode cX0_bestPoint 83 = .ok (.iload 7, 2) := by decide +kernel
theorem dX0_bestPoint_85 : decode cX0_bestPoint 85 = .ok (.i2l, 1) := by decide +kernel
theorem dX0_bestPoint_86 : decode cX0_bestPoint 86 = .ok (.lmul, 1) := by decide +kernel
theorem dX0_bestPoint_87 : decode cX0_bestPoint 87 = .ok (.lload_n 3, 1) := by decide +kernel
theorem dX0_bestPoint_88 : decode cX0_bestPoint 88 = .ok (.lcmp, 1) := by decide +kernel
theorem dX0_bestPoint_89 : decode cX0_bestPoint 89 = .ok (.ifCond .le 15, 3) := by decide +kernel
theorem dX0_bestPoint_92 : decode cX0_bestPoint 92 = .ok (.iload 6, 2) := by decide +kernel
theorem dX0_bestPoint_94 : decode cX0_bestPoint 94 = .ok (.i2l, 1) := by decide +kernel
theorem dX0_bestPoint_95 : decode cX0_bestPoint 95 = .ok (.iload 7, 2) := by decide +kernel
theorem dX0_bestPoint_97 : decode cX0_bestPoint 97 = .ok (.i2l, 1) := by decide +kernel
theorem dX0_bestPoint_98 : decode cX0_bestPoint 98 = .ok (.lmul, 1) := by decide +kernel
theorem dX0_bestPoint_99 : decode cX0_bestPoint 99 = .ok (.lstore_n 3, 1) := by decide +kernel
theorem dX0_bestPoint_100 : decode cX0_bestPoint 100 = .ok (.iload 6, 2) := by decide +kernel
theorem dX0_bestPoint_102 : decode cX0_bestPoint 102 = .ok (.istore 5, 2) := by decide +kernel
theorem dX0_bestPoint_104 : decode cX0_bestPoint 104 = .ok (.iload 6, 2) := by decide +kernel
theorem dX0_bestPoint_106 : decode cX0_bestPoint 106 = .ok (.i2l, 1) := by decide +kernel
theorem dX0_bestPoint_107 : decode cX0_bestPoint 107 = .ok (.lconst 1, 1) := by decide +kernel
theorem dX0_bestPoint_108 : decode cX0_bestPoint 108 = .ok (.ladd, 1) := by decide +kernel
theorem dX0_bestPoint_109 : decode cX0_bestPoint 109 = .ok (.lload_n 3, 1) := by decide +kernel
theorem dX0_bestPoint_110 : decode cX0_bestPoint 110 = .ok (.iload 7, 2) := by decide +kernel
theorem dX0_bestPoint_112 : decode cX0_bestPoint 112 = .ok (.i2l, 1) := by decide +kernel
theorem dX0_bestPoint_113 : decode cX0_bestPoint 113 = .ok (.ldiv, 1) := by decide +kernel
theorem dX0_bestPoint_114 : decode cX0_bestPoint 114 = .ok (.lconst 1, 1) := by decide +kernel
theorem dX0_bestPoint_115 : decode cX0_bestPoint 115 = .ok (.ladd, 1) := by decide +kernel
theorem dX0_bestPoint_116 : decode cX0_bestPoint 116 = .ok (.invokestatic 28, 3) := by decide +kernel
theorem dX0_bestPoint_119 : decode cX0_bestPoint 119 = .ok (.l2i, 1) := by decide +kernel
theorem dX0_bestPoint_120 : decode cX0_bestPoint 120 = .ok (.istore 6, 2) := by decide +kernel
theorem dX0_bestPoint_122 : decode cX0_bestPoint 122 = .ok (.goto (-64), 3) := by decide +kernel
theorem dX0_bestPoint_125 : decode cX0_bestPoint 125 = .ok (.iload 5, 2) := by decide +kernel
theorem dX0_bestPoint_127 : decode cX0_bestPoint 127 = .ok (.ireturn, 1) := by decide +kernel
theorem dX1_init_0 : decode cX1_init 0 = .ok (.aload_n 0, 1) := by decide +kernel
theorem dX1_init_1 : decode cX1_init 1 = .ok (.invokespecial 3, 3) := by decide +kernel
theorem dX1_init_4 : decode cX1_init 4 = .ok (.aload_n 0, 1) := by decide +kernel
theorem dX1_init_5 : decode cX1_init 5 = .ok (.bipush 7, 2) := by decide +kernel
theorem dX1_init_7 : decode cX1_init 7 = .ok (.putfield 9, 3) := by decide +kernel
theorem dX1_init_10 : decode cX1_init 10 = .ok (.return_, 1) := by decide +kernel
theorem dX2_init_0 : decode cX2_init 0 = .ok (.aload_n 0, 1) := by decide +kernel
theorem dX2_init_1 : decode cX2_init 1 = .ok (.invokespecial 3, 3) := by decide +kernel
theorem dX2_init_4 : decode cX2_init 4 = .ok (.aload_n 0, 1) := by decide +kernel
theorem dX2_init_5 : decode cX2_init 5 = .ok (.iconst 0, 1) := by decide +kernel
theorem dX2_init_6 : decode cX2_init 6 = .ok (.putfield 9, 3) := by decide +kernel
theorem dX2_init_9 : decode cX2_init 9 = .ok (.aload_n 0, 1) := by decide +kernel
theorem dX2_init_10 : decode cX2_init 10 = .ok (.aload_n 1, 1) := by decide +kernel
theorem dX2_init_11 : decode cX2_init 11 = .ok (.putfield 15, 3) := by decide +kernel
theorem dX2_init_14 : decode cX2_init 14 = .ok (.return_, 1) := by decide +kernel
theorem dX2_valueAt_0 : decode cX2_valueAt 0 = .ok (.iconst 0, 1) := by decide +kernel
theorem dX2_valueAt_1 : decode cX2_valueAt 1 = .ok (.istore_n 2, 1) := by decide +kernel
theorem dX2_valueAt_2 : decode cX2_valueAt 2 = .ok (.iconst 0, 1) := by decide +kernel
theorem dX2_valueAt_3 : decode cX2_valueAt 3 = .ok (.istore_n 3, 1) := by decide +kernel
theorem dX2_valueAt_4 : decode cX2_valueAt 4 = .ok (.iload_n 3, 1) := by decide +kernel
theorem dX2_valueAt_5 : decode cX2_valueAt 5 = .ok (.aload_n 0, 1) := by decide +kernel
theorem dX2_valueAt_6 : decode cX2_valueAt 6 = .ok (.getfield 9, 3) := by decide +kernel
theorem dX2_valueAt_9 : decode cX2_valueAt 9 = .ok (.if_icmp .ge 22, 3) := by decide +kernel
theorem dX2_valueAt_12 : decode cX2_valueAt 12 = .ok (.iload_n 2, 1) := by decide +kernel
theorem dX2_valueAt_13 : decode cX2_valueAt 13 = .ok (.aload_n 0, 1) := by decide +kernel
theorem dX2_valueAt_14 : decode cX2_valueAt 14 = .ok (.getfield 15, 3) := by decide +kernel
theorem dX2_valueAt_17 : decode cX2_valueAt 17 = .ok (.iload_n 3, 1) := by decide +kernel
theorem dX2_valueAt_18 : decode cX2_valueAt 18 = .ok (.aaload, 1) := by decide +kernel
theorem dX2_valueAt_19 : decode cX2_valueAt 19 = .ok (.iload_n 1, 1) := by decide +kernel
theorem dX2_valueAt_20 : decode cX2_valueAt 20 = .ok (.invokevirtual 19, 3) := by decide +kernel
theorem dX2_valueAt_23 : decode cX2_valueAt 23 = .ok (.iadd, 1) := by decide +kernel
theorem dX2_valueAt_24 : decode cX2_valueAt 24 = .ok (.istore_n 2, 1) := by decide +kernel
theorem dX2_valueAt_25 : decode cX2_valueAt 25 = .ok (.iinc 3 1, 3) := by decide +kernel
theorem dX2_valueAt_28 : decode cX2_valueAt 28 = .ok (.goto (-24), 3) := by decide +kernel
theorem dX2_valueAt_31 : decode cX2_valueAt 31 = .ok (.iload_n 2, 1) := by decide +kernel
theorem dX2_valueAt_32 : decode cX2_valueAt 32 = .ok (.ireturn, 1) := by decide +kernel
theorem dX2_end_0 : decode cX2_end 0 = .ok (.sipush 7200, 3) := by decide +kernel
theorem dX2_end_3 : decode cX2_end 3 = .ok (.ireturn, 1) := by decide +kernel
theorem dX3_init_0 : decode cX3_init 0 = .ok (.aload_n 0, 1) := by decide +kernel
theorem dX3_init_1 : decode cX3_init 1 = .ok (.invokespecial 1, 3) := by decide +kernel
theorem dX3_init_4 : decode cX3_init 4 = .ok (.aload_n 0, 1) := by decide +kernel
theorem dX3_init_5 : decode cX3_init 5 = .ok (.iconst 0, 1) := by decide +kernel
theorem dX3_init_6 : decode cX3_init 6 = .ok (.putfield 7, 3) := by decide +kernel
theorem dX3_init_9 : decode cX3_init 9 = .ok (.aload_n 0, 1) := by decide +kernel
theorem dX3_init_10 : decode cX3_init 10 = .ok (.iconst 0, 1) := by decide +kernel
theorem dX3_init_11 : decode cX3_init 11 = .ok (.putfield 13, 3) := by decide +kernel
theorem dX3_init_14 : decode cX3_init 14 = .ok (.aload_n 0, 1) := by decide +kernel
theorem dX3_init_15 : decode cX3_init 15 = .ok (.iconst 0, 1) := by decide +kernel
theorem dX3_init_16 : decode cX3_init 16 = .ok (.putfield 16, 3) := by decide +kernel
theorem dX3_init_19 : decode cX3_init 19 = .ok (.aload_n 0, 1) := by decide +kernel
theorem dX3_init_20 : decode cX3_init 20 = .ok (.iconst 0, 1) := by decide +kernel
theorem dX3_init_21 : decode cX3_init 21 = .ok (.putfield 19, 3) := by decide +kernel
theorem dX3_init_24 : decode cX3_init 24 = .ok (.aload_n 0, 1) := by decide +kernel
theorem dX3_init_25 : decode cX3_init 25 = .ok (.iconst 0, 1) := by decide +kernel
theorem dX3_init_26 : decode cX3_init 26 = .ok (.putfield 22, 3) := by decide +kernel
theorem dX3_init_29 : decode cX3_init 29 = .ok (.aload_n 0, 1) := by decide +kernel
theorem dX3_init_30 : decode cX3_init 30 = .ok (.iconst 1, 1) := by decide +kernel
theorem dX3_init_31 : decode cX3_init 31 = .ok (.putfield 25, 3) := by decide +kernel
theorem dX3_init_34 : decode cX3_init 34 = .ok (.aload_n 0, 1) := by decide +kernel
theorem dX3_init_35 : decode cX3_init 35 = .ok (.iconst 0, 1) := by decide +kernel
theorem dX3_init_36 : decode cX3_init 36 = .ok (.putfield 29, 3) := by decide +kernel
theorem dX3_init_39 : decode cX3_init 39 = .ok (.aload_n 0, 1) := by decide +kernel
theorem dX3_init_40 : decode cX3_init 40 = .ok (.iconst 0, 1) := by decide +kernel
theorem dX3_init_41 : decode cX3_init 41 = .ok (.putfield 32, 3) := by decide +kernel
theorem dX3_init_44 : decode cX3_init 44 = .ok (.aload_n 0, 1) := by decide +kernel
theorem dX3_init_45 : decode cX3_init 45 = .ok (.aload_n 1, 1) := by decide +kernel
theorem dX3_init_46 : decode cX3_init 46 = .ok (.putfield 35, 3) := by decide +kernel
theorem dX3_init_49 : decode cX3_init 49 = .ok (.return_, 1) := by decide +kernel
theorem dX3_illuminate_0 : decode cX3_illuminate 0 = .ok (.aload_n 0, 1) := by decide +kernel
theorem dX3_illuminate_1 : decode cX3_illuminate 1 = .ok (.iload_n 1, 1) := by decide +kernel
theorem dX3_illuminate_2 : decode cX3_illuminate 2 = .ok (.putfield 16, 3) := by decide +kernel
theorem dX3_illuminate_5 : decode cX3_illuminate 5 = .ok (.aload_n 0, 1) := by decide +kernel
theorem dX3_illuminate_6 : decode cX3_illuminate 6 = .ok (.iload_n 1, 1) := by decide +kernel
theorem dX3_illuminate_7 : decode cX3_illuminate 7 = .ok (.aload_n 0, 1) := by decide +kernel
theorem dX3_illuminate_8 : decode cX3_illuminate 8 = .ok (.getfield 7, 3) := by decide +kernel
theorem dX3_illuminate_11 : decode cX3_illuminate 11 = .ok (.imul, 1) := by decide +kernel
theorem dX3_illuminate_12 : decode cX3_illuminate 12 = .ok (.sipush 1000, 3) := by decide +kernel
theorem dX3_illuminate_15 : decode cX3_illuminate 15 = .ok (.idiv, 1) := by decide +kernel
theorem dX3_illuminate_16 : decode cX3_illuminate 16 = .ok (.putfield 19, 3) := by decide +kernel
theorem dX3_illuminate_19 : decode cX3_illuminate 19 = .ok (.return_, 1) := by decide +kernel
theorem dX3_valueAt_0 : decode cX3_valueAt 0 = .ok (.iload_n 1, 1) := by decide +kernel
theorem dX3_valueAt_1 : decode cX3_valueAt 1 = .ok (.aload_n 0, 1) := by decide +kernel
theorem dX3_valueAt_2 : decode cX3_valueAt 2 = .ok (.getfield 19, 3) := by decide +kernel
theorem dX3_valueAt_5 : decode cX3_valueAt 5 = .ok (.if_icmp .le 12, 3) := by decide +kernel
theorem dX3_valueAt_8 : decode cX3_valueAt 8 = .ok (.aload_n 0, 1) := by decide +kernel
theorem dX3_valueAt_9 : decode cX3_valueAt 9 = .ok (.getfield 35, 3) := by decide +kernel
theorem dX3_valueAt_12 : decode cX3_valueAt 12 = .ok (.getfield 39, 3) := by decide +kernel
theorem dX3_valueAt_15 : decode cX3_valueAt 15 = .ok (.ineg, 1) := by decide +kernel
theorem dX3_valueAt_16 : decode cX3_valueAt 16 = .ok (.ireturn, 1) := by decide +kernel
theorem dX3_valueAt_17 : decode cX3_valueAt 17 = .ok (.aload_n 0, 1) := by decide +kernel
theorem dX3_valueAt_18 : decode cX3_valueAt 18 = .ok (.getfield 13, 3) := by decide +kernel
theorem dX3_valueAt_21 : decode cX3_valueAt 21 = .ok (.aload_n 0, 1) := by decide +kernel
theorem dX3_valueAt_22 : decode cX3_valueAt 22 = .ok (.getfield 22, 3) := by decide +kernel
theorem dX3_valueAt_25 : decode cX3_valueAt 25 = .ok (.iload_n 1, 1) := by decide +kernel
theorem dX3_valueAt_26 : decode cX3_valueAt 26 = .ok (.imul, 1) := by decide +kernel
theorem dX3_valueAt_27 : decode cX3_valueAt 27 = .ok (.sipush 10000, 3) := by decide +kernel
theorem dX3_valueAt_30 : decode cX3_valueAt 30 = .ok (.idiv, 1) := by decide +kernel
theorem dX3_valueAt_31 : decode cX3_valueAt 31 = .ok (.isub, 1) := by decide +kernel
theorem dX3_valueAt_32 : decode cX3_valueAt 32 = .ok (.istore_n 2, 1) := by decide +kernel
theorem dX3_valueAt_33 : decode cX3_valueAt 33 = .ok (.iload_n 2, 1) := by decide +kernel
theorem dX3_valueAt_34 : decode cX3_valueAt 34 = .ok (.ifCond .le 7, 3) := by decide +kernel
theorem dX3_valueAt_37 : decode cX3_valueAt 37 = .ok (.iload_n 2, 1) := by decide +kernel
theorem dX3_valueAt_38 : decode cX3_valueAt 38 = .ok (.goto 4, 3) := by decide +kernel
theorem dX3_valueAt_41 : decode cX3_valueAt 41 = .ok (.iconst 0, 1) := by decide +kernel
theorem dX3_valueAt_42 : decode cX3_valueAt 42 = .ok (.ireturn, 1) := by decide +kernel
theorem dX3_end_0 : decode cX3_end 0 = .ok (.aload_n 0, 1) := by decide +kernel
theorem dX3_end_1 : decode cX3_end 1 = .ok (.getfield 19, 3) := by decide +kernel
theorem dX3_end_4 : decode cX3_end 4 = .ok (.ireturn, 1) := by decide +kernel
theorem dX4_init_0 : decode cX4_init 0 = .ok (.aload_n 0, 1) := by decide +kernel
theorem dX4_init_1 : decode cX4_init 1 = .ok (.invokespecial 3, 3) := by decide +kernel
theorem dX4_init_4 : decode cX4_init 4 = .ok (.aload_n 0, 1) := by decide +kernel
theorem dX4_init_5 : decode cX4_init 5 = .ok (.bipush 12, 2) := by decide +kernel
theorem dX4_init_7 : decode cX4_init 7 = .ok (.newarray .int, 2) := by decide +kernel
theorem dX4_init_9 : decode cX4_init 9 = .ok (.putfield 9, 3) := by decide +kernel
theorem dX4_init_12 : decode cX4_init 12 = .ok (.aload_n 0, 1) := by decide +kernel
theorem dX4_init_13 : decode cX4_init 13 = .ok (.iconst 0, 1) := by decide +kernel
theorem dX4_init_14 : decode cX4_init 14 = .ok (.putfield 15, 3) := by decide +kernel
theorem dX4_init_17 : decode cX4_init 17 = .ok (.aload_n 0, 1) := by decide +kernel
theorem dX4_init_18 : decode cX4_init 18 = .ok (.aload_n 1, 1) := by decide +kernel
theorem dX4_init_19 : decode cX4_init 19 = .ok (.putfield 19, 3) := by decide +kernel
theorem dX4_init_22 : decode cX4_init 22 = .ok (.return_, 1) := by decide +kernel
theorem dX4_isFull_0 : decode cX4_isFull 0 = .ok (.aload_n 0, 1) := by decide +kernel
theorem dX4_isFull_1 : decode cX4_isFull 1 = .ok (.getfield 15, 3) := by decide +kernel
theorem dX4_isFull_4 : decode cX4_isFull 4 = .ok (.bipush 12, 2) := by decide +kernel
theorem dX4_isFull_6 : decode cX4_isFull 6 = .ok (.if_icmp .lt 7, 3) := by decide +kernel
theorem dX4_isFull_9 : decode cX4_isFull 9 = .ok (.iconst 1, 1) := by decide +kernel
theorem dX4_isFull_10 : decode cX4_isFull 10 = .ok (.goto 4, 3) := by decide +kernel
theorem dX4_isFull_13 : decode cX4_isFull 13 = .ok (.iconst 0, 1) := by decide +kernel
theorem dX4_isFull_14 : decode cX4_isFull 14 = .ok (.ireturn, 1) := by decide +kernel
theorem dX4_valueAt_0 : decode cX4_valueAt 0 = .ok (.iconst 0, 1) := by decide +kernel
theorem dX4_valueAt_1 : decode cX4_valueAt 1 = .ok (.istore_n 2, 1) := by decide +kernel
theorem dX4_valueAt_2 : decode cX4_valueAt 2 = .ok (.iconst 0, 1) := by decide +kernel
theorem dX4_valueAt_3 : decode cX4_valueAt 3 = .ok (.istore_n 3, 1) := by decide +kernel
theorem dX4_valueAt_4 : decode cX4_valueAt 4 = .ok (.iload_n 3, 1) := by decide +kernel
theorem dX4_valueAt_5 : decode cX4_valueAt 5 = .ok (.aload_n 0, 1) := by decide +kernel
theorem dX4_valueAt_6 : decode cX4_valueAt 6 = .ok (.getfield 15, 3) := by decide +kernel
theorem dX4_valueAt_9 : decode cX4_valueAt 9 = .ok (.if_icmp .ge 27, 3) := by decide +kernel
theorem dX4_valueAt_12 : decode cX4_valueAt 12 = .ok (.iload_n 2, 1) := by decide +kernel
theorem dX4_valueAt_13 : decode cX4_valueAt 13 = .ok (.aload_n 0, 1) := by decide +kernel
theorem dX4_valueAt_14 : decode cX4_valueAt 14 = .ok (.getfield 19, 3) := by decide +kernel
theorem dX4_valueAt_17 : decode cX4_valueAt 17 = .ok (.aload_n 0, 1) := by decide +kernel
theorem dX4_valueAt_18 : decode cX4_valueAt 18 = .ok (.getfield 9, 3) := by decide +kernel
theorem dX4_valueAt_21 : decode cX4_valueAt 21 = .ok (.iload_n 3, 1) := by decide +kernel
theorem dX4_valueAt_22 : decode cX4_valueAt 22 = .ok (.iaload, 1) := by decide +kernel
theorem dX4_valueAt_23 : decode cX4_valueAt 23 = .ok (.aaload, 1) := by decide +kernel
theorem dX4_valueAt_24 : decode cX4_valueAt 24 = .ok (.iload_n 1, 1) := by decide +kernel
theorem dX4_valueAt_25 : decode cX4_valueAt 25 = .ok (.invokevirtual 23, 3) := by decide +kernel
theorem dX4_valueAt_28 : decode cX4_valueAt 28 = .ok (.iadd, 1) := by decide +kernel
theorem dX4_valueAt_29 : decode cX4_valueAt 29 = .ok (.istore_n 2, 1) := by decide +kernel
theorem dX4_valueAt_30 : decode cX4_valueAt 30 = .ok (.iinc 3 1, 3) := by decide +kernel
theorem dX4_valueAt_33 : decode cX4_valueAt 33 = .ok (.goto (-29), 3) := by decide +kernel
theorem dX4_valueAt_36 : decode cX4_valueAt 36 = .ok (.iload_n 2, 1) := by decide +kernel
theorem dX4_valueAt_37 : decode cX4_valueAt 37 = .ok (.ireturn, 1) := by decide +kernel
theorem dX4_end_0 : decode cX4_end 0 = .ok (.iconst 0, 1) := by decide +kernel
theorem dX4_end_1 : decode cX4_end 1 = .ok (.istore_n 1, 1) := by decide +kernel
theorem dX4_end_2 : decode cX4_end 2 = .ok (.sipush 1200, 3) := by decide +kernel
theorem dX4_end_5 : decode cX4_end 5 = .ok (.istore_n 2, 1) := by decide +kernel
theorem dX4_end_6 : decode cX4_end 6 = .ok (.iconst 0, 1) := by decide +kernel
theorem dX4_end_7 : decode cX4_end 7 = .ok (.istore_n 3, 1) := by decide +kernel
theorem dX4_end_8 : decode cX4_end 8 = .ok (.iload_n 3, 1) := by decide +kernel
theorem dX4_end_9 : decode cX4_end 9 = .ok (.aload_n 0, 1) := by decide +kernel
theorem dX4_end_10 : decode cX4_end 10 = .ok (.getfield 15, 3) := by decide +kernel
theorem dX4_end_13 : decode cX4_end 13 = .ok (.if_icmp .ge 50, 3) := by decide +kernel
theorem dX4_end_16 : decode cX4_end 16 = .ok (.aload_n 0, 1) := by decide +kernel
theorem dX4_end_17 : decode cX4_end 17 = .ok (.getfield 19, 3) := by decide +kernel
theorem dX4_end_20 : decode cX4_end 20 = .ok (.aload_n 0, 1) := by decide +kernel
theorem dX4_end_21 : decode cX4_end 21 = .ok (.getfield 9, 3) := by decide +kernel
theorem dX4_end_24 : decode cX4_end 24 = .ok (.iload_n 3, 1) := by decide +kernel
theorem dX4_end_25 : decode cX4_end 25 = .ok (.iaload, 1) := by decide +kernel
theorem dX4_end_26 : decode cX4_end 26 = .ok (.aaload, 1) := by decide +kernel
theorem dX4_end_27 : decode cX4_end 27 = .ok (.astore 4, 2) := by decide +kernel
theorem dX4_end_29 : decode cX4_end 29 = .ok (.iload_n 1, 1) := by decide +kernel
theorem dX4_end_30 : decode cX4_end 30 = .ok (.aload 4, 2) := by decide +kernel
theorem dX4_end_32 : decode cX4_end 32 = .ok (.getfield 29, 3) := by decide +kernel
theorem dX4_end_35 : decode cX4_end 35 = .ok (.invokestatic 32, 3) := by decide +kernel
theorem dX4_end_38 : decode cX4_end 38 = .ok (.istore_n 1, 1) := by decide +kernel
theorem dX4_end_39 : decode cX4_end 39 = .ok (.aload 4, 2) := by decide +kernel
theorem dX4_end_41 : decode cX4_end 41 = .ok (.getfield 38, 3) := by decide +kernel
theorem dX4_end_44 : decode cX4_end 44 = .ok (.ifCond .ne 13, 3) := by decide +kernel
theorem dX4_end_47 : decode cX4_end 47 = .ok (.iload_n 2, 1) := by decide +kernel
theorem dX4_end_48 : decode cX4_end 48 = .ok (.aload 4, 2) := by decide +kernel
theorem dX4_end_50 : decode cX4_end 50 = .ok (.getfield 29, 3) := by decide +kernel
theorem dX4_end_53 : decode cX4_end 53 = .ok (.invokestatic 42, 3) := by decide +kernel
theorem dX4_end_56 : decode cX4_end 56 = .ok (.istore_n 2, 1) := by decide +kernel
theorem dX4_end_57 : decode cX4_end 57 = .ok (.iinc 3 1, 3) := by decide +kernel
theorem dX4_end_60 : decode cX4_end 60 = .ok (.goto (-52), 3) := by decide +kernel
theorem dX4_end_63 : decode cX4_end 63 = .ok (.iload_n 1, 1) := by decide +kernel
theorem dX4_end_64 : decode cX4_end 64 = .ok (.iload_n 2, 1) := by decide +kernel
theorem dX4_end_65 : decode cX4_end 65 = .ok (.invokestatic 42, 3) := by decide +kernel
theorem dX4_end_68 : decode cX4_end 68 = .ok (.ireturn, 1) := by decide +kernel
theorem dX4_bypassedAt_0 : decode cX4_bypassedAt 0 = .ok (.iconst 0, 1) := by decide +kernel
theorem dX4_bypassedAt_1 : decode cX4_bypassedAt 1 = .ok (.istore_n 2, 1) := by decide +kernel
theorem dX4_bypassedAt_2 : decode cX4_bypassedAt 2 = .ok (.iconst 0, 1) := by decide +kernel
theorem dX4_bypassedAt_3 : decode cX4_bypassedAt 3 = .ok (.istore_n 3, 1) := by decide +kernel
theorem dX4_bypassedAt_4 : decode cX4_bypassedAt 4 = .ok (.iload_n 3, 1) := by decide +kernel
theorem dX4_bypassedAt_5 : decode cX4_bypassedAt 5 = .ok (.aload_n 0, 1) := by decide +kernel
theorem dX4_bypassedAt_6 : decode cX4_bypassedAt 6 = .ok (.getfield 15, 3) := by decide +kernel
theorem dX4_bypassedAt_9 : decode cX4_bypassedAt 9 = .ok (.if_icmp .ge 33, 3) := by decide +kernel
theorem dX4_bypassedAt_12 : decode cX4_bypassedAt 12 = .ok (.iload_n 1, 1) := by decide +kernel
theorem dX4_bypassedAt_13 : decode cX4_bypassedAt 13 = .ok (.aload_n 0, 1) := by decide +kernel
theorem dX4_bypassedAt_14 : decode cX4_bypassedAt 14 = .ok (.getfield 19, 3) := by decide +kernel
theorem dX4_bypassedAt_17 : decode cX4_bypassedAt 17 = .ok (.aload_n 0, 1) := by decide +kernel
theorem dX4_bypassedAt_18 : decode cX4_bypassedAt 18 = .ok (.getfield 9, 3) := by decide +kernel
theorem dX4_bypassedAt_21 : decode cX4_bypassedAt 21 = .ok (.iload_n 3, 1) := by decide +kernel
theorem dX4_bypassedAt_22 : decode cX4_bypassedAt 22 = .ok (.iaload, 1) := by decide +kernel
theorem dX4_bypassedAt_23 : decode cX4_bypassedAt 23 = .ok (.aaload, 1) := by decide +kernel
theorem dX4_bypassedAt_24 : decode cX4_bypassedAt 24 = .ok (.getfield 29, 3) := by decide +kernel
theorem dX4_bypassedAt_27 : decode cX4_bypassedAt 27 = .ok (.if_icmp .le 9, 3) := by decide +kernel
theorem dX4_bypassedAt_30 : decode cX4_bypassedAt 30 = .ok (.iload_n 2, 1) := by decide +kernel
theorem dX4_bypassedAt_31 : decode cX4_bypassedAt 31 = .ok (.iconst 1, 1) := by decide +kernel
theorem dX4_bypassedAt_32 : decode cX4_bypassedAt 32 = .ok (.iload_n 3, 1) := by decide +kernel
theorem dX4_bypassedAt_33 : decode cX4_bypassedAt 33 = .ok (.ishl, 1) := by decide +kernel
theorem dX4_bypassedAt_34 : decode cX4_bypassedAt 34 = .ok (.ior, 1) := by decide +kernel
theorem dX4_bypassedAt_35 : decode cX4_bypassedAt 35 = .ok (.istore_n 2, 1) := by decide +kernel
theorem dX4_bypassedAt_36 : decode cX4_bypassedAt 36 = .ok (.iinc 3 1, 3) := by decide +kernel
theorem dX4_bypassedAt_39 : decode cX4_bypassedAt 39 = .ok (.goto (-35), 3) := by decide +kernel
theorem dX4_bypassedAt_42 : decode cX4_bypassedAt 42 = .ok (.iload_n 2, 1) := by decide +kernel
theorem dX4_bypassedAt_43 : decode cX4_bypassedAt 43 = .ok (.ireturn, 1) := by decide +kernel
theorem dX4_isPeak_0 : decode cX4_isPeak 0 = .ok (.aload_n 0, 1) := by decide +kernel
theorem dX4_isPeak_1 : decode cX4_isPeak 1 = .ok (.iload_n 1, 1) := by decide +kernel
theorem dX4_isPeak_2 : decode cX4_isPeak 2 = .ok (.invokevirtual 45, 3) := by decide +kernel
theorem dX4_isPeak_5 : decode cX4_isPeak 5 = .ok (.lstore_n 3, 1) := by decide +kernel
theorem dX4_isPeak_6 : decode cX4_isPeak 6 = .ok (.lload_n 3, 1) := by decide +kernel
theorem dX4_isPeak_7 : decode cX4_isPeak 7 = .ok (.aload_n 0, 1) := by decide +kernel
theorem dX4_isPeak_8 : decode cX4_isPeak 8 = .ok (.iload_n 1, 1) := by decide +kernel
theorem dX4_isPeak_9 : decode cX4_isPeak 9 = .ok (.iconst 1, 1) := by decide +kernel
theorem dX4_isPeak_10 : decode cX4_isPeak 10 = .ok (.isub, 1) := by decide +kernel
theorem dX4_isPeak_11 : decode cX4_isPeak 11 = .ok (.invokevirtual 45, 3) := by decide +kernel
theorem dX4_isPeak_14 : decode cX4_isPeak 14 = .ok (.lcmp, 1) := by decide +kernel
theorem dX4_isPeak_15 : decode cX4_isPeak 15 = .ok (.ifCond .le 24, 3) := by decide +kernel
theorem dX4_isPeak_18 : decode cX4_isPeak 18 = .ok (.iload_n 1, 1) := by decide +kernel
theorem dX4_isPeak_19 : decode cX4_isPeak 19 = .ok (.iload_n 2, 1) := by decide +kernel
theorem dX4_isPeak_20 : decode cX4_isPeak 20 = .ok (.if_icmp .eq 15, 3) := by decide +kernel
theorem dX4_isPeak_23 : decode cX4_isPeak 23 = .ok (.lload_n 3, 1) := by decide +kernel
theorem dX4_isPeak_24 : decode cX4_isPeak 24 = .ok (.aload_n 0, 1) := by decide +kernel
theorem dX4_isPeak_25 : decode cX4_isPeak 25 = .ok (.iload_n 1, 1) := by decide +kernel
theorem dX4_isPeak_26 : decode cX4_isPeak 26 = .ok (.iconst 1, 1) := by decide +kernel
theorem dX4_isPeak_27 : decode cX4_isPeak 27 = .ok (.iadd, 1) := by decide +kernel
theorem dX4_isPeak_28 : decode cX4_isPeak 28 = .ok (.invokevirtual 45, 3) := by decide +kernel
theorem dX4_isPeak_31 : decode cX4_isPeak 31 = .ok (.lcmp, 1) := by decide +kernel
theorem dX4_isPeak_32 : decode cX4_isPeak 32 = .ok (.ifCond .le 7, 3) := by decide +kernel
theorem dX4_isPeak_35 : decode cX4_isPeak 35 = .ok (.iconst 1, 1) := by decide +kernel
theorem dX4_isPeak_36 : decode cX4_isPeak 36 = .ok (.goto 4, 3) := by decide +kernel
theorem dX4_isPeak_39 : decode cX4_isPeak 39 = .ok (.iconst 0, 1) := by decide +kernel
theorem dX4_isPeak_40 : decode cX4_isPeak 40 = .ok (.ireturn, 1) := by decide +kernel
theorem dX4_bestOfScan_0 : decode cX4_bestOfScan 0 = .ok (.aload_n 0, 1) := by decide +kernel
theorem dX4_bestOfScan_1 : decode cX4_bestOfScan 1 = .ok (.invokevirtual 49, 3) := by decide +kernel
theorem dX4_bestOfScan_4 : decode cX4_bestOfScan 4 = .ok (.istore_n 2, 1) := by decide +kernel
theorem dX4_bestOfScan_5 : decode cX4_bestOfScan 5 = .ok (.iconst 0, 1) := by decide +kernel
theorem dX4_bestOfScan_6 : decode cX4_bestOfScan 6 = .ok (.istore_n 3, 1) := by decide +kernel
theorem dX4_bestOfScan_7 : decode cX4_bestOfScan 7 = .ok (.lconst 0, 1) := by decide +kernel
theorem dX4_bestOfScan_8 : decode cX4_bestOfScan 8 = .ok (.lstore 4, 2) := by decide +kernel
theorem dX4_bestOfScan_10 : decode cX4_bestOfScan 10 = .ok (.iconst 0, 1) := by decide +kernel
theorem dX4_bestOfScan_11 : decode cX4_bestOfScan 11 = .ok (.istore 6, 2) := by decide +kernel
theorem dX4_bestOfScan_13 : decode cX4_bestOfScan 13 = .ok (.iload 6, 2) := by decide +kernel
theorem dX4_bestOfScan_15 : decode cX4_bestOfScan 15 = .ok (.iload_n 2, 1) := by decide +kernel
theorem dX4_bestOfScan_16 : decode cX4_bestOfScan 16 = .ok (.if_icmp .gt 39, 3) := by decide +kernel
theorem dX4_bestOfScan_19 : decode cX4_bestOfScan 19 = .ok (.aload_n 0, 1) := by decide +kernel
theorem dX4_bestOfScan_20 : decode cX4_bestOfScan 20 = .ok (.iload 6, 2) := by decide +kernel
theorem dX4_bestOfScan_22 : decode cX4_bestOfScan 22 = .ok (.invokevirtual 45, 3) := by decide +kernel
theorem dX4_bestOfScan_25 : decode cX4_bestOfScan 25 = .ok (.lstore 7, 2) := by decide +kernel
theorem dX4_bestOfScan_27 : decode cX4_bestOfScan 27 = .ok (.lload 7, 2) := by decide +kernel
theorem dX4_bestOfScan_29 : decode cX4_bestOfScan 29 = .ok (.lload 4, 2) := by decide +kernel
theorem dX4_bestOfScan_31 : decode cX4_bestOfScan 31 = .ok (.lcmp, 1) := by decide +kernel
theorem dX4_bestOfScan_32 : decode cX4_bestOfScan 32 = .ok (.ifCond .le 10, 3) := by decide +kernel
theorem dX4_bestOfScan_35 : decode cX4_bestOfScan 35 = .ok (.lload 7, 2) := by decide +kernel
theorem dX4_bestOfScan_37 : decode cX4_bestOfScan 37 = .ok (.lstore 4, 2) := by decide +kernel
theorem dX4_bestOfScan_39 : decode cX4_bestOfScan 39 = .ok (.iload 6, 2) := by decide +kernel
theorem dX4_bestOfScan_41 : decode cX4_bestOfScan 41 = .ok (.istore_n 3, 1) := by decide +kernel
theorem dX4_bestOfScan_42 : decode cX4_bestOfScan 42 = .ok (.iload 6, 2) := by decide +kernel
theorem dX4_bestOfScan_44 : decode cX4_bestOfScan 44 = .ok (.iload_n 1, 1) := by decide +kernel
theorem dX4_bestOfScan_45 : decode cX4_bestOfScan 45 = .ok (.iconst 1, 1) := by decide +kernel
theorem dX4_bestOfScan_46 : decode cX4_bestOfScan 46 = .ok (.invokestatic 32, 3) := by decide +kernel
theorem dX4_bestOfScan_49 : decode cX4_bestOfScan 49 = .ok (.iadd, 1) := by decide +kernel
theorem dX4_bestOfScan_50 : decode cX4_bestOfScan 50 = .ok (.istore 6, 2) := by decide +kernel
theorem dX4_bestOfScan_52 : decode cX4_bestOfScan 52 = .ok (.goto (-39), 3) := by decide +kernel
theorem dX4_bestOfScan_55 : decode cX4_bestOfScan 55 = .ok (.iload_n 3, 1) := by decide +kernel
theorem dX4_bestOfScan_56 : decode cX4_bestOfScan 56 = .ok (.ireturn, 1) := by decide +kernel
theorem dX4_climbFrom_0 : decode cX4_climbFrom 0 = .ok (.aload_n 0, 1) := by decide +kernel
theorem dX4_climbFrom_1 : decode cX4_climbFrom 1 = .ok (.invokevirtual 49, 3) := by decide +kernel
theorem dX4_climbFrom_4 : decode cX4_climbFrom 4 = .ok (.istore_n 2, 1) := by decide +kernel
theorem dX4_climbFrom_5 : decode cX4_climbFrom 5 = .ok (.iload_n 1, 1) := by decide +kernel
theorem dX4_climbFrom_6 : decode cX4_climbFrom 6 = .ok (.istore_n 3, 1) := by decide +kernel
theorem dX4_climbFrom_7 : decode cX4_climbFrom 7 = .ok (.iconst 0, 1) := by decide +kernel
theorem dX4_climbFrom_8 : decode cX4_climbFrom 8 = .ok (.istore 4, 2) := by decide +kernel
theorem dX4_climbFrom_10 : decode cX4_climbFrom 10 = .ok (.iload 4, 2) := by decide +kernel
theorem dX4_climbFrom_12 : decode cX4_climbFrom 12 = .ok (.iload_n 2, 1) := by decide +kernel
theorem dX4_climbFrom_13 : decode cX4_climbFrom 13 = .ok (.if_icmp .ge 60, 3) := by decide +kernel
theorem dX4_climbFrom_16 : decode cX4_climbFrom 16 = .ok (.aload_n 0, 1) := by decide +kernel
theorem dX4_climbFrom_17 : decode cX4_climbFrom 17 = .ok (.iload_n 3, 1) := by decide +kernel
theorem dX4_climbFrom_18 : decode cX4_climbFrom 18 = .ok (.invokevirtual 45, 3) := by decide +kernel
theorem dX4_climbFrom_21 : decode cX4_climbFrom 21 = .ok (.lstore 5, 2) := by decide +kernel
theorem dX4_climbFrom_23 : decode cX4_climbFrom 23 = .ok (.iload_n 3, 1) := by decide +kernel
theorem dX4_climbFrom_24 : decode cX4_climbFrom 24 = .ok (.iload_n 2, 1) := by decide +kernel
theorem dX4_climbFrom_25 : decode cX4_climbFrom 25 = .ok (.if_icmp .ge 22, 3) := by decide +kernel
theorem dX4_climbFrom_28 : decode cX4_climbFrom 28 = .ok (.aload_n 0, 1) := by decide +kernel
theorem dX4_climbFrom_29 : decode cX4_climbFrom 29 = .ok (.iload_n 3, 1) := by decide +kernel
theorem dX4_climbFrom_30 : decode cX4_climbFrom 30 = .ok (.iconst 1, 1) := by decide +kernel
theorem dX4_climbFrom_31 : decode cX4_climbFrom 31 = .ok (.iadd, 1) := by decide +kernel
theorem dX4_climbFrom_32 : decode cX4_climbFrom 32 = .ok (.invokevirtual 45, 3) := by decide +kernel
theorem dX4_climbFrom_35 : decode cX4_climbFrom 35 = .ok (.lload 5, 2) := by decide +kernel
theorem dX4_climbFrom_37 : decode cX4_climbFrom 37 = .ok (.lcmp, 1) := by decide +kernel
theorem dX4_climbFrom_38 : decode cX4_climbFrom 38 = .ok (.ifCond .le 9, 3) := by decide +kernel
theorem dX4_climbFrom_41 : decode cX4_climbFrom 41 = .ok (.iinc 3 1, 3) := by decide +kernel
theorem dX4_climbFrom_44 : decode cX4_climbFrom 44 = .ok (.goto 23, 3) := by decide +kernel
theorem dX4_climbFrom_47 : decode cX4_climbFrom 47 = .ok (.iload_n 3, 1) := by decide +kernel
theorem dX4_climbFrom_48 : decode cX4_climbFrom 48 = .ok (.ifCond .le 25, 3) := by decide +kernel
theorem dX4_climbFrom_51 : decode cX4_climbFrom 51 = .ok (.aload_n 0, 1) := by decide +kernel
theorem dX4_climbFrom_52 : decode cX4_climbFrom 52 = .ok (.iload_n 3, 1) := by decide +kernel
theorem dX4_climbFrom_53 : decode cX4_climbFrom 53 = .ok (.iconst 1, 1) := by decide +kernel
theorem dX4_climbFrom_54 : decode cX4_climbFrom 54 = .ok (.isub, 1) := by decide +kernel
theorem dX4_climbFrom_55 : decode cX4_climbFrom 55 = .ok (.invokevirtual 45, 3) := by decide +kernel
theorem dX4_climbFrom_58 : decode cX4_climbFrom 58 = .ok (.lload 5, 2) := by decide +kernel
theorem dX4_climbFrom_60 : decode cX4_climbFrom 60 = .ok (.lcmp, 1) := by decide +kernel
theorem dX4_climbFrom_61 : decode cX4_climbFrom 61 = .ok (.ifCond .le 12, 3) := by decide +kernel
theorem dX4_climbFrom_64 : decode cX4_climbFrom 64 = .ok (.iinc 3 (-1), 3) := by decide +kernel
theorem dX4_climbFrom_67 : decode cX4_climbFrom 67 = .ok (.iinc 4 1, 3) := by decide +kernel
theorem dX4_climbFrom_70 : decode cX4_climbFrom 70 = .ok (.goto (-60), 3) := by decide +kernel
theorem dX4_climbFrom_73 : decode cX4_climbFrom 73 = .ok (.iload_n 3, 1) := by decide +kernel
theorem dX4_climbFrom_74 : decode cX4_climbFrom 74 = .ok (.ireturn, 1) := by decide +kernel
theorem dX4_deliveredAt_0 : decode cX4_deliveredAt 0 = .ok (.iconst 0, 1) := by decide +kernel
theorem dX4_deliveredAt_1 : decode cX4_deliveredAt 1 = .ok (.istore_n 2, 1) := by decide +kernel
theorem dX4_deliveredAt_2 : decode cX4_deliveredAt 2 = .ok (.aload_n 0, 1) := by decide +kernel
theorem dX4_deliveredAt_3 : decode cX4_deliveredAt 3 = .ok (.invokevirtual 49, 3) := by decide +kernel
theorem dX4_deliveredAt_6 : decode cX4_deliveredAt 6 = .ok (.istore_n 3, 1) := by decide +kernel
theorem dX4_deliveredAt_7 : decode cX4_deliveredAt 7 = .ok (.iload_n 2, 1) := by decide +kernel
theorem dX4_deliveredAt_8 : decode cX4_deliveredAt 8 = .ok (.iload_n 3, 1) := by decide +kernel
theorem dX4_deliveredAt_9 : decode cX4_deliveredAt 9 = .ok (.if_icmp .ge 36, 3) := by decide +kernel
theorem dX4_deliveredAt_12 : decode cX4_deliveredAt 12 = .ok (.iload_n 2, 1) := by decide +kernel
theorem dX4_deliveredAt_13 : decode cX4_deliveredAt 13 = .ok (.iload_n 3, 1) := by decide +kernel
theorem dX4_deliveredAt_14 : decode cX4_deliveredAt 14 = .ok (.iadd, 1) := by decide +kernel
theorem dX4_deliveredAt_15 : decode cX4_deliveredAt 15 = .ok (.iconst 1, 1) := by decide +kernel
theorem dX4_deliveredAt_16 : decode cX4_deliveredAt 16 = .ok (.iadd, 1) := by decide +kernel
theorem dX4_deliveredAt_17 : decode cX4_deliveredAt 17 = .ok (.iconst 2, 1) := by decide +kernel
theorem dX4_deliveredAt_18 : decode cX4_deliveredAt 18 = .ok (.idiv, 1) := by decide +kernel
theorem dX4_deliveredAt_19 : decode cX4_deliveredAt 19 = .ok (.istore 4, 2) := by decide +kernel
theorem dX4_deliveredAt_21 : decode cX4_deliveredAt 21 = .ok (.aload_n 0, 1) := by decide +kernel
theorem dX4_deliveredAt_22 : decode cX4_deliveredAt 22 = .ok (.iload 4, 2) := by decide +kernel
theorem dX4_deliveredAt_24 : decode cX4_deliveredAt 24 = .ok (.invokevirtual 53, 3) := by decide +kernel
theorem dX4_deliveredAt_27 : decode cX4_deliveredAt 27 = .ok (.iload_n 1, 1) := by decide +kernel
theorem dX4_deliveredAt_28 : decode cX4_deliveredAt 28 = .ok (.if_icmp .lt 9, 3) := by decide +kernel
theorem dX4_deliveredAt_31 : decode cX4_deliveredAt 31 = .ok (.iload 4, 2) := by decide +kernel
theorem dX4_deliveredAt_33 : decode cX4_deliveredAt 33 = .ok (.istore_n 2, 1) := by decide +kernel
theorem dX4_deliveredAt_34 : decode cX4_deliveredAt 34 = .ok (.goto 8, 3) := by decide +kernel
theorem dX4_deliveredAt_37 : decode cX4_deliveredAt 37 = .ok (.iload 4, 2) := by decide +kernel
theorem dX4_deliveredAt_39 : decode cX4_deliveredAt 39 = .ok (.iconst 1, 1) := by decide +kernel
theorem dX4_deliveredAt_40 : decode cX4_deliveredAt 40 = .ok (.isub, 1) := by decide +kernel
theorem dX4_deliveredAt_41 : decode cX4_deliveredAt 41 = .ok (.istore_n 3, 1) := by decide +kernel
theorem dX4_deliveredAt_42 : decode cX4_deliveredAt 42 = .ok (.goto (-35), 3) := by decide +kernel
theorem dX4_deliveredAt_45 : decode cX4_deliveredAt 45 = .ok (.iload_n 2, 1) := by decide +kernel
theorem dX4_deliveredAt_46 : decode cX4_deliveredAt 46 = .ok (.ireturn, 1) := by decide +kernel
theorem dJ9_max_7cf53_0 : decode cJ9_max_7cf53 0 = .ok (.iload_n 0, 1) := by decide +kernel
theorem dJ9_max_7cf53_1 : decode cJ9_max_7cf53 1 = .ok (.iload_n 1, 1) := by decide +kernel
theorem dJ9_max_7cf53_2 : decode cJ9_max_7cf53 2 = .ok (.if_icmp .lt 7, 3) := by decide +kernel
theorem dJ9_max_7cf53_5 : decode cJ9_max_7cf53 5 = .ok (.iload_n 0, 1) := by decide +kernel
theorem dJ9_max_7cf53_6 : decode cJ9_max_7cf53 6 = .ok (.goto 4, 3) := by decide +kernel
theorem dJ9_max_7cf53_9 : decode cJ9_max_7cf53 9 = .ok (.iload_n 1, 1) := by decide +kernel
theorem dJ9_max_7cf53_10 : decode cJ9_max_7cf53 10 = .ok (.ireturn, 1) := by decide +kernel
theorem dJ9_max_f86c9_0 : decode cJ9_max_f86c9 0 = .ok (.lload_n 0, 1) := by decide +kernel
theorem dJ9_max_f86c9_1 : decode cJ9_max_f86c9 1 = .ok (.lload_n 2, 1) := by decide +kernel
theorem dJ9_max_f86c9_2 : decode cJ9_max_f86c9 2 = .ok (.lcmp, 1) := by decide +kernel
theorem dJ9_max_f86c9_3 : decode cJ9_max_f86c9 3 = .ok (.ifCond .lt 7, 3) := by decide +kernel
theorem dJ9_max_f86c9_6 : decode cJ9_max_f86c9 6 = .ok (.lload_n 0, 1) := by decide +kernel
theorem dJ9_max_f86c9_7 : decode cJ9_max_f86c9 7 = .ok (.goto 4, 3) := by decide +kernel
theorem dJ9_max_f86c9_10 : decode cJ9_max_f86c9 10 = .ok (.lload_n 2, 1) := by decide +kernel
theorem dJ9_max_f86c9_11 : decode cJ9_max_f86c9 11 = .ok (.lreturn, 1) := by decide +kernel
theorem dJ9_min_7cf53_0 : decode cJ9_min_7cf53 0 = .ok (.iload_n 0, 1) := by decide +kernel
theorem dJ9_min_7cf53_1 : decode cJ9_min_7cf53 1 = .ok (.iload_n 1, 1) := by decide +kernel
theorem dJ9_min_7cf53_2 : decode cJ9_min_7cf53 2 = .ok (.if_icmp .gt 7, 3) := by decide +kernel
theorem dJ9_min_7cf53_5 : decode cJ9_min_7cf53 5 = .ok (.iload_n 0, 1) := by decide +kernel
theorem dJ9_min_7cf53_6 : decode cJ9_min_7cf53 6 = .ok (.goto 4, 3) := by decide +kernel
theorem dJ9_min_7cf53_9 : decode cJ9_min_7cf53 9 = .ok (.iload_n 1, 1) := by decide +kernel
theorem dJ9_min_7cf53_10 : decode cJ9_min_7cf53 10 = .ok (.ireturn, 1) := by decide +kernel
end
section
theorem dX5_init_0 : decode cX5_init 0 = .ok (.aload_n 0, 1) := by decide +kernel
theorem dX5_init_1 : decode cX5_init 1 = .ok (.invokespecial 3, 3) := by decide +kernel
theorem dX5_init_4 : decode cX5_init 4 = .ok (.aload_n 0, 1) := by decide +kernel
theorem dX5_init_5 : decode cX5_init 5 = .ok (.iconst 0, 1) := by decide +kernel
theorem dX5_init_6 : decode cX5_init 6 = .ok (.putfield 9, 3) := by decide +kernel
theorem dX5_init_9 : decode cX5_init 9 = .ok (.aload_n 0, 1) := by decide +kernel
theorem dX5_init_10 : decode cX5_init 10 = .ok (.bipush 6, 2) := by decide +kernel
theorem dX5_init_12 : decode cX5_init 12 = .ok (.newarray .long, 2) := by decide +kernel
theorem dX5_init_14 : decode cX5_init 14 = .ok (.putfield 15, 3) := by decide +kernel
theorem dX5_init_17 : decode cX5_init 17 = .ok (.aload_n 0, 1) := by decide +kernel
theorem dX5_init_18 : decode cX5_init 18 = .ok (.lconst 0, 1) := by decide +kernel
theorem dX5_init_19 : decode cX5_init 19 = .ok (.putfield 19, 3) := by decide +kernel
theorem dX5_init_22 : decode cX5_init 22 = .ok (.aload_n 0, 1) := by decide +kernel
theorem dX5_init_23 : decode cX5_init 23 = .ok (.sipush (-1005), 3) := by decide +kernel
theorem dX5_init_26 : decode cX5_init 26 = .ok (.putfield 23, 3) := by decide +kernel
theorem dX5_init_29 : decode cX5_init 29 = .ok (.aload_n 0, 1) := by decide +kernel
theorem dX5_init_30 : decode cX5_init 30 = .ok (.sipush (-1005), 3) := by decide +kernel
theorem dX5_init_33 : decode cX5_init 33 = .ok (.putfield 26, 3) := by decide +kernel
theorem dX5_init_36 : decode cX5_init 36 = .ok (.aload_n 0, 1) := by decide +kernel
theorem dX5_init_37 : decode cX5_init 37 = .ok (.bipush 24, 2) := by decide +kernel
theorem dX5_init_39 : decode cX5_init 39 = .ok (.newarray .int, 2) := by decide +kernel
theorem dX5_init_41 : decode cX5_init 41 = .ok (.putfield 29, 3) := by decide +kernel
theorem dX5_init_44 : decode cX5_init 44 = .ok (.new 33, 3) := by decide +kernel
theorem dX5_init_47 : decode cX5_init 47 = .ok (.dup, 1) := by decide +kernel
theorem dX5_init_48 : decode cX5_init 48 = .ok (.invokespecial 35, 3) := by decide +kernel
theorem dX5_init_51 : decode cX5_init 51 = .ok (.astore_n 1, 1) := by decide +kernel
theorem dX5_init_52 : decode cX5_init 52 = .ok (.bipush 24, 2) := by decide +kernel
theorem dX5_init_54 : decode cX5_init 54 = .ok (.anewarray 36, 3) := by decide +kernel
theorem dX5_init_57 : decode cX5_init 57 = .ok (.astore_n 2, 1) := by decide +kernel
theorem dX5_init_58 : decode cX5_init 58 = .ok (.iconst 0, 1) := by decide +kernel
theorem dX5_init_59 : decode cX5_init 59 = .ok (.istore_n 3, 1) := by decide +kernel
theorem dX5_init_60 : decode cX5_init 60 = .ok (.iload_n 3, 1) := by decide +kernel
theorem dX5_init_61 : decode cX5_init 61 = .ok (.bipush 24, 2) := by decide +kernel
theorem dX5_init_63 : decode cX5_init 63 = .ok (.if_icmp .ge 20, 3) := by decide +kernel
theorem dX5_init_66 : decode cX5_init 66 = .ok (.aload_n 2, 1) := by decide +kernel
theorem dX5_init_67 : decode cX5_init 67 = .ok (.iload_n 3, 1) := by decide +kernel
theorem dX5_init_68 : decode cX5_init 68 = .ok (.new 36, 3) := by decide +kernel
theorem dX5_init_71 : decode cX5_init 71 = .ok (.dup, 1) := by decide +kernel
theorem dX5_init_72 : decode cX5_init 72 = .ok (.aload_n 1, 1) := by decide +kernel
theorem dX5_init_73 : decode cX5_init 73 = .ok (.invokespecial 38, 3) := by decide +kernel
theorem dX5_init_76 : decode cX5_init 76 = .ok (.aastore, 1) := by decide +kernel
theorem dX5_init_77 : decode cX5_init 77 = .ok (.iinc 3 1, 3) := by decide +kernel
theorem dX5_init_80 : decode cX5_init 80 = .ok (.goto (-20), 3) := by decide +kernel
theorem dX5_init_83 : decode cX5_init 83 = .ok (.bipush 6, 2) := by decide +kernel
theorem dX5_init_85 : decode cX5_init 85 = .ok (.anewarray 41, 3) := by decide +kernel
theorem dX5_init_88 : decode cX5_init 88 = .ok (.astore_n 3, 1) := by decide +kernel
theorem dX5_init_89 : decode cX5_init 89 = .ok (.iconst 0, 1) := by decide +kernel
theorem dX5_init_90 : decode cX5_init 90 = .ok (.istore 4, 2) := by decide +kernel
theorem dX5_init_92 : decode cX5_init 92 = .ok (.iload 4, 2) := by decide +kernel
theorem dX5_init_94 : decode cX5_init 94 = .ok (.bipush 6, 2) := by decide +kernel
theorem dX5_init_96 : decode cX5_init 96 = .ok (.if_icmp .ge 21, 3) := by decide +kernel
theorem dX5_init_99 : decode cX5_init 99 = .ok (.aload_n 3, 1) := by decide +kernel
theorem dX5_init_100 : decode cX5_init 100 = .ok (.iload 4, 2) := by decide +kernel
theorem dX5_init_102 : decode cX5_init 102 = .ok (.new 41, 3) := by decide +kernel
theorem dX5_init_105 : decode cX5_init 105 = .ok (.dup, 1) := by decide +kernel
theorem dX5_init_106 : decode cX5_init 106 = .ok (.aload_n 2, 1) := by decide +kernel
theorem dX5_init_107 : decode cX5_init 107 = .ok (.invokespecial 43, 3) := by decide +kernel
theorem dX5_init_110 : decode cX5_init 110 = .ok (.aastore, 1) := by decide +kernel
theorem dX5_init_111 : decode cX5_init 111 = .ok (.iinc 4 1, 3) := by decide +kernel
theorem dX5_init_114 : decode cX5_init 114 = .ok (.goto (-22), 3) := by decide +kernel
theorem dX5_init_117 : decode cX5_init 117 = .ok (.aload_n 0, 1) := by decide +kernel
theorem dX5_init_118 : decode cX5_init 118 = .ok (.new 46, 3) := by decide +kernel
theorem dX5_init_121 : decode cX5_init 121 = .ok (.dup, 1) := by decide +kernel
theorem dX5_init_122 : decode cX5_init 122 = .ok (.aload_n 3, 1) := by decide +kernel
theorem dX5_init_123 : decode cX5_init 123 = .ok (.invokespecial 48, 3) := by decide +kernel
theorem dX5_init_126 : decode cX5_init 126 = .ok (.putfield 51, 3) := by decide +kernel
theorem dX5_init_129 : decode cX5_init 129 = .ok (.aload_n 0, 1) := by decide +kernel
theorem dX5_init_130 : decode cX5_init 130 = .ok (.aload_n 1, 1) := by decide +kernel
theorem dX5_init_131 : decode cX5_init 131 = .ok (.putfield 55, 3) := by decide +kernel
theorem dX5_init_134 : decode cX5_init 134 = .ok (.aload_n 0, 1) := by decide +kernel
theorem dX5_init_135 : decode cX5_init 135 = .ok (.aload_n 2, 1) := by decide +kernel
theorem dX5_init_136 : decode cX5_init 136 = .ok (.putfield 59, 3) := by decide +kernel
theorem dX5_init_139 : decode cX5_init 139 = .ok (.aload_n 0, 1) := by decide +kernel
theorem dX5_init_140 : decode cX5_init 140 = .ok (.aload_n 3, 1) := by decide +kernel
theorem dX5_init_141 : decode cX5_init 141 = .ok (.putfield 63, 3) := by decide +kernel
theorem dX5_init_144 : decode cX5_init 144 = .ok (.return_, 1) := by decide +kernel
theorem dX5_addString_0 : decode cX5_addString 0 = .ok (.aload_n 0, 1) := by decide +kernel
theorem dX5_addString_1 : decode cX5_addString 1 = .ok (.getfield 51, 3) := by decide +kernel
theorem dX5_addString_4 : decode cX5_addString 4 = .ok (.getfield 67, 3) := by decide +kernel
theorem dX5_addString_7 : decode cX5_addString 7 = .ok (.bipush 6, 2) := by decide +kernel
theorem dX5_addString_9 : decode cX5_addString 9 = .ok (.if_icmp .lt 7, 3) := by decide +kernel
theorem dX5_addString_12 : decode cX5_addString 12 = .ok (.sipush (-1004), 3) := by decide +kernel
theorem dX5_addString_15 : decode cX5_addString 15 = .ok (.ireturn, 1) := by decide +kernel
theorem dX5_addString_16 : decode cX5_addString 16 = .ok (.aload_n 0, 1) := by decide +kernel
theorem dX5_addString_17 : decode cX5_addString 17 = .ok (.getfield 51, 3) := by decide +kernel
theorem dX5_addString_20 : decode cX5_addString 20 = .ok (.dup, 1) := by decide +kernel
theorem dX5_addString_21 : decode cX5_addString 21 = .ok (.getfield 67, 3) := by decide +kernel
theorem dX5_addString_24 : decode cX5_addString 24 = .ok (.iconst 1, 1) := by decide +kernel
theorem dX5_addString_25 : decode cX5_addString 25 = .ok (.iadd, 1) := by decide +kernel
theorem dX5_addString_26 : decode cX5_addString 26 = .ok (.putfield 67, 3) := by decide +kernel
theorem dX5_addString_29 : decode cX5_addString 29 = .ok (.aload_n 0, 1) := by decide +kernel
theorem dX5_addString_30 : decode cX5_addString 30 = .ok (.getfield 51, 3) := by decide +kernel
theorem dX5_addString_33 : decode cX5_addString 33 = .ok (.getfield 67, 3) := by decide +kernel
theorem dX5_addString_36 : decode cX5_addString 36 = .ok (.iconst 1, 1) := by decide +kernel
theorem dX5_addString_37 : decode cX5_addString 37 = .ok (.isub, 1) := by decide +kernel
theorem dX5_addString_38 : decode cX5_addString 38 = .ok (.ireturn, 1) := by decide +kernel
theorem dX5_addModule_0 : decode cX5_addModule 0 = .ok (.aload_n 0, 1) := by decide +kernel
theorem dX5_addModule_1 : decode cX5_addModule 1 = .ok (.iload_n 1, 1) := by decide +kernel
theorem dX5_addModule_2 : decode cX5_addModule 2 = .ok (.invokevirtual 70, 3) := by decide +kernel
theorem dX5_addModule_5 : decode cX5_addModule 5 = .ok (.ifCond .ne 7, 3) := by decide +kernel
theorem dX5_addModule_8 : decode cX5_addModule 8 = .ok (.sipush (-1001), 3) := by decide +kernel
theorem dX5_addModule_11 : decode cX5_addModule 11 = .ok (.ireturn, 1) := by decide +kernel
theorem dX5_addModule_12 : decode cX5_addModule 12 = .ok (.iload_n 2, 1) := by decide +kernel
theorem dX5_addModule_13 : decode cX5_addModule 13 = .ok (.iconst 1, 1) := by decide +kernel
theorem dX5_addModule_14 : decode cX5_addModule 14 = .ok (.sipush 1000, 3) := by decide +kernel
theorem dX5_addModule_17 : decode cX5_addModule 17 = .ok (.invokestatic 74, 3) := by decide +kernel
theorem dX5_addModule_20 : decode cX5_addModule 20 = .ok (.ifCond .eq 14, 3) := by decide +kernel
theorem dX5_addModule_23 : decode cX5_addModule 23 = .ok (.iload_n 3, 1) := by decide +kernel
theorem dX5_addModule_24 : decode cX5_addModule 24 = .ok (.iconst 1, 1) := by decide +kernel
theorem dX5_addModule_25 : decode cX5_addModule 25 = .ok (.sipush 600, 3) := by decide +kernel
theorem dX5_addModule_28 : decode cX5_addModule 28 = .ok (.invokestatic 74, 3) := by decide +kernel
theorem dX5_addModule_31 : decode cX5_addModule 31 = .ok (.ifCond .ne 7, 3) := by decide +kernel
theorem dX5_addModule_34 : decode cX5_addModule 34 = .ok (.sipush (-1003), 3) := by decide +kernel
theorem dX5_addModule_37 : decode cX5_addModule 37 = .ok (.ireturn, 1) := by decide +kernel
theorem dX5_addModule_38 : decode cX5_addModule 38 = .ok (.aload_n 0, 1) := by decide +kernel
theorem dX5_addModule_39 : decode cX5_addModule 39 = .ok (.getfield 9, 3) := by decide +kernel
theorem dX5_addModule_42 : decode cX5_addModule 42 = .ok (.bipush 24, 2) := by decide +kernel
theorem dX5_addModule_44 : decode cX5_addModule 44 = .ok (.if_icmp .ge 15, 3) := by decide +kernel
theorem dX5_addModule_47 : decode cX5_addModule 47 = .ok (.aload_n 0, 1) := by decide +kernel
theorem dX5_addModule_48 : decode cX5_addModule 48 = .ok (.getfield 63, 3) := by decide +kernel
theorem dX5_addModule_51 : decode cX5_addModule 51 = .ok (.iload_n 1, 1) := by decide +kernel
theorem dX5_addModule_52 : decode cX5_addModule 52 = .ok (.aaload, 1) := by decide +kernel
theorem dX5_addModule_53 : decode cX5_addModule 53 = .ok (.invokevirtual 78, 3) := by decide +kernel
theorem dX5_addModule_56 : decode cX5_addModule 56 = .ok (.ifCond .eq 7, 3) := by decide +kernel
theorem dX5_addModule_59 : decode cX5_addModule 59 = .ok (.sipush (-1004), 3) := by decide +kernel
theorem dX5_addModule_62 : decode cX5_addModule 62 = .ok (.ireturn, 1) := by decide +kernel
theorem dX5_addModule_63 : decode cX5_addModule 63 = .ok (.aload_n 0, 1) := by decide +kernel
theorem dX5_addModule_64 : decode cX5_addModule 64 = .ok (.getfield 9, 3) := by decide +kernel
theorem dX5_addModule_67 : decode cX5_addModule 67 = .ok (.istore 4, 2) := by decide +kernel
theorem dX5_addModule_69 : decode cX5_addModule 69 = .ok (.aload_n 0, 1) := by decide +kernel
theorem dX5_addModule_70 : decode cX5_addModule 70 = .ok (.dup, 1) := by decide +kernel
theorem dX5_addModule_71 : decode cX5_addModule 71 = .ok (.getfield 9, 3) := by decide +kernel
theorem dX5_addModule_74 : decode cX5_addModule 74 = .ok (.iconst 1, 1) := by decide +kernel
theorem dX5_addModule_75 : decode cX5_addModule 75 = .ok (.iadd, 1) := by decide +kernel
theorem dX5_addModule_76 : decode cX5_addModule 76 = .ok (.putfield 9, 3) := by decide +kernel
theorem dX5_addModule_79 : decode cX5_addModule 79 = .ok (.aload_n 0, 1) := by decide +kernel
theorem dX5_addModule_80 : decode cX5_addModule 80 = .ok (.getfield 59, 3) := by decide +kernel
theorem dX5_addModule_83 : decode cX5_addModule 83 = .ok (.iload 4, 2) := by decide +kernel
theorem dX5_addModule_85 : decode cX5_addModule 85 = .ok (.aaload, 1) := by decide +kernel
theorem dX5_addModule_86 : decode cX5_addModule 86 = .ok (.iload_n 2, 1) := by decide +kernel
theorem dX5_addModule_87 : decode cX5_addModule 87 = .ok (.putfield 82, 3) := by decide +kernel
theorem dX5_addModule_90 : decode cX5_addModule 90 = .ok (.aload_n 0, 1) := by decide +kernel
theorem dX5_addModule_91 : decode cX5_addModule 91 = .ok (.getfield 59, 3) := by decide +kernel
theorem dX5_addModule_94 : decode cX5_addModule 94 = .ok (.iload 4, 2) := by decide +kernel
theorem dX5_addModule_96 : decode cX5_addModule 96 = .ok (.aaload, 1) := by decide +kernel
theorem dX5_addModule_97 : decode cX5_addModule 97 = .ok (.iload_n 3, 1) := by decide +kernel
theorem dX5_addModule_98 : decode cX5_addModule 98 = .ok (.putfield 85, 3) := by decide +kernel
theorem dX5_addModule_101 : decode cX5_addModule 101 = .ok (.aload_n 0, 1) := by decide +kernel
theorem dX5_addModule_102 : decode cX5_addModule 102 = .ok (.getfield 59, 3) := by decide +kernel
theorem dX5_addModule_105 : decode cX5_addModule 105 = .ok (.iload 4, 2) := by decide +kernel
theorem dX5_addModule_107 : decode cX5_addModule 107 = .ok (.aaload, 1) := by decide +kernel
theorem dX5_addModule_108 : decode cX5_addModule 108 = .ok (.sipush 1000, 3) := by decide +kernel
theorem dX5_addModule_111 : decode cX5_addModule 111 = .ok (.invokevirtual 88, 3) := by decide +kernel
theorem dX5_addModule_114 : decode cX5_addModule 114 = .ok (.aload_n 0, 1) := by decide +kernel
theorem dX5_addModule_115 : decode cX5_addModule 115 = .ok (.iload 4, 2) := by decide +kernel
theorem dX5_addModule_117 : decode cX5_addModule 117 = .ok (.iload_n 1, 1) := by decide +kernel
theorem dX5_addModule_118 : decode cX5_addModule 118 = .ok (.invokevirtual 92, 3) := by decide +kernel
theorem dX5_addModule_121 : decode cX5_addModule 121 = .ok (.pop, 1) := by decide +kernel
theorem dX5_addModule_122 : decode cX5_addModule 122 = .ok (.iload 4, 2) := by decide +kernel
theorem dX5_addModule_124 : decode cX5_addModule 124 = .ok (.ireturn, 1) := by decide +kernel
theorem dX5_setIrradiance_0 : decode cX5_setIrradiance 0 = .ok (.aload_n 0, 1) := by decide +kernel
theorem dX5_setIrradiance_1 : decode cX5_setIrradiance 1 = .ok (.iload_n 1, 1) := by decide +kernel
theorem dX5_setIrradiance_2 : decode cX5_setIrradiance 2 = .ok (.invokevirtual 96, 3) := by decide +kernel
theorem dX5_setIrradiance_5 : decode cX5_setIrradiance 5 = .ok (.ifCond .ne 7, 3) := by decide +kernel
theorem dX5_setIrradiance_8 : decode cX5_setIrradiance 8 = .ok (.sipush (-1002), 3) := by decide +kernel
theorem dX5_setIrradiance_11 : decode cX5_setIrradiance 11 = .ok (.ireturn, 1) := by decide +kernel
theorem dX5_setIrradiance_12 : decode cX5_setIrradiance 12 = .ok (.iload_n 2, 1) := by decide +kernel
theorem dX5_setIrradiance_13 : decode cX5_setIrradiance 13 = .ok (.iconst 0, 1) := by decide +kernel
theorem dX5_setIrradiance_14 : decode cX5_setIrradiance 14 = .ok (.sipush 1200, 3) := by decide +kernel
theorem dX5_setIrradiance_17 : decode cX5_setIrradiance 17 = .ok (.invokestatic 74, 3) := by decide +kernel
theorem dX5_setIrradiance_20 : decode cX5_setIrradiance 20 = .ok (.ifCond .ne 7, 3) := by decide +kernel
theorem dX5_setIrradiance_23 : decode cX5_setIrradiance 23 = .ok (.sipush (-1003), 3) := by decide +kernel
theorem dX5_setIrradiance_26 : decode cX5_setIrradiance 26 = .ok (.ireturn, 1) := by decide +kernel
theorem dX5_setIrradiance_27 : decode cX5_setIrradiance 27 = .ok (.aload_n 0, 1) := by decide +kernel
theorem dX5_setIrradiance_28 : decode cX5_setIrradiance 28 = .ok (.getfield 59, 3) := by decide +kernel
theorem dX5_setIrradiance_31 : decode cX5_setIrradiance 31 = .ok (.iload_n 1, 1) := by decide +kernel
theorem dX5_setIrradiance_32 : decode cX5_setIrradiance 32 = .ok (.aaload, 1) := by decide +kernel
theorem dX5_setIrradiance_33 : decode cX5_setIrradiance 33 = .ok (.getfield 99, 3) := by decide +kernel
theorem dX5_setIrradiance_36 : decode cX5_setIrradiance 36 = .ok (.istore_n 3, 1) := by decide +kernel
theorem dX5_setIrradiance_37 : decode cX5_setIrradiance 37 = .ok (.aload_n 0, 1) := by decide +kernel
theorem dX5_setIrradiance_38 : decode cX5_setIrradiance 38 = .ok (.getfield 59, 3) := by decide +kernel
theorem dX5_setIrradiance_41 : decode cX5_setIrradiance 41 = .ok (.iload_n 1, 1) := by decide +kernel
theorem dX5_setIrradiance_42 : decode cX5_setIrradiance 42 = .ok (.aaload, 1) := by decide +kernel
theorem dX5_setIrradiance_43 : decode cX5_setIrradiance 43 = .ok (.iload_n 2, 1) := by decide +kernel
theorem dX5_setIrradiance_44 : decode cX5_setIrradiance 44 = .ok (.invokevirtual 88, 3) := by decide +kernel
theorem dX5_setIrradiance_47 : decode cX5_setIrradiance 47 = .ok (.iload_n 3, 1) := by decide +kernel
theorem dX5_setIrradiance_48 : decode cX5_setIrradiance 48 = .ok (.ireturn, 1) := by decide +kernel
theorem dX5_shade_0 : decode cX5_shade 0 = .ok (.aload_n 0, 1) := by decide +kernel
theorem dX5_shade_1 : decode cX5_shade 1 = .ok (.iload_n 1, 1) := by decide +kernel
theorem dX5_shade_2 : decode cX5_shade 2 = .ok (.invokevirtual 96, 3) := by decide +kernel
theorem dX5_shade_5 : decode cX5_shade 5 = .ok (.ifCond .eq 11, 3) := by decide +kernel
theorem dX5_shade_8 : decode cX5_shade 8 = .ok (.aload_n 0, 1) := by decide +kernel
theorem dX5_shade_9 : decode cX5_shade 9 = .ok (.iload_n 2, 1) := by decide +kernel
theorem dX5_shade_10 : decode cX5_shade 10 = .ok (.invokevirtual 96, 3) := by decide +kernel
theorem dX5_shade_13 : decode cX5_shade 13 = .ok (.ifCond .ne 7, 3) := by decide +kernel
theorem dX5_shade_16 : decode cX5_shade 16 = .ok (.sipush (-1002), 3) := by decide +kernel
theorem dX5_shade_19 : decode cX5_shade 19 = .ok (.ireturn, 1) := by decide +kernel
theorem dX5_shade_20 : decode cX5_shade 20 = .ok (.iload_n 1, 1) := by decide +kernel
theorem dX5_shade_21 : decode cX5_shade 21 = .ok (.iload_n 2, 1) := by decide +kernel
theorem dX5_shade_22 : decode cX5_shade 22 = .ok (.if_icmp .gt 13, 3) := by decide +kernel
theorem dX5_shade_25 : decode cX5_shade 25 = .ok (.iload_n 3, 1) := by decide +kernel
theorem dX5_shade_26 : decode cX5_shade 26 = .ok (.iconst 0, 1) := by decide +kernel
theorem dX5_shade_27 : decode cX5_shade 27 = .ok (.bipush 100, 2) := by decide +kernel
theorem dX5_shade_29 : decode cX5_shade 29 = .ok (.invokestatic 74, 3) := by decide +kernel
theorem dX5_shade_32 : decode cX5_shade 32 = .ok (.ifCond .ne 7, 3) := by decide +kernel
theorem dX5_shade_35 : decode cX5_shade 35 = .ok (.sipush (-1003), 3) := by decide +kernel
theorem dX5_shade_38 : decode cX5_shade 38 = .ok (.ireturn, 1) := by decide +kernel
theorem dX5_shade_39 : decode cX5_shade 39 = .ok (.iconst 0, 1) := by decide +kernel
theorem dX5_shade_40 : decode cX5_shade 40 = .ok (.istore 4, 2) := by decide +kernel
theorem dX5_shade_42 : decode cX5_shade 42 = .ok (.iload_n 1, 1) := by decide +kernel
theorem dX5_shade_43 : decode cX5_shade 43 = .ok (.istore 5, 2) := by decide +kernel
theorem dX5_shade_45 : decode cX5_shade 45 = .ok (.iload 5, 2) := by decide +kernel
theorem dX5_shade_47 : decode cX5_shade 47 = .ok (.iload_n 2, 1) := by decide +kernel
theorem dX5_shade_48 : decode cX5_shade 48 = .ok (.if_icmp .gt 59, 3) := by decide +kernel
theorem dX5_shade_51 : decode cX5_shade 51 = .ok (.aload_n 0, 1) := by decide +kernel
theorem dX5_shade_52 : decode cX5_shade 52 = .ok (.getfield 59, 3) := by decide +kernel
theorem dX5_shade_55 : decode cX5_shade 55 = .ok (.iload 5, 2) := by decide +kernel
theorem dX5_shade_57 : decode cX5_shade 57 = .ok (.aaload, 1) := by decide +kernel
theorem dX5_shade_58 : decode cX5_shade 58 = .ok (.getfield 99, 3) := by decide +kernel
theorem dX5_shade_61 : decode cX5_shade 61 = .ok (.istore 6, 2) := by decide +kernel
theorem dX5_shade_63 : decode cX5_shade 63 = .ok (.aload_n 0, 1) := by decide +kernel
theorem dX5_shade_64 : decode cX5_shade 64 = .ok (.getfield 59, 3) := by decide +kernel
theorem dX5_shade_67 : decode cX5_shade 67 = .ok (.iload 5, 2) := by decide +kernel
theorem dX5_shade_69 : decode cX5_shade 69 = .ok (.aaload, 1) := by decide +kernel
theorem dX5_shade_70 : decode cX5_shade 70 = .ok (.iload 6, 2) := by decide +kernel
theorem dX5_shade_72 : decode cX5_shade 72 = .ok (.bipush 100, 2) := by decide +kernel
theorem dX5_shade_74 : decode cX5_shade 74 = .ok (.iload_n 3, 1) := by decide +kernel
theorem dX5_shade_75 : decode cX5_shade 75 = .ok (.isub, 1) := by decide +kernel
theorem dX5_shade_76 : decode cX5_shade 76 = .ok (.imul, 1) := by decide +kernel
theorem dX5_shade_77 : decode cX5_shade 77 = .ok (.bipush 100, 2) := by decide +kernel
theorem dX5_shade_79 : decode cX5_shade 79 = .ok (.idiv, 1) := by decide +kernel
theorem dX5_shade_80 : decode cX5_shade 80 = .ok (.invokevirtual 88, 3) := by decide +kernel
theorem dX5_shade_83 : decode cX5_shade 83 = .ok (.aload_n 0, 1) := by decide +kernel
theorem dX5_shade_84 : decode cX5_shade 84 = .ok (.getfield 59, 3) := by decide +kernel
theorem dX5_shade_87 : decode cX5_shade 87 = .ok (.iload 5, 2) := by decide +kernel
theorem dX5_shade_89 : decode cX5_shade 89 = .ok (.aaload, 1) := by decide +kernel
theorem dX5_shade_90 : decode cX5_shade 90 = .ok (.getfield 99, 3) := by decide +kernel
theorem dX5_shade_93 : decode cX5_shade 93 = .ok (.iload 6, 2) := by decide +kernel
theorem dX5_shade_95 : decode cX5_shade 95 = .ok (.if_icmp .eq 6, 3) := by decide +kernel
theorem dX5_shade_98 : decode cX5_shade 98 = .ok (.iinc 4 1, 3) := by decide +kernel
theorem dX5_shade_101 : decode cX5_shade 101 = .ok (.iinc 5 1, 3) := by decide +kernel
theorem dX5_shade_104 : decode cX5_shade 104 = .ok (.goto (-59), 3) := by decide +kernel
theorem dX5_shade_107 : decode cX5_shade 107 = .ok (.iload 4, 2) := by decide +kernel
theorem dX5_shade_109 : decode cX5_shade 109 = .ok (.ireturn, 1) := by decide +kernel
theorem dX5_setResistance_0 : decode cX5_setResistance 0 = .ok (.aload_n 0, 1) := by decide +kernel
theorem dX5_setResistance_1 : decode cX5_setResistance 1 = .ok (.iload_n 1, 1) := by decide +kernel
theorem dX5_setResistance_2 : decode cX5_setResistance 2 = .ok (.invokevirtual 96, 3) := by decide +kernel
theorem dX5_setResistance_5 : decode cX5_setResistance 5 = .ok (.ifCond .ne 7, 3) := by decide +kernel
theorem dX5_setResistance_8 : decode cX5_setResistance 8 = .ok (.sipush (-1002), 3) := by decide +kernel
theorem dX5_setResistance_11 : decode cX5_setResistance 11 = .ok (.ireturn, 1) := by decide +kernel
theorem dX5_setResistance_12 : decode cX5_setResistance 12 = .ok (.iload_n 2, 1) := by decide +kernel
theorem dX5_setResistance_13 : decode cX5_setResistance 13 = .ok (.iconst 0, 1) := by decide +kernel
theorem dX5_setResistance_14 : decode cX5_setResistance 14 = .ok (.sipush 5000, 3) := by decide +kernel
theorem dX5_setResistance_17 : decode cX5_setResistance 17 = .ok (.invokestatic 74, 3) := by decide +kernel
theorem dX5_setResistance_20 : decode cX5_setResistance 20 = .ok (.ifCond .ne 7, 3) := by decide +kernel
theorem dX5_setResistance_23 : decode cX5_setResistance 23 = .ok (.sipush (-1003), 3) := by decide +kernel
theorem dX5_setResistance_26 : decode cX5_setResistance 26 = .ok (.ireturn, 1) := by decide +kernel
theorem dX5_setResistance_27 : decode cX5_setResistance 27 = .ok (.aload_n 0, 1) := by decide +kernel
theorem dX5_setResistance_28 : decode cX5_setResistance 28 = .ok (.getfield 59, 3) := by decide +kernel
theorem dX5_setResistance_31 : decode cX5_setResistance 31 = .ok (.iload_n 1, 1) := by decide +kernel
theorem dX5_setResistance_32 : decode cX5_setResistance 32 = .ok (.aaload, 1) := by decide +kernel
theorem dX5_setResistance_33 : decode cX5_setResistance 33 = .ok (.getfield 102, 3) := by decide +kernel
theorem dX5_setResistance_36 : decode cX5_setResistance 36 = .ok (.istore_n 3, 1) := by decide +kernel
theorem dX5_setResistance_37 : decode cX5_setResistance 37 = .ok (.aload_n 0, 1) := by decide +kernel
theorem dX5_setResistance_38 : decode cX5_setResistance 38 = .ok (.getfield 59, 3) := by decide +kernel
theorem dX5_setResistance_41 : decode cX5_setResistance 41 = .ok (.iload_n 1, 1) := by decide +kernel
theorem dX5_setResistance_42 : decode cX5_setResistance 42 = .ok (.aaload, 1) := by decide +kernel
theorem dX5_setResistance_43 : decode cX5_setResistance 43 = .ok (.iload_n 2, 1) := by decide +kernel
theorem dX5_setResistance_44 : decode cX5_setResistance 44 = .ok (.putfield 102, 3) := by decide +kernel
theorem dX5_setResistance_47 : decode cX5_setResistance 47 = .ok (.iload_n 3, 1) := by decide +kernel
theorem dX5_setResistance_48 : decode cX5_setResistance 48 = .ok (.ireturn, 1) := by decide +kernel
theorem dX5_setBypassDiode_0 : decode cX5_setBypassDiode 0 = .ok (.aload_n 0, 1) := by decide +kernel
theorem dX5_setBypassDiode_1 : decode cX5_setBypassDiode 1 = .ok (.iload_n 1, 1) := by decide +kernel
theorem dX5_setBypassDiode_2 : decode cX5_setBypassDiode 2 = .ok (.invokevirtual 96, 3) := by decide +kernel
theorem dX5_setBypassDiode_5 : decode cX5_setBypassDiode 5 = .ok (.ifCond .ne 7, 3) := by decide +kernel
theorem dX5_setBypassDiode_8 : decode cX5_setBypassDiode 8 = .ok (.sipush (-1002), 3) := by decide +kernel
theorem dX5_setBypassDiode_11 : decode cX5_setBypassDiode 11 = .ok (.ireturn, 1) := by decide +kernel
theorem dX5_setBypassDiode_12 : decode cX5_setBypassDiode 12 = .ok (.aload_n 0, 1) := by decide +kernel
theorem dX5_setBypassDiode_13 : decode cX5_setBypassDiode 13 = .ok (.getfield 59, 3) := by decide +kernel
theorem dX5_setBypassDiode_16 : decode cX5_setBypassDiode 16 = .ok (.iload_n 1, 1) := by decide +kernel
theorem dX5_setBypassDiode_17 : decode cX5_setBypassDiode 17 = .ok (.aaload, 1) := by decide +kernel
theorem dX5_setBypassDiode_18 : decode cX5_setBypassDiode 18 = .ok (.getfield 105, 3) := by decide +kernel
theorem dX5_setBypassDiode_21 : decode cX5_setBypassDiode 21 = .ok (.iload_n 2, 1) := by decide +kernel
theorem dX5_setBypassDiode_22 : decode cX5_setBypassDiode 22 = .ok (.if_icmp .ne 5, 3) := by decide +kernel
theorem dX5_setBypassDiode_25 : decode cX5_setBypassDiode 25 = .ok (.iconst 0, 1) := by decide +kernel
theorem dX5_setBypassDiode_26 : decode cX5_setBypassDiode 26 = .ok (.ireturn, 1) := by decide +kernel
theorem dX5_setBypassDiode_27 : decode cX5_setBypassDiode 27 = .ok (.aload_n 0, 1) := by decide +kernel
theorem dX5_setBypassDiode_28 : decode cX5_setBypassDiode 28 = .ok (.getfield 59, 3) := by decide +kernel
theorem dX5_setBypassDiode_31 : decode cX5_setBypassDiode 31 = .ok (.iload_n 1, 1) := by decide +kernel
theorem dX5_setBypassDiode_32 : decode cX5_setBypassDiode 32 = .ok (.aaload, 1) := by decide +kernel
theorem dX5_setBypassDiode_33 : decode cX5_setBypassDiode 33 = .ok (.iload_n 2, 1) := by decide +kernel
theorem dX5_setBypassDiode_34 : decode cX5_setBypassDiode 34 = .ok (.putfield 105, 3) := by decide +kernel
theorem dX5_setBypassDiode_37 : decode cX5_setBypassDiode 37 = .ok (.iconst 1, 1) := by decide +kernel
theorem dX5_setBypassDiode_38 : decode cX5_setBypassDiode 38 = .ok (.ireturn, 1) := by decide +kernel
theorem dX5_setDiodeDrop_0 : decode cX5_setDiodeDrop 0 = .ok (.iload_n 1, 1) := by decide +kernel
theorem dX5_setDiodeDrop_1 : decode cX5_setDiodeDrop 1 = .ok (.iconst 0, 1) := by decide +kernel
theorem dX5_setDiodeDrop_2 : decode cX5_setDiodeDrop 2 = .ok (.bipush 20, 2) := by decide +kernel
theorem dX5_setDiodeDrop_4 : decode cX5_setDiodeDrop 4 = .ok (.invokestatic 74, 3) := by decide +kernel
theorem dX5_setDiodeDrop_7 : decode cX5_setDiodeDrop 7 = .ok (.ifCond .ne 7, 3) := by decide +kernel
theorem dX5_setDiodeDrop_10 : decode cX5_setDiodeDrop 10 = .ok (.sipush (-1003), 3) := by decide +kernel
theorem dX5_setDiodeDrop_13 : decode cX5_setDiodeDrop 13 = .ok (.ireturn, 1) := by decide +kernel
theorem dX5_setDiodeDrop_14 : decode cX5_setDiodeDrop 14 = .ok (.aload_n 0, 1) := by decide +kernel
theorem dX5_setDiodeDrop_15 : decode cX5_setDiodeDrop 15 = .ok (.getfield 55, 3) := by decide +kernel
theorem dX5_setDiodeDrop_18 : decode cX5_setDiodeDrop 18 = .ok (.getfield 109, 3) := by decide +kernel
theorem dX5_setDiodeDrop_21 : decode cX5_setDiodeDrop 21 = .ok (.istore_n 2, 1) := by decide +kernel
theorem dX5_setDiodeDrop_22 : decode cX5_setDiodeDrop 22 = .ok (.aload_n 0, 1) := by decide +kernel
theorem dX5_setDiodeDrop_23 : decode cX5_setDiodeDrop 23 = .ok (.getfield 55, 3) := by decide +kernel
theorem dX5_setDiodeDrop_26 : decode cX5_setDiodeDrop 26 = .ok (.iload_n 1, 1) := by decide +kernel
theorem dX5_setDiodeDrop_27 : decode cX5_setDiodeDrop 27 = .ok (.putfield 109, 3) := by decide +kernel
theorem dX5_setDiodeDrop_30 : decode cX5_setDiodeDrop 30 = .ok (.iload_n 2, 1) := by decide +kernel
theorem dX5_setDiodeDrop_31 : decode cX5_setDiodeDrop 31 = .ok (.ireturn, 1) := by decide +kernel
theorem dX5_moveModule_0 : decode cX5_moveModule 0 = .ok (.aload_n 0, 1) := by decide +kernel
theorem dX5_moveModule_1 : decode cX5_moveModule 1 = .ok (.iload_n 1, 1) := by decide +kernel
theorem dX5_moveModule_2 : decode cX5_moveModule 2 = .ok (.invokevirtual 96, 3) := by decide +kernel
theorem dX5_moveModule_5 : decode cX5_moveModule 5 = .ok (.ifCond .ne 7, 3) := by decide +kernel
theorem dX5_moveModule_8 : decode cX5_moveModule 8 = .ok (.sipush (-1002), 3) := by decide +kernel
theorem dX5_moveModule_11 : decode cX5_moveModule 11 = .ok (.ireturn, 1) := by decide +kernel
theorem dX5_moveModule_12 : decode cX5_moveModule 12 = .ok (.aload_n 0, 1) := by decide +kernel
theorem dX5_moveModule_13 : decode cX5_moveModule 13 = .ok (.iload_n 2, 1) := by decide +kernel
theorem dX5_moveModule_14 : decode cX5_moveModule 14 = .ok (.invokevirtual 70, 3) := by decide +kernel
theorem dX5_moveModule_17 : decode cX5_moveModule 17 = .ok (.ifCond .ne 7, 3) := by decide +kernel
theorem dX5_moveModule_20 : decode cX5_moveModule 20 = .ok (.sipush (-1001), 3) := by decide +kernel
theorem dX5_moveModule_23 : decode cX5_moveModule 23 = .ok (.ireturn, 1) := by decide +kernel
theorem dX5_moveModule_24 : decode cX5_moveModule 24 = .ok (.aload_n 0, 1) := by decide +kernel
theorem dX5_moveModule_25 : decode cX5_moveModule 25 = .ok (.getfield 59, 3) := by decide +kernel
theorem dX5_moveModule_28 : decode cX5_moveModule 28 = .ok (.iload_n 1, 1) := by decide +kernel
theorem dX5_moveModule_29 : decode cX5_moveModule 29 = .ok (.aaload, 1) := by decide +kernel
theorem dX5_moveModule_30 : decode cX5_moveModule 30 = .ok (.getfield 112, 3) := by decide +kernel
theorem dX5_moveModule_33 : decode cX5_moveModule 33 = .ok (.iload_n 2, 1) := by decide +kernel
theorem dX5_moveModule_34 : decode cX5_moveModule 34 = .ok (.if_icmp .eq 19, 3) := by decide +kernel
theorem dX5_moveModule_37 : decode cX5_moveModule 37 = .ok (.aload_n 0, 1) := by decide +kernel
theorem dX5_moveModule_38 : decode cX5_moveModule 38 = .ok (.getfield 63, 3) := by decide +kernel
theorem dX5_moveModule_41 : decode cX5_moveModule 41 = .ok (.iload_n 2, 1) := by decide +kernel
theorem dX5_moveModule_42 : decode cX5_moveModule 42 = .ok (.aaload, 1) := by decide +kernel
theorem dX5_moveModule_43 : decode cX5_moveModule 43 = .ok (.invokevirtual 78, 3) := by decide +kernel
theorem dX5_moveModule_46 : decode cX5_moveModule 46 = .ok (.ifCond .eq 7, 3) := by decide +kernel
theorem dX5_moveModule_49 : decode cX5_moveModule 49 = .ok (.sipush (-1004), 3) := by decide +kernel
theorem dX5_moveModule_52 : decode cX5_moveModule 52 = .ok (.ireturn, 1) := by decide +kernel
theorem dX5_moveModule_53 : decode cX5_moveModule 53 = .ok (.aload_n 0, 1) := by decide +kernel
theorem dX5_moveModule_54 : decode cX5_moveModule 54 = .ok (.iload_n 1, 1) := by decide +kernel
theorem dX5_moveModule_55 : decode cX5_moveModule 55 = .ok (.invokevirtual 115, 3) := by decide +kernel
theorem dX5_moveModule_58 : decode cX5_moveModule 58 = .ok (.aload_n 0, 1) := by decide +kernel
theorem dX5_moveModule_59 : decode cX5_moveModule 59 = .ok (.iload_n 1, 1) := by decide +kernel
theorem dX5_moveModule_60 : decode cX5_moveModule 60 = .ok (.iload_n 2, 1) := by decide +kernel
theorem dX5_moveModule_61 : decode cX5_moveModule 61 = .ok (.invokevirtual 92, 3) := by decide +kernel
theorem dX5_moveModule_64 : decode cX5_moveModule 64 = .ok (.ireturn, 1) := by decide +kernel
theorem dX5_swapModules_0 : decode cX5_swapModules 0 = .ok (.aload_n 0, 1) := by decide +kernel
theorem dX5_swapModules_1 : decode cX5_swapModules 1 = .ok (.iload_n 1, 1) := by decide +kernel
theorem dX5_swapModules_2 : decode cX5_swapModules 2 = .ok (.invokevirtual 96, 3) := by decide +kernel
theorem dX5_swapModules_5 : decode cX5_swapModules 5 = .ok (.ifCond .eq 11, 3) := by decide +kernel
theorem dX5_swapModules_8 : decode cX5_swapModules 8 = .ok (.aload_n 0, 1) := by decide +kernel
theorem dX5_swapModules_9 : decode cX5_swapModules 9 = .ok (.iload_n 2, 1) := by decide +kernel
theorem dX5_swapModules_10 : decode cX5_swapModules 10 = .ok (.invokevirtual 96, 3) := by decide +kernel
theorem dX5_swapModules_13 : decode cX5_swapModules 13 = .ok (.ifCond .ne 7, 3) := by decide +kernel
theorem dX5_swapModules_16 : decode cX5_swapModules 16 = .ok (.sipush (-1002), 3) := by decide +kernel
theorem dX5_swapModules_19 : decode cX5_swapModules 19 = .ok (.ireturn, 1) := by decide +kernel
theorem dX5_swapModules_20 : decode cX5_swapModules 20 = .ok (.aload_n 0, 1) := by decide +kernel
theorem dX5_swapModules_21 : decode cX5_swapModules 21 = .ok (.iload_n 1, 1) := by decide +kernel
theorem dX5_swapModules_22 : decode cX5_swapModules 22 = .ok (.iload_n 2, 1) := by decide +kernel
theorem dX5_swapModules_23 : decode cX5_swapModules 23 = .ok (.invokevirtual 118, 3) := by decide +kernel
theorem dX5_swapModules_26 : decode cX5_swapModules 26 = .ok (.aload_n 0, 1) := by decide +kernel
theorem dX5_swapModules_27 : decode cX5_swapModules 27 = .ok (.getfield 59, 3) := by decide +kernel
theorem dX5_swapModules_30 : decode cX5_swapModules 30 = .ok (.iload_n 1, 1) := by decide +kernel
theorem dX5_swapModules_31 : decode cX5_swapModules 31 = .ok (.aaload, 1) := by decide +kernel
theorem dX5_swapModules_32 : decode cX5_swapModules 32 = .ok (.getfield 112, 3) := by decide +kernel
theorem dX5_swapModules_35 : decode cX5_swapModules 35 = .ok (.aload_n 0, 1) := by decide +kernel
theorem dX5_swapModules_36 : decode cX5_swapModules 36 = .ok (.getfield 59, 3) := by decide +kernel
theorem dX5_swapModules_39 : decode cX5_swapModules 39 = .ok (.iload_n 2, 1) := by decide +kernel
theorem dX5_swapModules_40 : decode cX5_swapModules 40 = .ok (.aaload, 1) := by decide +kernel
theorem dX5_swapModules_41 : decode cX5_swapModules 41 = .ok (.getfield 112, 3) := by decide +kernel
theorem dX5_swapModules_44 : decode cX5_swapModules 44 = .ok (.if_icmp .eq 7, 3) := by decide +kernel
theorem dX5_swapModules_47 : decode cX5_swapModules 47 = .ok (.iconst 1, 1) := by decide +kernel
theorem dX5_swapModules_48 : decode cX5_swapModules 48 = .ok (.goto 4, 3) := by decide +kernel
theorem dX5_swapModules_51 : decode cX5_swapModules 51 = .ok (.iconst 0, 1) := by decide +kernel
theorem dX5_swapModules_52 : decode cX5_swapModules 52 = .ok (.ireturn, 1) := by decide +kernel
theorem dX5_stringOf_0 : decode cX5_stringOf 0 = .ok (.aload_n 0, 1) := by decide +kernel
theorem dX5_stringOf_1 : decode cX5_stringOf 1 = .ok (.iload_n 1, 1) := by decide +kernel
theorem dX5_stringOf_2 : decode cX5_stringOf 2 = .ok (.invokevirtual 96, 3) := by decide +kernel
theorem dX5_stringOf_5 : decode cX5_stringOf 5 = .ok (.ifCond .eq 15, 3) := by decide +kernel
theorem dX5_stringOf_8 : decode cX5_stringOf 8 = .ok (.aload_n 0, 1) := by decide +kernel
theorem dX5_stringOf_9 : decode cX5_stringOf 9 = .ok (.getfield 59, 3) := by decide +kernel
theorem dX5_stringOf_12 : decode cX5_stringOf 12 = .ok (.iload_n 1, 1) := by decide +kernel
theorem dX5_stringOf_13 : decode cX5_stringOf 13 = .ok (.aaload, 1) := by decide +kernel
theorem dX5_stringOf_14 : decode cX5_stringOf 14 = .ok (.getfield 112, 3) := by decide +kernel
theorem dX5_stringOf_17 : decode cX5_stringOf 17 = .ok (.goto 6, 3) := by decide +kernel
theorem dX5_stringOf_20 : decode cX5_stringOf 20 = .ok (.sipush (-1002), 3) := by decide +kernel
theorem dX5_stringOf_23 : decode cX5_stringOf 23 = .ok (.ireturn, 1) := by decide +kernel
theorem dX5_moduleAt_0 : decode cX5_moduleAt 0 = .ok (.aload_n 0, 1) := by decide +kernel
theorem dX5_moduleAt_1 : decode cX5_moduleAt 1 = .ok (.iload_n 1, 1) := by decide +kernel
theorem dX5_moduleAt_2 : decode cX5_moduleAt 2 = .ok (.invokevirtual 70, 3) := by decide +kernel
theorem dX5_moduleAt_5 : decode cX5_moduleAt 5 = .ok (.ifCond .ne 7, 3) := by decide +kernel
theorem dX5_moduleAt_8 : decode cX5_moduleAt 8 = .ok (.sipush (-1001), 3) := by decide +kernel
theorem dX5_moduleAt_11 : decode cX5_moduleAt 11 = .ok (.ireturn, 1) := by decide +kernel
theorem dX5_moduleAt_12 : decode cX5_moduleAt 12 = .ok (.iload_n 2, 1) := by decide +kernel
theorem dX5_moduleAt_13 : decode cX5_moduleAt 13 = .ok (.ifCond .ge 7, 3) := by decide +kernel
theorem dX5_moduleAt_16 : decode cX5_moduleAt 16 = .ok (.sipush (-1003), 3) := by decide +kernel
theorem dX5_moduleAt_19 : decode cX5_moduleAt 19 = .ok (.ireturn, 1) := by decide +kernel
theorem dX5_moduleAt_20 : decode cX5_moduleAt 20 = .ok (.iload_n 2, 1) := by decide +kernel
theorem dX5_moduleAt_21 : decode cX5_moduleAt 21 = .ok (.aload_n 0, 1) := by decide +kernel
theorem dX5_moduleAt_22 : decode cX5_moduleAt 22 = .ok (.getfield 63, 3) := by decide +kernel
theorem dX5_moduleAt_25 : decode cX5_moduleAt 25 = .ok (.iload_n 1, 1) := by decide +kernel
theorem dX5_moduleAt_26 : decode cX5_moduleAt 26 = .ok (.aaload, 1) := by decide +kernel
theorem dX5_moduleAt_27 : decode cX5_moduleAt 27 = .ok (.getfield 122, 3) := by decide +kernel
theorem dX5_moduleAt_30 : decode cX5_moduleAt 30 = .ok (.if_icmp .ge 17, 3) := by decide +kernel
theorem dX5_moduleAt_33 : decode cX5_moduleAt 33 = .ok (.aload_n 0, 1) := by decide +kernel
theorem dX5_moduleAt_34 : decode cX5_moduleAt 34 = .ok (.getfield 63, 3) := by decide +kernel
theorem dX5_moduleAt_37 : decode cX5_moduleAt 37 = .ok (.iload_n 1, 1) := by decide +kernel
theorem dX5_moduleAt_38 : decode cX5_moduleAt 38 = .ok (.aaload, 1) := by decide +kernel
theorem dX5_moduleAt_39 : decode cX5_moduleAt 39 = .ok (.getfield 123, 3) := by decide +kernel
theorem dX5_moduleAt_42 : decode cX5_moduleAt 42 = .ok (.iload_n 2, 1) := by decide +kernel
theorem dX5_moduleAt_43 : decode cX5_moduleAt 43 = .ok (.iaload, 1) := by decide +kernel
theorem dX5_moduleAt_44 : decode cX5_moduleAt 44 = .ok (.goto 6, 3) := by decide +kernel
theorem dX5_moduleAt_47 : decode cX5_moduleAt 47 = .ok (.sipush (-1005), 3) := by decide +kernel
theorem dX5_moduleAt_50 : decode cX5_moduleAt 50 = .ok (.ireturn, 1) := by decide +kernel
theorem dX5_photocurrent_0 : decode cX5_photocurrent 0 = .ok (.aload_n 0, 1) := by decide +kernel
theorem dX5_photocurrent_1 : decode cX5_photocurrent 1 = .ok (.iload_n 1, 1) := by decide +kernel
theorem dX5_photocurrent_2 : decode cX5_photocurrent 2 = .ok (.invokevirtual 96, 3) := by decide +kernel
theorem dX5_photocurrent_5 : decode cX5_photocurrent 5 = .ok (.ifCond .eq 15, 3) := by decide +kernel
theorem dX5_photocurrent_8 : decode cX5_photocurrent 8 = .ok (.aload_n 0, 1) := by decide +kernel
theorem dX5_photocurrent_9 : decode cX5_photocurrent 9 = .ok (.getfield 59, 3) := by decide +kernel
theorem dX5_photocurrent_12 : decode cX5_photocurrent 12 = .ok (.iload_n 1, 1) := by decide +kernel
theorem dX5_photocurrent_13 : decode cX5_photocurrent 13 = .ok (.aaload, 1) := by decide +kernel
theorem dX5_photocurrent_14 : decode cX5_photocurrent 14 = .ok (.getfield 126, 3) := by decide +kernel
theorem dX5_photocurrent_17 : decode cX5_photocurrent 17 = .ok (.goto 6, 3) := by decide +kernel
theorem dX5_photocurrent_20 : decode cX5_photocurrent 20 = .ok (.sipush (-1002), 3) := by decide +kernel
theorem dX5_photocurrent_23 : decode cX5_photocurrent 23 = .ok (.ireturn, 1) := by decide +kernel
theorem dX5_moduleVoltage_0 : decode cX5_moduleVoltage 0 = .ok (.aload_n 0, 1) := by decide +kernel
theorem dX5_moduleVoltage_1 : decode cX5_moduleVoltage 1 = .ok (.iload_n 1, 1) := by decide +kernel
theorem dX5_moduleVoltage_2 : decode cX5_moduleVoltage 2 = .ok (.invokevirtual 96, 3) := by decide +kernel
theorem dX5_moduleVoltage_5 : decode cX5_moduleVoltage 5 = .ok (.ifCond .ne 7, 3) := by decide +kernel
theorem dX5_moduleVoltage_8 : decode cX5_moduleVoltage 8 = .ok (.sipush (-1002), 3) := by decide +kernel
theorem dX5_moduleVoltage_11 : decode cX5_moduleVoltage 11 = .ok (.ireturn, 1) := by decide +kernel
theorem dX5_moduleVoltage_12 : decode cX5_moduleVoltage 12 = .ok (.iload_n 2, 1) := by decide +kernel
theorem dX5_moduleVoltage_13 : decode cX5_moduleVoltage 13 = .ok (.iconst 0, 1) := by decide +kernel
theorem dX5_moduleVoltage_14 : decode cX5_moduleVoltage 14 = .ok (.sipush 1200, 3) := by decide +kernel
theorem dX5_moduleVoltage_17 : decode cX5_moduleVoltage 17 = .ok (.invokestatic 74, 3) := by decide +kernel
theorem dX5_moduleVoltage_20 : decode cX5_moduleVoltage 20 = .ok (.ifCond .ne 7, 3) := by decide +kernel
theorem dX5_moduleVoltage_23 : decode cX5_moduleVoltage 23 = .ok (.sipush (-1003), 3) := by decide +kernel
theorem dX5_moduleVoltage_26 : decode cX5_moduleVoltage 26 = .ok (.ireturn, 1) := by decide +kernel
theorem dX5_moduleVoltage_27 : decode cX5_moduleVoltage 27 = .ok (.iload_n 2, 1) := by decide +kernel
theorem dX5_moduleVoltage_28 : decode cX5_moduleVoltage 28 = .ok (.aload_n 0, 1) := by decide +kernel
theorem dX5_moduleVoltage_29 : decode cX5_moduleVoltage 29 = .ok (.getfield 59, 3) := by decide +kernel
theorem dX5_moduleVoltage_32 : decode cX5_moduleVoltage 32 = .ok (.iload_n 1, 1) := by decide +kernel
theorem dX5_moduleVoltage_33 : decode cX5_moduleVoltage 33 = .ok (.aaload, 1) := by decide +kernel
theorem dX5_moduleVoltage_34 : decode cX5_moduleVoltage 34 = .ok (.getfield 126, 3) := by decide +kernel
theorem dX5_moduleVoltage_37 : decode cX5_moduleVoltage 37 = .ok (.if_icmp .le 19, 3) := by decide +kernel
theorem dX5_moduleVoltage_40 : decode cX5_moduleVoltage 40 = .ok (.aload_n 0, 1) := by decide +kernel
theorem dX5_moduleVoltage_41 : decode cX5_moduleVoltage 41 = .ok (.getfield 59, 3) := by decide +kernel
theorem dX5_moduleVoltage_44 : decode cX5_moduleVoltage 44 = .ok (.iload_n 1, 1) := by decide +kernel
theorem dX5_moduleVoltage_45 : decode cX5_moduleVoltage 45 = .ok (.aaload, 1) := by decide +kernel
theorem dX5_moduleVoltage_46 : decode cX5_moduleVoltage 46 = .ok (.getfield 105, 3) := by decide +kernel
theorem dX5_moduleVoltage_49 : decode cX5_moduleVoltage 49 = .ok (.ifCond .ne 7, 3) := by decide +kernel
theorem dX5_moduleVoltage_52 : decode cX5_moduleVoltage 52 = .ok (.sipush (-1005), 3) := by decide +kernel
theorem dX5_moduleVoltage_55 : decode cX5_moduleVoltage 55 = .ok (.ireturn, 1) := by decide +kernel
theorem dX5_moduleVoltage_56 : decode cX5_moduleVoltage 56 = .ok (.aload_n 0, 1) := by decide +kernel
theorem dX5_moduleVoltage_57 : decode cX5_moduleVoltage 57 = .ok (.getfield 59, 3) := by decide +kernel
theorem dX5_moduleVoltage_60 : decode cX5_moduleVoltage 60 = .ok (.iload_n 1, 1) := by decide +kernel
theorem dX5_moduleVoltage_61 : decode cX5_moduleVoltage 61 = .ok (.aaload, 1) := by decide +kernel
theorem dX5_moduleVoltage_62 : decode cX5_moduleVoltage 62 = .ok (.iload_n 2, 1) := by decide +kernel
theorem dX5_moduleVoltage_63 : decode cX5_moduleVoltage 63 = .ok (.invokevirtual 129, 3) := by decide +kernel
theorem dX5_moduleVoltage_66 : decode cX5_moduleVoltage 66 = .ok (.ireturn, 1) := by decide +kernel
theorem dX5_modulePeakPower_0 : decode cX5_modulePeakPower 0 = .ok (.aload_n 0, 1) := by decide +kernel
theorem dX5_modulePeakPower_1 : decode cX5_modulePeakPower 1 = .ok (.iload_n 1, 1) := by decide +kernel
theorem dX5_modulePeakPower_2 : decode cX5_modulePeakPower 2 = .ok (.invokevirtual 96, 3) := by decide +kernel
theorem dX5_modulePeakPower_5 : decode cX5_modulePeakPower 5 = .ok (.ifCond .eq 15, 3) := by decide +kernel
theorem dX5_modulePeakPower_8 : decode cX5_modulePeakPower 8 = .ok (.aload_n 0, 1) := by decide +kernel
theorem dX5_modulePeakPower_9 : decode cX5_modulePeakPower 9 = .ok (.getfield 59, 3) := by decide +kernel
theorem dX5_modulePeakPower_12 : decode cX5_modulePeakPower 12 = .ok (.iload_n 1, 1) := by decide +kernel
theorem dX5_modulePeakPower_13 : decode cX5_modulePeakPower 13 = .ok (.aaload, 1) := by decide +kernel
theorem dX5_modulePeakPower_14 : decode cX5_modulePeakPower 14 = .ok (.invokevirtual 133, 3) := by decide +kernel
theorem dX5_modulePeakPower_17 : decode cX5_modulePeakPower 17 = .ok (.goto 6, 3) := by decide +kernel
theorem dX5_modulePeakPower_20 : decode cX5_modulePeakPower 20 = .ok (.ldc2_w 137, 3) := by decide +kernel
theorem dX5_modulePeakPower_23 : decode cX5_modulePeakPower 23 = .ok (.lreturn, 1) := by decide +kernel
theorem dX5_currentLimit_0 : decode cX5_currentLimit 0 = .ok (.aload_n 0, 1) := by decide +kernel
theorem dX5_currentLimit_1 : decode cX5_currentLimit 1 = .ok (.iload_n 1, 1) := by decide +kernel
theorem dX5_currentLimit_2 : decode cX5_currentLimit 2 = .ok (.invokevirtual 70, 3) := by decide +kernel
theorem dX5_currentLimit_5 : decode cX5_currentLimit 5 = .ok (.ifCond .eq 15, 3) := by decide +kernel
theorem dX5_currentLimit_8 : decode cX5_currentLimit 8 = .ok (.aload_n 0, 1) := by decide +kernel
theorem dX5_currentLimit_9 : decode cX5_currentLimit 9 = .ok (.getfield 63, 3) := by decide +kernel
theorem dX5_currentLimit_12 : decode cX5_currentLimit 12 = .ok (.iload_n 1, 1) := by decide +kernel
theorem dX5_currentLimit_13 : decode cX5_currentLimit 13 = .ok (.aaload, 1) := by decide +kernel
theorem dX5_currentLimit_14 : decode cX5_currentLimit 14 = .ok (.invokevirtual 139, 3) := by decide +kernel
theorem dX5_currentLimit_17 : decode cX5_currentLimit 17 = .ok (.goto 6, 3) := by decide +kernel
theorem dX5_currentLimit_20 : decode cX5_currentLimit 20 = .ok (.sipush (-1001), 3) := by decide +kernel
theorem dX5_currentLimit_23 : decode cX5_currentLimit 23 = .ok (.ireturn, 1) := by decide +kernel
theorem dX5_stringVoltage_0 : decode cX5_stringVoltage 0 = .ok (.aload_n 0, 1) := by decide +kernel
theorem dX5_stringVoltage_1 : decode cX5_stringVoltage 1 = .ok (.iload_n 1, 1) := by decide +kernel
theorem dX5_stringVoltage_2 : decode cX5_stringVoltage 2 = .ok (.invokevirtual 70, 3) := by decide +kernel
theorem dX5_stringVoltage_5 : decode cX5_stringVoltage 5 = .ok (.ifCond .ne 7, 3) := by decide +kernel
theorem dX5_stringVoltage_8 : decode cX5_stringVoltage 8 = .ok (.sipush (-1001), 3) := by decide +kernel
theorem dX5_stringVoltage_11 : decode cX5_stringVoltage 11 = .ok (.ireturn, 1) := by decide +kernel
theorem dX5_stringVoltage_12 : decode cX5_stringVoltage 12 = .ok (.iload_n 2, 1) := by decide +kernel
theorem dX5_stringVoltage_13 : decode cX5_stringVoltage 13 = .ok (.iconst 0, 1) := by decide +kernel
theorem dX5_stringVoltage_14 : decode cX5_stringVoltage 14 = .ok (.aload_n 0, 1) := by decide +kernel
theorem dX5_stringVoltage_15 : decode cX5_stringVoltage 15 = .ok (.getfield 63, 3) := by decide +kernel
theorem dX5_stringVoltage_18 : decode cX5_stringVoltage 18 = .ok (.iload_n 1, 1) := by decide +kernel
theorem dX5_stringVoltage_19 : decode cX5_stringVoltage 19 = .ok (.aaload, 1) := by decide +kernel
theorem dX5_stringVoltage_20 : decode cX5_stringVoltage 20 = .ok (.invokevirtual 139, 3) := by decide +kernel
theorem dX5_stringVoltage_23 : decode cX5_stringVoltage 23 = .ok (.invokestatic 74, 3) := by decide +kernel
theorem dX5_stringVoltage_26 : decode cX5_stringVoltage 26 = .ok (.ifCond .ne 7, 3) := by decide +kernel
theorem dX5_stringVoltage_29 : decode cX5_stringVoltage 29 = .ok (.sipush (-1003), 3) := by decide +kernel
theorem dX5_stringVoltage_32 : decode cX5_stringVoltage 32 = .ok (.ireturn, 1) := by decide +kernel
theorem dX5_stringVoltage_33 : decode cX5_stringVoltage 33 = .ok (.aload_n 0, 1) := by decide +kernel
theorem dX5_stringVoltage_34 : decode cX5_stringVoltage 34 = .ok (.getfield 63, 3) := by decide +kernel
theorem dX5_stringVoltage_37 : decode cX5_stringVoltage 37 = .ok (.iload_n 1, 1) := by decide +kernel
theorem dX5_stringVoltage_38 : decode cX5_stringVoltage 38 = .ok (.aaload, 1) := by decide +kernel
theorem dX5_stringVoltage_39 : decode cX5_stringVoltage 39 = .ok (.iload_n 2, 1) := by decide +kernel
theorem dX5_stringVoltage_40 : decode cX5_stringVoltage 40 = .ok (.invokevirtual 143, 3) := by decide +kernel
theorem dX5_stringVoltage_43 : decode cX5_stringVoltage 43 = .ok (.ireturn, 1) := by decide +kernel
theorem dX5_stringPower_0 : decode cX5_stringPower 0 = .ok (.aload_n 0, 1) := by decide +kernel
theorem dX5_stringPower_1 : decode cX5_stringPower 1 = .ok (.iload_n 1, 1) := by decide +kernel
theorem dX5_stringPower_2 : decode cX5_stringPower 2 = .ok (.invokevirtual 70, 3) := by decide +kernel
theorem dX5_stringPower_5 : decode cX5_stringPower 5 = .ok (.ifCond .eq 20, 3) := by decide +kernel
theorem dX5_stringPower_8 : decode cX5_stringPower 8 = .ok (.iload_n 2, 1) := by decide +kernel
theorem dX5_stringPower_9 : decode cX5_stringPower 9 = .ok (.iconst 0, 1) := by decide +kernel
theorem dX5_stringPower_10 : decode cX5_stringPower 10 = .ok (.aload_n 0, 1) := by decide +kernel
theorem dX5_stringPower_11 : decode cX5_stringPower 11 = .ok (.getfield 63, 3) := by decide +kernel
theorem dX5_stringPower_14 : decode cX5_stringPower 14 = .ok (.iload_n 1, 1) := by decide +kernel
theorem dX5_stringPower_15 : decode cX5_stringPower 15 = .ok (.aaload, 1) := by decide +kernel
theorem dX5_stringPower_16 : decode cX5_stringPower 16 = .ok (.invokevirtual 139, 3) := by decide +kernel
theorem dX5_stringPower_19 : decode cX5_stringPower 19 = .ok (.invokestatic 74, 3) := by decide +kernel
theorem dX5_stringPower_22 : decode cX5_stringPower 22 = .ok (.ifCond .ne 7, 3) := by decide +kernel
theorem dX5_stringPower_25 : decode cX5_stringPower 25 = .ok (.ldc2_w 137, 3) := by decide +kernel
theorem dX5_stringPower_28 : decode cX5_stringPower 28 = .ok (.lreturn, 1) := by decide +kernel
theorem dX5_stringPower_29 : decode cX5_stringPower 29 = .ok (.aload_n 0, 1) := by decide +kernel
theorem dX5_stringPower_30 : decode cX5_stringPower 30 = .ok (.getfield 63, 3) := by decide +kernel
theorem dX5_stringPower_33 : decode cX5_stringPower 33 = .ok (.iload_n 1, 1) := by decide +kernel
theorem dX5_stringPower_34 : decode cX5_stringPower 34 = .ok (.aaload, 1) := by decide +kernel
theorem dX5_stringPower_35 : decode cX5_stringPower 35 = .ok (.iload_n 2, 1) := by decide +kernel
theorem dX5_stringPower_36 : decode cX5_stringPower 36 = .ok (.invokevirtual 144, 3) := by decide +kernel
theorem dX5_stringPower_39 : decode cX5_stringPower 39 = .ok (.lreturn, 1) := by decide +kernel
theorem dX5_bypassedModules_0 : decode cX5_bypassedModules 0 = .ok (.aload_n 0, 1) := by decide +kernel
theorem dX5_bypassedModules_1 : decode cX5_bypassedModules 1 = .ok (.iload_n 1, 1) := by decide +kernel
theorem dX5_bypassedModules_2 : decode cX5_bypassedModules 2 = .ok (.invokevirtual 70, 3) := by decide +kernel
theorem dX5_bypassedModules_5 : decode cX5_bypassedModules 5 = .ok (.ifCond .ne 7, 3) := by decide +kernel
theorem dX5_bypassedModules_8 : decode cX5_bypassedModules 8 = .ok (.sipush (-1001), 3) := by decide +kernel
theorem dX5_bypassedModules_11 : decode cX5_bypassedModules 11 = .ok (.ireturn, 1) := by decide +kernel
theorem dX5_bypassedModules_12 : decode cX5_bypassedModules 12 = .ok (.iload_n 2, 1) := by decide +kernel
theorem dX5_bypassedModules_13 : decode cX5_bypassedModules 13 = .ok (.iconst 0, 1) := by decide +kernel
theorem dX5_bypassedModules_14 : decode cX5_bypassedModules 14 = .ok (.aload_n 0, 1) := by decide +kernel
theorem dX5_bypassedModules_15 : decode cX5_bypassedModules 15 = .ok (.getfield 63, 3) := by decide +kernel
theorem dX5_bypassedModules_18 : decode cX5_bypassedModules 18 = .ok (.iload_n 1, 1) := by decide +kernel
theorem dX5_bypassedModules_19 : decode cX5_bypassedModules 19 = .ok (.aaload, 1) := by decide +kernel
theorem dX5_bypassedModules_20 : decode cX5_bypassedModules 20 = .ok (.invokevirtual 139, 3) := by decide +kernel
theorem dX5_bypassedModules_23 : decode cX5_bypassedModules 23 = .ok (.invokestatic 74, 3) := by decide +kernel
theorem dX5_bypassedModules_26 : decode cX5_bypassedModules 26 = .ok (.ifCond .ne 7, 3) := by decide +kernel
theorem dX5_bypassedModules_29 : decode cX5_bypassedModules 29 = .ok (.sipush (-1003), 3) := by decide +kernel
theorem dX5_bypassedModules_32 : decode cX5_bypassedModules 32 = .ok (.ireturn, 1) := by decide +kernel
theorem dX5_bypassedModules_33 : decode cX5_bypassedModules 33 = .ok (.aload_n 0, 1) := by decide +kernel
theorem dX5_bypassedModules_34 : decode cX5_bypassedModules 34 = .ok (.getfield 63, 3) := by decide +kernel
theorem dX5_bypassedModules_37 : decode cX5_bypassedModules 37 = .ok (.iload_n 1, 1) := by decide +kernel
theorem dX5_bypassedModules_38 : decode cX5_bypassedModules 38 = .ok (.aaload, 1) := by decide +kernel
theorem dX5_bypassedModules_39 : decode cX5_bypassedModules 39 = .ok (.iload_n 2, 1) := by decide +kernel
theorem dX5_bypassedModules_40 : decode cX5_bypassedModules 40 = .ok (.invokevirtual 148, 3) := by decide +kernel
theorem dX5_bypassedModules_43 : decode cX5_bypassedModules 43 = .ok (.ireturn, 1) := by decide +kernel
theorem dX5_peakCount_0 : decode cX5_peakCount 0 = .ok (.aload_n 0, 1) := by decide +kernel
theorem dX5_peakCount_1 : decode cX5_peakCount 1 = .ok (.iload_n 1, 1) := by decide +kernel
theorem dX5_peakCount_2 : decode cX5_peakCount 2 = .ok (.invokevirtual 70, 3) := by decide +kernel
theorem dX5_peakCount_5 : decode cX5_peakCount 5 = .ok (.ifCond .ne 7, 3) := by decide +kernel
theorem dX5_peakCount_8 : decode cX5_peakCount 8 = .ok (.sipush (-1001), 3) := by decide +kernel
theorem dX5_peakCount_11 : decode cX5_peakCount 11 = .ok (.ireturn, 1) := by decide +kernel
theorem dX5_peakCount_12 : decode cX5_peakCount 12 = .ok (.aload_n 0, 1) := by decide +kernel
theorem dX5_peakCount_13 : decode cX5_peakCount 13 = .ok (.getfield 63, 3) := by decide +kernel
theorem dX5_peakCount_16 : decode cX5_peakCount 16 = .ok (.iload_n 1, 1) := by decide +kernel
theorem dX5_peakCount_17 : decode cX5_peakCount 17 = .ok (.aaload, 1) := by decide +kernel
theorem dX5_peakCount_18 : decode cX5_peakCount 18 = .ok (.invokevirtual 139, 3) := by decide +kernel
theorem dX5_peakCount_21 : decode cX5_peakCount 21 = .ok (.istore_n 2, 1) := by decide +kernel
theorem dX5_peakCount_22 : decode cX5_peakCount 22 = .ok (.iconst 0, 1) := by decide +kernel
theorem dX5_peakCount_23 : decode cX5_peakCount 23 = .ok (.istore_n 3, 1) := by decide +kernel
theorem dX5_peakCount_24 : decode cX5_peakCount 24 = .ok (.iconst 1, 1) := by decide +kernel
theorem dX5_peakCount_25 : decode cX5_peakCount 25 = .ok (.istore 4, 2) := by decide +kernel
theorem dX5_peakCount_27 : decode cX5_peakCount 27 = .ok (.iload 4, 2) := by decide +kernel
theorem dX5_peakCount_29 : decode cX5_peakCount 29 = .ok (.iload_n 2, 1) := by decide +kernel
theorem dX5_peakCount_30 : decode cX5_peakCount 30 = .ok (.if_icmp .gt 27, 3) := by decide +kernel
theorem dX5_peakCount_33 : decode cX5_peakCount 33 = .ok (.aload_n 0, 1) := by decide +kernel
theorem dX5_peakCount_34 : decode cX5_peakCount 34 = .ok (.getfield 63, 3) := by decide +kernel
theorem dX5_peakCount_37 : decode cX5_peakCount 37 = .ok (.iload_n 1, 1) := by decide +kernel
theorem dX5_peakCount_38 : decode cX5_peakCount 38 = .ok (.aaload, 1) := by decide +kernel
theorem dX5_peakCount_39 : decode cX5_peakCount 39 = .ok (.iload 4, 2) := by decide +kernel
theorem dX5_peakCount_41 : decode cX5_peakCount 41 = .ok (.iload_n 2, 1) := by decide +kernel
theorem dX5_peakCount_42 : decode cX5_peakCount 42 = .ok (.invokevirtual 151, 3) := by decide +kernel
theorem dX5_peakCount_45 : decode cX5_peakCount 45 = .ok (.ifCond .eq 6, 3) := by decide +kernel
theorem dX5_peakCount_48 : decode cX5_peakCount 48 = .ok (.iinc 3 1, 3) := by decide +kernel
theorem dX5_peakCount_51 : decode cX5_peakCount 51 = .ok (.iinc 4 1, 3) := by decide +kernel
theorem dX5_peakCount_54 : decode cX5_peakCount 54 = .ok (.goto (-27), 3) := by decide +kernel
theorem dX5_peakCount_57 : decode cX5_peakCount 57 = .ok (.iload_n 3, 1) := by decide +kernel
theorem dX5_peakCount_58 : decode cX5_peakCount 58 = .ok (.ireturn, 1) := by decide +kernel
theorem dX5_peakCurrent_0 : decode cX5_peakCurrent 0 = .ok (.aload_n 0, 1) := by decide +kernel
theorem dX5_peakCurrent_1 : decode cX5_peakCurrent 1 = .ok (.iload_n 1, 1) := by decide +kernel
theorem dX5_peakCurrent_2 : decode cX5_peakCurrent 2 = .ok (.invokevirtual 70, 3) := by decide +kernel
theorem dX5_peakCurrent_5 : decode cX5_peakCurrent 5 = .ok (.ifCond .ne 7, 3) := by decide +kernel
theorem dX5_peakCurrent_8 : decode cX5_peakCurrent 8 = .ok (.sipush (-1001), 3) := by decide +kernel
theorem dX5_peakCurrent_11 : decode cX5_peakCurrent 11 = .ok (.ireturn, 1) := by decide +kernel
theorem dX5_peakCurrent_12 : decode cX5_peakCurrent 12 = .ok (.iload_n 2, 1) := by decide +kernel
theorem dX5_peakCurrent_13 : decode cX5_peakCurrent 13 = .ok (.ifCond .ge 7, 3) := by decide +kernel
theorem dX5_peakCurrent_16 : decode cX5_peakCurrent 16 = .ok (.sipush (-1003), 3) := by decide +kernel
theorem dX5_peakCurrent_19 : decode cX5_peakCurrent 19 = .ok (.ireturn, 1) := by decide +kernel
theorem dX5_peakCurrent_20 : decode cX5_peakCurrent 20 = .ok (.aload_n 0, 1) := by decide +kernel
theorem dX5_peakCurrent_21 : decode cX5_peakCurrent 21 = .ok (.getfield 63, 3) := by decide +kernel
theorem dX5_peakCurrent_24 : decode cX5_peakCurrent 24 = .ok (.iload_n 1, 1) := by decide +kernel
theorem dX5_peakCurrent_25 : decode cX5_peakCurrent 25 = .ok (.aaload, 1) := by decide +kernel
theorem dX5_peakCurrent_26 : decode cX5_peakCurrent 26 = .ok (.invokevirtual 139, 3) := by decide +kernel
theorem dX5_peakCurrent_29 : decode cX5_peakCurrent 29 = .ok (.istore_n 3, 1) := by decide +kernel
theorem dX5_peakCurrent_30 : decode cX5_peakCurrent 30 = .ok (.iconst 0, 1) := by decide +kernel
theorem dX5_peakCurrent_31 : decode cX5_peakCurrent 31 = .ok (.istore 4, 2) := by decide +kernel
theorem dX5_peakCurrent_33 : decode cX5_peakCurrent 33 = .ok (.iconst 1, 1) := by decide +kernel
theorem dX5_peakCurrent_34 : decode cX5_peakCurrent 34 = .ok (.istore 5, 2) := by decide +kernel
theorem dX5_peakCurrent_36 : decode cX5_peakCurrent 36 = .ok (.iload 5, 2) := by decide +kernel
theorem dX5_peakCurrent_38 : decode cX5_peakCurrent 38 = .ok (.iload_n 3, 1) := by decide +kernel
theorem dX5_peakCurrent_39 : decode cX5_peakCurrent 39 = .ok (.if_icmp .gt 36, 3) := by decide +kernel
theorem dX5_peakCurrent_42 : decode cX5_peakCurrent 42 = .ok (.aload_n 0, 1) := by decide +kernel
theorem dX5_peakCurrent_43 : decode cX5_peakCurrent 43 = .ok (.getfield 63, 3) := by decide +kernel
theorem dX5_peakCurrent_46 : decode cX5_peakCurrent 46 = .ok (.iload_n 1, 1) := by decide +kernel
theorem dX5_peakCurrent_47 : decode cX5_peakCurrent 47 = .ok (.aaload, 1) := by decide +kernel
theorem dX5_peakCurrent_48 : decode cX5_peakCurrent 48 = .ok (.iload 5, 2) := by decide +kernel
theorem dX5_peakCurrent_50 : decode cX5_peakCurrent 50 = .ok (.iload_n 3, 1) := by decide +kernel
theorem dX5_peakCurrent_51 : decode cX5_peakCurrent 51 = .ok (.invokevirtual 151, 3) := by decide +kernel
theorem dX5_peakCurrent_54 : decode cX5_peakCurrent 54 = .ok (.ifCond .eq 15, 3) := by decide +kernel
theorem dX5_peakCurrent_57 : decode cX5_peakCurrent 57 = .ok (.iload 4, 2) := by decide +kernel
theorem dX5_peakCurrent_59 : decode cX5_peakCurrent 59 = .ok (.iload_n 2, 1) := by decide +kernel
theorem dX5_peakCurrent_60 : decode cX5_peakCurrent 60 = .ok (.if_icmp .ne 6, 3) := by decide +kernel
theorem dX5_peakCurrent_63 : decode cX5_peakCurrent 63 = .ok (.iload 5, 2) := by decide +kernel
theorem dX5_peakCurrent_65 : decode cX5_peakCurrent 65 = .ok (.ireturn, 1) := by decide +kernel
theorem dX5_peakCurrent_66 : decode cX5_peakCurrent 66 = .ok (.iinc 4 1, 3) := by decide +kernel
theorem dX5_peakCurrent_69 : decode cX5_peakCurrent 69 = .ok (.iinc 5 1, 3) := by decide +kernel
theorem dX5_peakCurrent_72 : decode cX5_peakCurrent 72 = .ok (.goto (-36), 3) := by decide +kernel
theorem dX5_peakCurrent_75 : decode cX5_peakCurrent 75 = .ok (.sipush (-1005), 3) := by decide +kernel
theorem dX5_peakCurrent_78 : decode cX5_peakCurrent 78 = .ok (.ireturn, 1) := by decide +kernel
theorem dX5_bestCurrent_0 : decode cX5_bestCurrent 0 = .ok (.aload_n 0, 1) := by decide +kernel
theorem dX5_bestCurrent_1 : decode cX5_bestCurrent 1 = .ok (.iload_n 1, 1) := by decide +kernel
theorem dX5_bestCurrent_2 : decode cX5_bestCurrent 2 = .ok (.invokevirtual 70, 3) := by decide +kernel
theorem dX5_bestCurrent_5 : decode cX5_bestCurrent 5 = .ok (.ifCond .eq 15, 3) := by decide +kernel
theorem dX5_bestCurrent_8 : decode cX5_bestCurrent 8 = .ok (.aload_n 0, 1) := by decide +kernel
theorem dX5_bestCurrent_9 : decode cX5_bestCurrent 9 = .ok (.getfield 63, 3) := by decide +kernel
theorem dX5_bestCurrent_12 : decode cX5_bestCurrent 12 = .ok (.iload_n 1, 1) := by decide +kernel
theorem dX5_bestCurrent_13 : decode cX5_bestCurrent 13 = .ok (.aaload, 1) := by decide +kernel
theorem dX5_bestCurrent_14 : decode cX5_bestCurrent 14 = .ok (.invokevirtual 155, 3) := by decide +kernel
theorem dX5_bestCurrent_17 : decode cX5_bestCurrent 17 = .ok (.goto 6, 3) := by decide +kernel
theorem dX5_bestCurrent_20 : decode cX5_bestCurrent 20 = .ok (.sipush (-1001), 3) := by decide +kernel
theorem dX5_bestCurrent_23 : decode cX5_bestCurrent 23 = .ok (.ireturn, 1) := by decide +kernel
theorem dX5_bestPower_0 : decode cX5_bestPower 0 = .ok (.aload_n 0, 1) := by decide +kernel
theorem dX5_bestPower_1 : decode cX5_bestPower 1 = .ok (.iload_n 1, 1) := by decide +kernel
theorem dX5_bestPower_2 : decode cX5_bestPower 2 = .ok (.invokevirtual 70, 3) := by decide +kernel
theorem dX5_bestPower_5 : decode cX5_bestPower 5 = .ok (.ifCond .eq 15, 3) := by decide +kernel
theorem dX5_bestPower_8 : decode cX5_bestPower 8 = .ok (.aload_n 0, 1) := by decide +kernel
theorem dX5_bestPower_9 : decode cX5_bestPower 9 = .ok (.getfield 63, 3) := by decide +kernel
theorem dX5_bestPower_12 : decode cX5_bestPower 12 = .ok (.iload_n 1, 1) := by decide +kernel
theorem dX5_bestPower_13 : decode cX5_bestPower 13 = .ok (.aaload, 1) := by decide +kernel
theorem dX5_bestPower_14 : decode cX5_bestPower 14 = .ok (.invokevirtual 158, 3) := by decide +kernel
theorem dX5_bestPower_17 : decode cX5_bestPower 17 = .ok (.goto 6, 3) := by decide +kernel
theorem dX5_bestPower_20 : decode cX5_bestPower 20 = .ok (.ldc2_w 137, 3) := by decide +kernel
theorem dX5_bestPower_23 : decode cX5_bestPower 23 = .ok (.lreturn, 1) := by decide +kernel
theorem dX5_perturbAndObserve_0 : decode cX5_perturbAndObserve 0 = .ok (.aload_n 0, 1) := by decide +kernel
theorem dX5_perturbAndObserve_1 : decode cX5_perturbAndObserve 1 = .ok (.iload_n 1, 1) := by decide +kernel
theorem dX5_perturbAndObserve_2 : decode cX5_perturbAndObserve 2 = .ok (.invokevirtual 70, 3) := by decide +kernel
theorem dX5_perturbAndObserve_5 : decode cX5_perturbAndObserve 5 = .ok (.ifCond .ne 7, 3) := by decide +kernel
theorem dX5_perturbAndObserve_8 : decode cX5_perturbAndObserve 8 = .ok (.sipush (-1001), 3) := by decide +kernel
theorem dX5_perturbAndObserve_11 : decode cX5_perturbAndObserve 11 = .ok (.ireturn, 1) := by decide +kernel
theorem dX5_perturbAndObserve_12 : decode cX5_perturbAndObserve 12 = .ok (.aload_n 0, 1) := by decide +kernel
theorem dX5_perturbAndObserve_13 : decode cX5_perturbAndObserve 13 = .ok (.getfield 63, 3) := by decide +kernel
theorem dX5_perturbAndObserve_16 : decode cX5_perturbAndObserve 16 = .ok (.iload_n 1, 1) := by decide +kernel
theorem dX5_perturbAndObserve_17 : decode cX5_perturbAndObserve 17 = .ok (.aaload, 1) := by decide +kernel
theorem dX5_perturbAndObserve_18 : decode cX5_perturbAndObserve 18 = .ok (.astore 5, 2) := by decide +kernel
theorem dX5_perturbAndObserve_20 : decode cX5_perturbAndObserve 20 = .ok (.aload 5, 2) := by decide +kernel
theorem dX5_perturbAndObserve_22 : decode cX5_perturbAndObserve 22 = .ok (.invokevirtual 139, 3) := by decide +kernel
theorem dX5_perturbAndObserve_25 : decode cX5_perturbAndObserve 25 = .ok (.istore 6, 2) := by decide +kernel
theorem dX5_perturbAndObserve_27 : decode cX5_perturbAndObserve 27 = .ok (.iload_n 2, 1) := by decide +kernel
theorem dX5_perturbAndObserve_28 : decode cX5_perturbAndObserve 28 = .ok (.iconst 0, 1) := by decide +kernel
theorem dX5_perturbAndObserve_29 : decode cX5_perturbAndObserve 29 = .ok (.iload 6, 2) := by decide +kernel
theorem dX5_perturbAndObserve_31 : decode cX5_perturbAndObserve 31 = .ok (.invokestatic 74, 3) := by decide +kernel
theorem dX5_perturbAndObserve_34 : decode cX5_perturbAndObserve 34 = .ok (.ifCond .eq 25, 3) := by decide +kernel
theorem dX5_perturbAndObserve_37 : decode cX5_perturbAndObserve 37 = .ok (.iload_n 3, 1) := by decide +kernel
theorem dX5_perturbAndObserve_38 : decode cX5_perturbAndObserve 38 = .ok (.iconst 1, 1) := by decide +kernel
theorem dX5_perturbAndObserve_39 : decode cX5_perturbAndObserve 39 = .ok (.bipush 100, 2) := by decide +kernel
theorem dX5_perturbAndObserve_41 : decode cX5_perturbAndObserve 41 = .ok (.invokestatic 74, 3) := by decide +kernel
theorem dX5_perturbAndObserve_44 : decode cX5_perturbAndObserve 44 = .ok (.ifCond .eq 15, 3) := by decide +kernel
theorem dX5_perturbAndObserve_47 : decode cX5_perturbAndObserve 47 = .ok (.iload 4, 2) := by decide +kernel
theorem dX5_perturbAndObserve_49 : decode cX5_perturbAndObserve 49 = .ok (.iconst 0, 1) := by decide +kernel
theorem dX5_perturbAndObserve_50 : decode cX5_perturbAndObserve 50 = .ok (.sipush 200, 3) := by decide +kernel
theorem dX5_perturbAndObserve_53 : decode cX5_perturbAndObserve 53 = .ok (.invokestatic 74, 3) := by decide +kernel
theorem dX5_perturbAndObserve_56 : decode cX5_perturbAndObserve 56 = .ok (.ifCond .ne 7, 3) := by decide +kernel
theorem dX5_perturbAndObserve_59 : decode cX5_perturbAndObserve 59 = .ok (.sipush (-1003), 3) := by decide +kernel
theorem dX5_perturbAndObserve_62 : decode cX5_perturbAndObserve 62 = .ok (.ireturn, 1) := by decide +kernel
theorem dX5_perturbAndObserve_63 : decode cX5_perturbAndObserve 63 = .ok (.iload_n 2, 1) := by decide +kernel
theorem dX5_perturbAndObserve_64 : decode cX5_perturbAndObserve 64 = .ok (.istore 7, 2) := by decide +kernel
theorem dX5_perturbAndObserve_66 : decode cX5_perturbAndObserve 66 = .ok (.iconst 1, 1) := by decide +kernel
theorem dX5_perturbAndObserve_67 : decode cX5_perturbAndObserve 67 = .ok (.istore 8, 2) := by decide +kernel
theorem dX5_perturbAndObserve_69 : decode cX5_perturbAndObserve 69 = .ok (.iconst 0, 1) := by decide +kernel
theorem dX5_perturbAndObserve_70 : decode cX5_perturbAndObserve 70 = .ok (.istore 9, 2) := by decide +kernel
theorem dX5_perturbAndObserve_72 : decode cX5_perturbAndObserve 72 = .ok (.iload 9, 2) := by decide +kernel
theorem dX5_perturbAndObserve_74 : decode cX5_perturbAndObserve 74 = .ok (.iload 4, 2) := by decide +kernel
theorem dX5_perturbAndObserve_76 : decode cX5_perturbAndObserve 76 = .ok (.if_icmp .ge 73, 3) := by decide +kernel
theorem dX5_perturbAndObserve_79 : decode cX5_perturbAndObserve 79 = .ok (.iload 8, 2) := by decide +kernel
theorem dX5_perturbAndObserve_81 : decode cX5_perturbAndObserve 81 = .ok (.ifCond .eq 15, 3) := by decide +kernel
theorem dX5_perturbAndObserve_84 : decode cX5_perturbAndObserve 84 = .ok (.iload 7, 2) := by decide +kernel
theorem dX5_perturbAndObserve_86 : decode cX5_perturbAndObserve 86 = .ok (.iload_n 3, 1) := by decide +kernel
theorem dX5_perturbAndObserve_87 : decode cX5_perturbAndObserve 87 = .ok (.iadd, 1) := by decide +kernel
theorem dX5_perturbAndObserve_88 : decode cX5_perturbAndObserve 88 = .ok (.iload 6, 2) := by decide +kernel
theorem dX5_perturbAndObserve_90 : decode cX5_perturbAndObserve 90 = .ok (.invokestatic 159, 3) := by decide +kernel
theorem dX5_perturbAndObserve_93 : decode cX5_perturbAndObserve 93 = .ok (.goto 11, 3) := by decide +kernel
theorem dX5_perturbAndObserve_96 : decode cX5_perturbAndObserve 96 = .ok (.iload 7, 2) := by decide +kernel
theorem dX5_perturbAndObserve_98 : decode cX5_perturbAndObserve 98 = .ok (.iload_n 3, 1) := by decide +kernel
theorem dX5_perturbAndObserve_99 : decode cX5_perturbAndObserve 99 = .ok (.isub, 1) := by decide +kernel
theorem dX5_perturbAndObserve_100 : decode cX5_perturbAndObserve 100 = .ok (.iconst 0, 1) := by decide +kernel
theorem dX5_perturbAndObserve_101 : decode cX5_perturbAndObserve 101 = .ok (.invokestatic 164, 3) := by decide +kernel
theorem dX5_perturbAndObserve_104 : decode cX5_perturbAndObserve 104 = .ok (.istore 10, 2) := by decide +kernel
theorem dX5_perturbAndObserve_106 : decode cX5_perturbAndObserve 106 = .ok (.aload 5, 2) := by decide +kernel
theorem dX5_perturbAndObserve_108 : decode cX5_perturbAndObserve 108 = .ok (.iload 10, 2) := by decide +kernel
theorem dX5_perturbAndObserve_110 : decode cX5_perturbAndObserve 110 = .ok (.invokevirtual 144, 3) := by decide +kernel
theorem dX5_perturbAndObserve_113 : decode cX5_perturbAndObserve 113 = .ok (.aload 5, 2) := by decide +kernel
theorem dX5_perturbAndObserve_115 : decode cX5_perturbAndObserve 115 = .ok (.iload 7, 2) := by decide +kernel
theorem dX5_perturbAndObserve_117 : decode cX5_perturbAndObserve 117 = .ok (.invokevirtual 144, 3) := by decide +kernel
theorem dX5_perturbAndObserve_120 : decode cX5_perturbAndObserve 120 = .ok (.lcmp, 1) := by decide +kernel
theorem dX5_perturbAndObserve_121 : decode cX5_perturbAndObserve 121 = .ok (.ifCond .le 10, 3) := by decide +kernel
theorem dX5_perturbAndObserve_124 : decode cX5_perturbAndObserve 124 = .ok (.iload 10, 2) := by decide +kernel
theorem dX5_perturbAndObserve_126 : decode cX5_perturbAndObserve 126 = .ok (.istore 7, 2) := by decide +kernel
theorem dX5_perturbAndObserve_128 : decode cX5_perturbAndObserve 128 = .ok (.goto 15, 3) := by decide +kernel
theorem dX5_perturbAndObserve_131 : decode cX5_perturbAndObserve 131 = .ok (.iload 8, 2) := by decide +kernel
theorem dX5_perturbAndObserve_133 : decode cX5_perturbAndObserve 133 = .ok (.ifCond .ne 7, 3) := by decide +kernel
theorem dX5_perturbAndObserve_136 : decode cX5_perturbAndObserve 136 = .ok (.iconst 1, 1) := by decide +kernel
theorem dX5_perturbAndObserve_137 : decode cX5_perturbAndObserve 137 = .ok (.goto 4, 3) := by decide +kernel
theorem dX5_perturbAndObserve_140 : decode cX5_perturbAndObserve 140 = .ok (.iconst 0, 1) := by decide +kernel
theorem dX5_perturbAndObserve_141 : decode cX5_perturbAndObserve 141 = .ok (.istore 8, 2) := by decide +kernel
theorem dX5_perturbAndObserve_143 : decode cX5_perturbAndObserve 143 = .ok (.iinc 9 1, 3) := by decide +kernel
theorem dX5_perturbAndObserve_146 : decode cX5_perturbAndObserve 146 = .ok (.goto (-74), 3) := by decide +kernel
theorem dX5_perturbAndObserve_149 : decode cX5_perturbAndObserve 149 = .ok (.iload 7, 2) := by decide +kernel
theorem dX5_perturbAndObserve_151 : decode cX5_perturbAndObserve 151 = .ok (.ireturn, 1) := by decide +kernel
theorem dX5_scanAndClimb_0 : decode cX5_scanAndClimb 0 = .ok (.aload_n 0, 1) := by decide +kernel
theorem dX5_scanAndClimb_1 : decode cX5_scanAndClimb 1 = .ok (.iload_n 1, 1) := by decide +kernel
theorem dX5_scanAndClimb_2 : decode cX5_scanAndClimb 2 = .ok (.invokevirtual 70, 3) := by decide +kernel
theorem dX5_scanAndClimb_5 : decode cX5_scanAndClimb 5 = .ok (.ifCond .ne 7, 3) := by decide +kernel
theorem dX5_scanAndClimb_8 : decode cX5_scanAndClimb 8 = .ok (.sipush (-1001), 3) := by decide +kernel
theorem dX5_scanAndClimb_11 : decode cX5_scanAndClimb 11 = .ok (.ireturn, 1) := by decide +kernel
theorem dX5_scanAndClimb_12 : decode cX5_scanAndClimb 12 = .ok (.iload_n 2, 1) := by decide +kernel
theorem dX5_scanAndClimb_13 : decode cX5_scanAndClimb 13 = .ok (.iconst 1, 1) := by decide +kernel
theorem dX5_scanAndClimb_14 : decode cX5_scanAndClimb 14 = .ok (.sipush 500, 3) := by decide +kernel
theorem dX5_scanAndClimb_17 : decode cX5_scanAndClimb 17 = .ok (.invokestatic 74, 3) := by decide +kernel
theorem dX5_scanAndClimb_20 : decode cX5_scanAndClimb 20 = .ok (.ifCond .ne 7, 3) := by decide +kernel
theorem dX5_scanAndClimb_23 : decode cX5_scanAndClimb 23 = .ok (.sipush (-1003), 3) := by decide +kernel
theorem dX5_scanAndClimb_26 : decode cX5_scanAndClimb 26 = .ok (.ireturn, 1) := by decide +kernel
theorem dX5_scanAndClimb_27 : decode cX5_scanAndClimb 27 = .ok (.aload_n 0, 1) := by decide +kernel
theorem dX5_scanAndClimb_28 : decode cX5_scanAndClimb 28 = .ok (.getfield 63, 3) := by decide +kernel
theorem dX5_scanAndClimb_31 : decode cX5_scanAndClimb 31 = .ok (.iload_n 1, 1) := by decide +kernel
theorem dX5_scanAndClimb_32 : decode cX5_scanAndClimb 32 = .ok (.aaload, 1) := by decide +kernel
theorem dX5_scanAndClimb_33 : decode cX5_scanAndClimb 33 = .ok (.aload_n 0, 1) := by decide +kernel
theorem dX5_scanAndClimb_34 : decode cX5_scanAndClimb 34 = .ok (.getfield 63, 3) := by decide +kernel
theorem dX5_scanAndClimb_37 : decode cX5_scanAndClimb 37 = .ok (.iload_n 1, 1) := by decide +kernel
theorem dX5_scanAndClimb_38 : decode cX5_scanAndClimb 38 = .ok (.aaload, 1) := by decide +kernel
theorem dX5_scanAndClimb_39 : decode cX5_scanAndClimb 39 = .ok (.iload_n 2, 1) := by decide +kernel
theorem dX5_scanAndClimb_40 : decode cX5_scanAndClimb 40 = .ok (.invokevirtual 167, 3) := by decide +kernel
theorem dX5_scanAndClimb_43 : decode cX5_scanAndClimb 43 = .ok (.invokevirtual 170, 3) := by decide +kernel
theorem dX5_scanAndClimb_46 : decode cX5_scanAndClimb 46 = .ok (.ireturn, 1) := by decide +kernel
theorem dX5_arrayCurrent_0 : decode cX5_arrayCurrent 0 = .ok (.iload_n 1, 1) := by decide +kernel
theorem dX5_arrayCurrent_1 : decode cX5_arrayCurrent 1 = .ok (.iconst 0, 1) := by decide +kernel
theorem dX5_arrayCurrent_2 : decode cX5_arrayCurrent 2 = .ok (.sipush 7200, 3) := by decide +kernel
theorem dX5_arrayCurrent_5 : decode cX5_arrayCurrent 5 = .ok (.invokestatic 74, 3) := by decide +kernel
theorem dX5_arrayCurrent_8 : decode cX5_arrayCurrent 8 = .ok (.ifCond .eq 14, 3) := by decide +kernel
theorem dX5_arrayCurrent_11 : decode cX5_arrayCurrent 11 = .ok (.aload_n 0, 1) := by decide +kernel
theorem dX5_arrayCurrent_12 : decode cX5_arrayCurrent 12 = .ok (.getfield 51, 3) := by decide +kernel
theorem dX5_arrayCurrent_15 : decode cX5_arrayCurrent 15 = .ok (.iload_n 1, 1) := by decide +kernel
theorem dX5_arrayCurrent_16 : decode cX5_arrayCurrent 16 = .ok (.invokevirtual 173, 3) := by decide +kernel
theorem dX5_arrayCurrent_19 : decode cX5_arrayCurrent 19 = .ok (.goto 6, 3) := by decide +kernel
theorem dX5_arrayCurrent_22 : decode cX5_arrayCurrent 22 = .ok (.sipush (-1003), 3) := by decide +kernel
theorem dX5_arrayCurrent_25 : decode cX5_arrayCurrent 25 = .ok (.ireturn, 1) := by decide +kernel
theorem dX5_bestArrayVoltage_0 : decode cX5_bestArrayVoltage 0 = .ok (.aload_n 0, 1) := by decide +kernel
theorem dX5_bestArrayVoltage_1 : decode cX5_bestArrayVoltage 1 = .ok (.getfield 51, 3) := by decide +kernel
theorem dX5_bestArrayVoltage_4 : decode cX5_bestArrayVoltage 4 = .ok (.invokevirtual 174, 3) := by decide +kernel
theorem dX5_bestArrayVoltage_7 : decode cX5_bestArrayVoltage 7 = .ok (.ireturn, 1) := by decide +kernel
theorem dX5_totalBestPower_0 : decode cX5_totalBestPower 0 = .ok (.lconst 0, 1) := by decide +kernel
theorem dX5_totalBestPower_1 : decode cX5_totalBestPower 1 = .ok (.lstore_n 1, 1) := by decide +kernel
theorem dX5_totalBestPower_2 : decode cX5_totalBestPower 2 = .ok (.iconst 0, 1) := by decide +kernel
theorem dX5_totalBestPower_3 : decode cX5_totalBestPower 3 = .ok (.istore_n 3, 1) := by decide +kernel
theorem dX5_totalBestPower_4 : decode cX5_totalBestPower 4 = .ok (.iload_n 3, 1) := by decide +kernel
theorem dX5_totalBestPower_5 : decode cX5_totalBestPower 5 = .ok (.aload_n 0, 1) := by decide +kernel
theorem dX5_totalBestPower_6 : decode cX5_totalBestPower 6 = .ok (.getfield 51, 3) := by decide +kernel
theorem dX5_totalBestPower_9 : decode cX5_totalBestPower 9 = .ok (.getfield 67, 3) := by decide +kernel
theorem dX5_totalBestPower_12 : decode cX5_totalBestPower 12 = .ok (.if_icmp .ge 21, 3) := by decide +kernel
theorem dX5_totalBestPower_15 : decode cX5_totalBestPower 15 = .ok (.lload_n 1, 1) := by decide +kernel
theorem dX5_totalBestPower_16 : decode cX5_totalBestPower 16 = .ok (.aload_n 0, 1) := by decide +kernel
theorem dX5_totalBestPower_17 : decode cX5_totalBestPower 17 = .ok (.getfield 63, 3) := by decide +kernel
theorem dX5_totalBestPower_20 : decode cX5_totalBestPower 20 = .ok (.iload_n 3, 1) := by decide +kernel
theorem dX5_totalBestPower_21 : decode cX5_totalBestPower 21 = .ok (.aaload, 1) := by decide +kernel
theorem dX5_totalBestPower_22 : decode cX5_totalBestPower 22 = .ok (.invokevirtual 158, 3) := by decide +kernel
theorem dX5_totalBestPower_25 : decode cX5_totalBestPower 25 = .ok (.ladd, 1) := by decide +kernel
theorem dX5_totalBestPower_26 : decode cX5_totalBestPower 26 = .ok (.lstore_n 1, 1) := by decide +kernel
theorem dX5_totalBestPower_27 : decode cX5_totalBestPower 27 = .ok (.iinc 3 1, 3) := by decide +kernel
theorem dX5_totalBestPower_30 : decode cX5_totalBestPower 30 = .ok (.goto (-26), 3) := by decide +kernel
theorem dX5_totalBestPower_33 : decode cX5_totalBestPower 33 = .ok (.lload_n 1, 1) := by decide +kernel
theorem dX5_totalBestPower_34 : decode cX5_totalBestPower 34 = .ok (.lreturn, 1) := by decide +kernel
theorem dX5_mismatchLoss_0 : decode cX5_mismatchLoss 0 = .ok (.lconst 0, 1) := by decide +kernel
theorem dX5_mismatchLoss_1 : decode cX5_mismatchLoss 1 = .ok (.lstore_n 1, 1) := by decide +kernel
theorem dX5_mismatchLoss_2 : decode cX5_mismatchLoss 2 = .ok (.iconst 0, 1) := by decide +kernel
theorem dX5_mismatchLoss_3 : decode cX5_mismatchLoss 3 = .ok (.istore_n 3, 1) := by decide +kernel
theorem dX5_mismatchLoss_4 : decode cX5_mismatchLoss 4 = .ok (.iload_n 3, 1) := by decide +kernel
theorem dX5_mismatchLoss_5 : decode cX5_mismatchLoss 5 = .ok (.aload_n 0, 1) := by decide +kernel
theorem dX5_mismatchLoss_6 : decode cX5_mismatchLoss 6 = .ok (.getfield 9, 3) := by decide +kernel
theorem dX5_mismatchLoss_9 : decode cX5_mismatchLoss 9 = .ok (.if_icmp .ge 21, 3) := by decide +kernel
theorem dX5_mismatchLoss_12 : decode cX5_mismatchLoss 12 = .ok (.lload_n 1, 1) := by decide +kernel
theorem dX5_mismatchLoss_13 : decode cX5_mismatchLoss 13 = .ok (.aload_n 0, 1) := by decide +kernel
theorem dX5_mismatchLoss_14 : decode cX5_mismatchLoss 14 = .ok (.getfield 59, 3) := by decide +kernel
theorem dX5_mismatchLoss_17 : decode cX5_mismatchLoss 17 = .ok (.iload_n 3, 1) := by decide +kernel
theorem dX5_mismatchLoss_18 : decode cX5_mismatchLoss 18 = .ok (.aaload, 1) := by decide +kernel
theorem dX5_mismatchLoss_19 : decode cX5_mismatchLoss 19 = .ok (.invokevirtual 133, 3) := by decide +kernel
theorem dX5_mismatchLoss_22 : decode cX5_mismatchLoss 22 = .ok (.ladd, 1) := by decide +kernel
theorem dX5_mismatchLoss_23 : decode cX5_mismatchLoss 23 = .ok (.lstore_n 1, 1) := by decide +kernel
theorem dX5_mismatchLoss_24 : decode cX5_mismatchLoss 24 = .ok (.iinc 3 1, 3) := by decide +kernel
theorem dX5_mismatchLoss_27 : decode cX5_mismatchLoss 27 = .ok (.goto (-23), 3) := by decide +kernel
theorem dX5_mismatchLoss_30 : decode cX5_mismatchLoss 30 = .ok (.iconst 0, 1) := by decide +kernel
theorem dX5_mismatchLoss_31 : decode cX5_mismatchLoss 31 = .ok (.istore_n 3, 1) := by decide +kernel
theorem dX5_mismatchLoss_32 : decode cX5_mismatchLoss 32 = .ok (.iload_n 3, 1) := by decide +kernel
theorem dX5_mismatchLoss_33 : decode cX5_mismatchLoss 33 = .ok (.aload_n 0, 1) := by decide +kernel
theorem dX5_mismatchLoss_34 : decode cX5_mismatchLoss 34 = .ok (.getfield 51, 3) := by decide +kernel
theorem dX5_mismatchLoss_37 : decode cX5_mismatchLoss 37 = .ok (.getfield 67, 3) := by decide +kernel
theorem dX5_mismatchLoss_40 : decode cX5_mismatchLoss 40 = .ok (.if_icmp .ge 21, 3) := by decide +kernel
theorem dX5_mismatchLoss_43 : decode cX5_mismatchLoss 43 = .ok (.lload_n 1, 1) := by decide +kernel
theorem dX5_mismatchLoss_44 : decode cX5_mismatchLoss 44 = .ok (.aload_n 0, 1) := by decide +kernel
theorem dX5_mismatchLoss_45 : decode cX5_mismatchLoss 45 = .ok (.getfield 63, 3) := by decide +kernel
theorem dX5_mismatchLoss_48 : decode cX5_mismatchLoss 48 = .ok (.iload_n 3, 1) := by decide +kernel
theorem dX5_mismatchLoss_49 : decode cX5_mismatchLoss 49 = .ok (.aaload, 1) := by decide +kernel
theorem dX5_mismatchLoss_50 : decode cX5_mismatchLoss 50 = .ok (.invokevirtual 158, 3) := by decide +kernel
theorem dX5_mismatchLoss_53 : decode cX5_mismatchLoss 53 = .ok (.lsub, 1) := by decide +kernel
theorem dX5_mismatchLoss_54 : decode cX5_mismatchLoss 54 = .ok (.lstore_n 1, 1) := by decide +kernel
theorem dX5_mismatchLoss_55 : decode cX5_mismatchLoss 55 = .ok (.iinc 3 1, 3) := by decide +kernel
theorem dX5_mismatchLoss_58 : decode cX5_mismatchLoss 58 = .ok (.goto (-26), 3) := by decide +kernel
theorem dX5_mismatchLoss_61 : decode cX5_mismatchLoss 61 = .ok (.lload_n 1, 1) := by decide +kernel
theorem dX5_mismatchLoss_62 : decode cX5_mismatchLoss 62 = .ok (.lreturn, 1) := by decide +kernel
theorem dX5_bestSwapGain_0 : decode cX5_bestSwapGain 0 = .ok (.aload_n 0, 1) := by decide +kernel
theorem dX5_bestSwapGain_1 : decode cX5_bestSwapGain 1 = .ok (.invokevirtual 175, 3) := by decide +kernel
theorem dX5_bestSwapGain_4 : decode cX5_bestSwapGain 4 = .ok (.aload_n 0, 1) := by decide +kernel
theorem dX5_bestSwapGain_5 : decode cX5_bestSwapGain 5 = .ok (.getfield 19, 3) := by decide +kernel
theorem dX5_bestSwapGain_8 : decode cX5_bestSwapGain 8 = .ok (.lreturn, 1) := by decide +kernel
theorem dX5_bestSwapLower_0 : decode cX5_bestSwapLower 0 = .ok (.aload_n 0, 1) := by decide +kernel
theorem dX5_bestSwapLower_1 : decode cX5_bestSwapLower 1 = .ok (.invokevirtual 175, 3) := by decide +kernel
theorem dX5_bestSwapLower_4 : decode cX5_bestSwapLower 4 = .ok (.aload_n 0, 1) := by decide +kernel
theorem dX5_bestSwapLower_5 : decode cX5_bestSwapLower 5 = .ok (.getfield 23, 3) := by decide +kernel
theorem dX5_bestSwapLower_8 : decode cX5_bestSwapLower 8 = .ok (.ireturn, 1) := by decide +kernel
theorem dX5_bestSwapHigher_0 : decode cX5_bestSwapHigher 0 = .ok (.aload_n 0, 1) := by decide +kernel
theorem dX5_bestSwapHigher_1 : decode cX5_bestSwapHigher 1 = .ok (.invokevirtual 175, 3) := by decide +kernel
theorem dX5_bestSwapHigher_4 : decode cX5_bestSwapHigher 4 = .ok (.aload_n 0, 1) := by decide +kernel
theorem dX5_bestSwapHigher_5 : decode cX5_bestSwapHigher 5 = .ok (.getfield 26, 3) := by decide +kernel
theorem dX5_bestSwapHigher_8 : decode cX5_bestSwapHigher 8 = .ok (.ireturn, 1) := by decide +kernel
theorem dX5_regroup_0 : decode cX5_regroup 0 = .ok (.aload_n 0, 1) := by decide +kernel
theorem dX5_regroup_1 : decode cX5_regroup 1 = .ok (.invokevirtual 178, 3) := by decide +kernel
theorem dX5_regroup_4 : decode cX5_regroup 4 = .ok (.iconst 0, 1) := by decide +kernel
theorem dX5_regroup_5 : decode cX5_regroup 5 = .ok (.istore_n 1, 1) := by decide +kernel
theorem dX5_regroup_6 : decode cX5_regroup 6 = .ok (.iconst 0, 1) := by decide +kernel
theorem dX5_regroup_7 : decode cX5_regroup 7 = .ok (.istore_n 2, 1) := by decide +kernel
theorem dX5_regroup_8 : decode cX5_regroup 8 = .ok (.iconst 0, 1) := by decide +kernel
theorem dX5_regroup_9 : decode cX5_regroup 9 = .ok (.istore_n 3, 1) := by decide +kernel
theorem dX5_regroup_10 : decode cX5_regroup 10 = .ok (.iload_n 3, 1) := by decide +kernel
theorem dX5_regroup_11 : decode cX5_regroup 11 = .ok (.aload_n 0, 1) := by decide +kernel
theorem dX5_regroup_12 : decode cX5_regroup 12 = .ok (.getfield 51, 3) := by decide +kernel
theorem dX5_regroup_15 : decode cX5_regroup 15 = .ok (.getfield 67, 3) := by decide +kernel
theorem dX5_regroup_18 : decode cX5_regroup 18 = .ok (.if_icmp .ge 77, 3) := by decide +kernel
theorem dX5_regroup_21 : decode cX5_regroup 21 = .ok (.iconst 0, 1) := by decide +kernel
theorem dX5_regroup_22 : decode cX5_regroup 22 = .ok (.istore 4, 2) := by decide +kernel
theorem dX5_regroup_24 : decode cX5_regroup 24 = .ok (.iload 4, 2) := by decide +kernel
theorem dX5_regroup_26 : decode cX5_regroup 26 = .ok (.aload_n 0, 1) := by decide +kernel
theorem dX5_regroup_27 : decode cX5_regroup 27 = .ok (.getfield 63, 3) := by decide +kernel
theorem dX5_regroup_30 : decode cX5_regroup 30 = .ok (.iload_n 3, 1) := by decide +kernel
theorem dX5_regroup_31 : decode cX5_regroup 31 = .ok (.aaload, 1) := by decide +kernel
theorem dX5_regroup_32 : decode cX5_regroup 32 = .ok (.getfield 122, 3) := by decide +kernel
theorem dX5_regroup_35 : decode cX5_regroup 35 = .ok (.if_icmp .ge 54, 3) := by decide +kernel
theorem dX5_regroup_38 : decode cX5_regroup 38 = .ok (.iload_n 2, 1) := by decide +kernel
theorem dX5_regroup_39 : decode cX5_regroup 39 = .ok (.aload_n 0, 1) := by decide +kernel
theorem dX5_regroup_40 : decode cX5_regroup 40 = .ok (.getfield 9, 3) := by decide +kernel
theorem dX5_regroup_43 : decode cX5_regroup 43 = .ok (.if_icmp .ge 46, 3) := by decide +kernel
theorem dX5_regroup_46 : decode cX5_regroup 46 = .ok (.aload_n 0, 1) := by decide +kernel
theorem dX5_regroup_47 : decode cX5_regroup 47 = .ok (.getfield 29, 3) := by decide +kernel
theorem dX5_regroup_50 : decode cX5_regroup 50 = .ok (.iload_n 2, 1) := by decide +kernel
theorem dX5_regroup_51 : decode cX5_regroup 51 = .ok (.iaload, 1) := by decide +kernel
theorem dX5_regroup_52 : decode cX5_regroup 52 = .ok (.istore 5, 2) := by decide +kernel
theorem dX5_regroup_54 : decode cX5_regroup 54 = .ok (.iinc 2 1, 3) := by decide +kernel
theorem dX5_regroup_57 : decode cX5_regroup 57 = .ok (.aload_n 0, 1) := by decide +kernel
theorem dX5_regroup_58 : decode cX5_regroup 58 = .ok (.getfield 59, 3) := by decide +kernel
theorem dX5_regroup_61 : decode cX5_regroup 61 = .ok (.iload 5, 2) := by decide +kernel
theorem dX5_regroup_63 : decode cX5_regroup 63 = .ok (.aaload, 1) := by decide +kernel
theorem dX5_regroup_64 : decode cX5_regroup 64 = .ok (.getfield 112, 3) := by decide +kernel
theorem dX5_regroup_67 : decode cX5_regroup 67 = .ok (.iload_n 3, 1) := by decide +kernel
theorem dX5_regroup_68 : decode cX5_regroup 68 = .ok (.if_icmp .eq 6, 3) := by decide +kernel
theorem dX5_regroup_71 : decode cX5_regroup 71 = .ok (.iinc 1 1, 3) := by decide +kernel
theorem dX5_regroup_74 : decode cX5_regroup 74 = .ok (.aload_n 0, 1) := by decide +kernel
theorem dX5_regroup_75 : decode cX5_regroup 75 = .ok (.iload 5, 2) := by decide +kernel
theorem dX5_regroup_77 : decode cX5_regroup 77 = .ok (.iload_n 3, 1) := by decide +kernel
theorem dX5_regroup_78 : decode cX5_regroup 78 = .ok (.iload 4, 2) := by decide +kernel
theorem dX5_regroup_80 : decode cX5_regroup 80 = .ok (.invokevirtual 181, 3) := by decide +kernel
theorem dX5_regroup_83 : decode cX5_regroup 83 = .ok (.iinc 4 1, 3) := by decide +kernel
theorem dX5_regroup_86 : decode cX5_regroup 86 = .ok (.goto (-62), 3) := by decide +kernel
theorem dX5_regroup_89 : decode cX5_regroup 89 = .ok (.iinc 3 1, 3) := by decide +kernel
theorem dX5_regroup_92 : decode cX5_regroup 92 = .ok (.goto (-82), 3) := by decide +kernel
theorem dX5_regroup_95 : decode cX5_regroup 95 = .ok (.iload_n 1, 1) := by decide +kernel
theorem dX5_regroup_96 : decode cX5_regroup 96 = .ok (.ireturn, 1) := by decide +kernel
theorem dX5_isString_0 : decode cX5_isString 0 = .ok (.iload_n 1, 1) := by decide +kernel
theorem dX5_isString_1 : decode cX5_isString 1 = .ok (.ifCond .lt 18, 3) := by decide +kernel
theorem dX5_isString_4 : decode cX5_isString 4 = .ok (.iload_n 1, 1) := by decide +kernel
theorem dX5_isString_5 : decode cX5_isString 5 = .ok (.aload_n 0, 1) := by decide +kernel
theorem dX5_isString_6 : decode cX5_isString 6 = .ok (.getfield 51, 3) := by decide +kernel
theorem dX5_isString_9 : decode cX5_isString 9 = .ok (.getfield 67, 3) := by decide +kernel
theorem dX5_isString_12 : decode cX5_isString 12 = .ok (.if_icmp .ge 7, 3) := by decide +kernel
theorem dX5_isString_15 : decode cX5_isString 15 = .ok (.iconst 1, 1) := by decide +kernel
theorem dX5_isString_16 : decode cX5_isString 16 = .ok (.goto 4, 3) := by decide +kernel
theorem dX5_isString_19 : decode cX5_isString 19 = .ok (.iconst 0, 1) := by decide +kernel
theorem dX5_isString_20 : decode cX5_isString 20 = .ok (.ireturn, 1) := by decide +kernel
theorem dX5_isModule_0 : decode cX5_isModule 0 = .ok (.iload_n 1, 1) := by decide +kernel
theorem dX5_isModule_1 : decode cX5_isModule 1 = .ok (.ifCond .lt 15, 3) := by decide +kernel
theorem dX5_isModule_4 : decode cX5_isModule 4 = .ok (.iload_n 1, 1) := by decide +kernel
theorem dX5_isModule_5 : decode cX5_isModule 5 = .ok (.aload_n 0, 1) := by decide +kernel
theorem dX5_isModule_6 : decode cX5_isModule 6 = .ok (.getfield 9, 3) := by decide +kernel
theorem dX5_isModule_9 : decode cX5_isModule 9 = .ok (.if_icmp .ge 7, 3) := by decide +kernel
theorem dX5_isModule_12 : decode cX5_isModule 12 = .ok (.iconst 1, 1) := by decide +kernel
theorem dX5_isModule_13 : decode cX5_isModule 13 = .ok (.goto 4, 3) := by decide +kernel
theorem dX5_isModule_16 : decode cX5_isModule 16 = .ok (.iconst 0, 1) := by decide +kernel
theorem dX5_isModule_17 : decode cX5_isModule 17 = .ok (.ireturn, 1) := by decide +kernel
theorem dX5_isWithin_0 : decode cX5_isWithin 0 = .ok (.iload_n 0, 1) := by decide +kernel
theorem dX5_isWithin_1 : decode cX5_isWithin 1 = .ok (.iload_n 1, 1) := by decide +kernel
theorem dX5_isWithin_2 : decode cX5_isWithin 2 = .ok (.if_icmp .lt 12, 3) := by decide +kernel
theorem dX5_isWithin_5 : decode cX5_isWithin 5 = .ok (.iload_n 0, 1) := by decide +kernel
theorem dX5_isWithin_6 : decode cX5_isWithin 6 = .ok (.iload_n 2, 1) := by decide +kernel
theorem dX5_isWithin_7 : decode cX5_isWithin 7 = .ok (.if_icmp .gt 7, 3) := by decide +kernel
theorem dX5_isWithin_10 : decode cX5_isWithin 10 = .ok (.iconst 1, 1) := by decide +kernel
theorem dX5_isWithin_11 : decode cX5_isWithin 11 = .ok (.goto 4, 3) := by decide +kernel
theorem dX5_isWithin_14 : decode cX5_isWithin 14 = .ok (.iconst 0, 1) := by decide +kernel
theorem dX5_isWithin_15 : decode cX5_isWithin 15 = .ok (.ireturn, 1) := by decide +kernel
theorem dX5_place_0 : decode cX5_place 0 = .ok (.aload_n 0, 1) := by decide +kernel
theorem dX5_place_1 : decode cX5_place 1 = .ok (.getfield 63, 3) := by decide +kernel
theorem dX5_place_4 : decode cX5_place 4 = .ok (.iload_n 2, 1) := by decide +kernel
theorem dX5_place_5 : decode cX5_place 5 = .ok (.aaload, 1) := by decide +kernel
theorem dX5_place_6 : decode cX5_place 6 = .ok (.getfield 123, 3) := by decide +kernel
theorem dX5_place_9 : decode cX5_place 9 = .ok (.iload_n 3, 1) := by decide +kernel
theorem dX5_place_10 : decode cX5_place 10 = .ok (.iload_n 1, 1) := by decide +kernel
theorem dX5_place_11 : decode cX5_place 11 = .ok (.iastore, 1) := by decide +kernel
theorem dX5_place_12 : decode cX5_place 12 = .ok (.aload_n 0, 1) := by decide +kernel
theorem dX5_place_13 : decode cX5_place 13 = .ok (.getfield 59, 3) := by decide +kernel
theorem dX5_place_16 : decode cX5_place 16 = .ok (.iload_n 1, 1) := by decide +kernel
theorem dX5_place_17 : decode cX5_place 17 = .ok (.aaload, 1) := by decide +kernel
theorem dX5_place_18 : decode cX5_place 18 = .ok (.iload_n 2, 1) := by decide +kernel
theorem dX5_place_19 : decode cX5_place 19 = .ok (.putfield 112, 3) := by decide +kernel
theorem dX5_place_22 : decode cX5_place 22 = .ok (.aload_n 0, 1) := by decide +kernel
theorem dX5_place_23 : decode cX5_place 23 = .ok (.getfield 59, 3) := by decide +kernel
theorem dX5_place_26 : decode cX5_place 26 = .ok (.iload_n 1, 1) := by decide +kernel
theorem dX5_place_27 : decode cX5_place 27 = .ok (.aaload, 1) := by decide +kernel
theorem dX5_place_28 : decode cX5_place 28 = .ok (.iload_n 3, 1) := by decide +kernel
theorem dX5_place_29 : decode cX5_place 29 = .ok (.putfield 185, 3) := by decide +kernel
theorem dX5_place_32 : decode cX5_place 32 = .ok (.return_, 1) := by decide +kernel
theorem dX5_putLast_0 : decode cX5_putLast 0 = .ok (.aload_n 0, 1) := by decide +kernel
theorem dX5_putLast_1 : decode cX5_putLast 1 = .ok (.getfield 63, 3) := by decide +kernel
theorem dX5_putLast_4 : decode cX5_putLast 4 = .ok (.iload_n 2, 1) := by decide +kernel
theorem dX5_putLast_5 : decode cX5_putLast 5 = .ok (.aaload, 1) := by decide +kernel
theorem dX5_putLast_6 : decode cX5_putLast 6 = .ok (.getfield 122, 3) := by decide +kernel
theorem dX5_putLast_9 : decode cX5_putLast 9 = .ok (.istore_n 3, 1) := by decide +kernel
theorem dX5_putLast_10 : decode cX5_putLast 10 = .ok (.aload_n 0, 1) := by decide +kernel
theorem dX5_putLast_11 : decode cX5_putLast 11 = .ok (.iload_n 1, 1) := by decide +kernel
theorem dX5_putLast_12 : decode cX5_putLast 12 = .ok (.iload_n 2, 1) := by decide +kernel
theorem dX5_putLast_13 : decode cX5_putLast 13 = .ok (.iload_n 3, 1) := by decide +kernel
theorem dX5_putLast_14 : decode cX5_putLast 14 = .ok (.invokevirtual 181, 3) := by decide +kernel
theorem dX5_putLast_17 : decode cX5_putLast 17 = .ok (.aload_n 0, 1) := by decide +kernel
theorem dX5_putLast_18 : decode cX5_putLast 18 = .ok (.getfield 63, 3) := by decide +kernel
theorem dX5_putLast_21 : decode cX5_putLast 21 = .ok (.iload_n 2, 1) := by decide +kernel
theorem dX5_putLast_22 : decode cX5_putLast 22 = .ok (.aaload, 1) := by decide +kernel
theorem dX5_putLast_23 : decode cX5_putLast 23 = .ok (.dup, 1) := by decide +kernel
theorem dX5_putLast_24 : decode cX5_putLast 24 = .ok (.getfield 122, 3) := by decide +kernel
theorem dX5_putLast_27 : decode cX5_putLast 27 = .ok (.iconst 1, 1) := by decide +kernel
theorem dX5_putLast_28 : decode cX5_putLast 28 = .ok (.iadd, 1) := by decide +kernel
theorem dX5_putLast_29 : decode cX5_putLast 29 = .ok (.putfield 122, 3) := by decide +kernel
theorem dX5_putLast_32 : decode cX5_putLast 32 = .ok (.iload_n 3, 1) := by decide +kernel
theorem dX5_putLast_33 : decode cX5_putLast 33 = .ok (.ireturn, 1) := by decide +kernel
theorem dX5_takeOut_0 : decode cX5_takeOut 0 = .ok (.aload_n 0, 1) := by decide +kernel
theorem dX5_takeOut_1 : decode cX5_takeOut 1 = .ok (.getfield 59, 3) := by decide +kernel
theorem dX5_takeOut_4 : decode cX5_takeOut 4 = .ok (.iload_n 1, 1) := by decide +kernel
theorem dX5_takeOut_5 : decode cX5_takeOut 5 = .ok (.aaload, 1) := by decide +kernel
theorem dX5_takeOut_6 : decode cX5_takeOut 6 = .ok (.getfield 112, 3) := by decide +kernel
theorem dX5_takeOut_9 : decode cX5_takeOut 9 = .ok (.istore_n 2, 1) := by decide +kernel
theorem dX5_takeOut_10 : decode cX5_takeOut 10 = .ok (.aload_n 0, 1) := by decide +kernel
theorem dX5_takeOut_11 : decode cX5_takeOut 11 = .ok (.getfield 63, 3) := by decide +kernel
theorem dX5_takeOut_14 : decode cX5_takeOut 14 = .ok (.iload_n 2, 1) := by decide +kernel
theorem dX5_takeOut_15 : decode cX5_takeOut 15 = .ok (.aaload, 1) := by decide +kernel
theorem dX5_takeOut_16 : decode cX5_takeOut 16 = .ok (.astore_n 3, 1) := by decide +kernel
theorem dX5_takeOut_17 : decode cX5_takeOut 17 = .ok (.aload_n 3, 1) := by decide +kernel
theorem dX5_takeOut_18 : decode cX5_takeOut 18 = .ok (.dup, 1) := by decide +kernel
theorem dX5_takeOut_19 : decode cX5_takeOut 19 = .ok (.getfield 122, 3) := by decide +kernel
theorem dX5_takeOut_22 : decode cX5_takeOut 22 = .ok (.iconst 1, 1) := by decide +kernel
theorem dX5_takeOut_23 : decode cX5_takeOut 23 = .ok (.isub, 1) := by decide +kernel
theorem dX5_takeOut_24 : decode cX5_takeOut 24 = .ok (.putfield 122, 3) := by decide +kernel
theorem dX5_takeOut_27 : decode cX5_takeOut 27 = .ok (.aload_n 0, 1) := by decide +kernel
theorem dX5_takeOut_28 : decode cX5_takeOut 28 = .ok (.getfield 59, 3) := by decide +kernel
theorem dX5_takeOut_31 : decode cX5_takeOut 31 = .ok (.iload_n 1, 1) := by decide +kernel
theorem dX5_takeOut_32 : decode cX5_takeOut 32 = .ok (.aaload, 1) := by decide +kernel
theorem dX5_takeOut_33 : decode cX5_takeOut 33 = .ok (.getfield 185, 3) := by decide +kernel
theorem dX5_takeOut_36 : decode cX5_takeOut 36 = .ok (.istore 4, 2) := by decide +kernel
theorem dX5_takeOut_38 : decode cX5_takeOut 38 = .ok (.iload 4, 2) := by decide +kernel
theorem dX5_takeOut_40 : decode cX5_takeOut 40 = .ok (.aload_n 3, 1) := by decide +kernel
theorem dX5_takeOut_41 : decode cX5_takeOut 41 = .ok (.getfield 122, 3) := by decide +kernel
theorem dX5_takeOut_44 : decode cX5_takeOut 44 = .ok (.if_icmp .ge 25, 3) := by decide +kernel
theorem dX5_takeOut_47 : decode cX5_takeOut 47 = .ok (.aload_n 0, 1) := by decide +kernel
theorem dX5_takeOut_48 : decode cX5_takeOut 48 = .ok (.aload_n 3, 1) := by decide +kernel
theorem dX5_takeOut_49 : decode cX5_takeOut 49 = .ok (.getfield 123, 3) := by decide +kernel
theorem dX5_takeOut_52 : decode cX5_takeOut 52 = .ok (.iload 4, 2) := by decide +kernel
theorem dX5_takeOut_54 : decode cX5_takeOut 54 = .ok (.iconst 1, 1) := by decide +kernel
theorem dX5_takeOut_55 : decode cX5_takeOut 55 = .ok (.iadd, 1) := by decide +kernel
theorem dX5_takeOut_56 : decode cX5_takeOut 56 = .ok (.iaload, 1) := by decide +kernel
theorem dX5_takeOut_57 : decode cX5_takeOut 57 = .ok (.iload_n 2, 1) := by decide +kernel
theorem dX5_takeOut_58 : decode cX5_takeOut 58 = .ok (.iload 4, 2) := by decide +kernel
theorem dX5_takeOut_60 : decode cX5_takeOut 60 = .ok (.invokevirtual 181, 3) := by decide +kernel
theorem dX5_takeOut_63 : decode cX5_takeOut 63 = .ok (.iinc 4 1, 3) := by decide +kernel
theorem dX5_takeOut_66 : decode cX5_takeOut 66 = .ok (.goto (-28), 3) := by decide +kernel
theorem dX5_takeOut_69 : decode cX5_takeOut 69 = .ok (.return_, 1) := by decide +kernel
theorem dX5_exchange_0 : decode cX5_exchange 0 = .ok (.aload_n 0, 1) := by decide +kernel
theorem dX5_exchange_1 : decode cX5_exchange 1 = .ok (.getfield 59, 3) := by decide +kernel
theorem dX5_exchange_4 : decode cX5_exchange 4 = .ok (.iload_n 1, 1) := by decide +kernel
theorem dX5_exchange_5 : decode cX5_exchange 5 = .ok (.aaload, 1) := by decide +kernel
theorem dX5_exchange_6 : decode cX5_exchange 6 = .ok (.getfield 112, 3) := by decide +kernel
theorem dX5_exchange_9 : decode cX5_exchange 9 = .ok (.istore_n 3, 1) := by decide +kernel
theorem dX5_exchange_10 : decode cX5_exchange 10 = .ok (.aload_n 0, 1) := by decide +kernel
theorem dX5_exchange_11 : decode cX5_exchange 11 = .ok (.getfield 59, 3) := by decide +kernel
theorem dX5_exchange_14 : decode cX5_exchange 14 = .ok (.iload_n 1, 1) := by decide +kernel
theorem dX5_exchange_15 : decode cX5_exchange 15 = .ok (.aaload, 1) := by decide +kernel
theorem dX5_exchange_16 : decode cX5_exchange 16 = .ok (.getfield 185, 3) := by decide +kernel
theorem dX5_exchange_19 : decode cX5_exchange 19 = .ok (.istore 4, 2) := by decide +kernel
theorem dX5_exchange_21 : decode cX5_exchange 21 = .ok (.aload_n 0, 1) := by decide +kernel
theorem dX5_exchange_22 : decode cX5_exchange 22 = .ok (.iload_n 1, 1) := by decide +kernel
theorem dX5_exchange_23 : decode cX5_exchange 23 = .ok (.aload_n 0, 1) := by decide +kernel
theorem dX5_exchange_24 : decode cX5_exchange 24 = .ok (.getfield 59, 3) := by decide +kernel
theorem dX5_exchange_27 : decode cX5_exchange 27 = .ok (.iload_n 2, 1) := by decide +kernel
theorem dX5_exchange_28 : decode cX5_exchange 28 = .ok (.aaload, 1) := by decide +kernel
theorem dX5_exchange_29 : decode cX5_exchange 29 = .ok (.getfield 112, 3) := by decide +kernel
theorem dX5_exchange_32 : decode cX5_exchange 32 = .ok (.aload_n 0, 1) := by decide +kernel
theorem dX5_exchange_33 : decode cX5_exchange 33 = .ok (.getfield 59, 3) := by decide +kernel
theorem dX5_exchange_36 : decode cX5_exchange 36 = .ok (.iload_n 2, 1) := by decide +kernel
theorem dX5_exchange_37 : decode cX5_exchange 37 = .ok (.aaload, 1) := by decide +kernel
theorem dX5_exchange_38 : decode cX5_exchange 38 = .ok (.getfield 185, 3) := by decide +kernel
theorem dX5_exchange_41 : decode cX5_exchange 41 = .ok (.invokevirtual 181, 3) := by decide +kernel
theorem dX5_exchange_44 : decode cX5_exchange 44 = .ok (.aload_n 0, 1) := by decide +kernel
theorem dX5_exchange_45 : decode cX5_exchange 45 = .ok (.iload_n 2, 1) := by decide +kernel
theorem dX5_exchange_46 : decode cX5_exchange 46 = .ok (.iload_n 3, 1) := by decide +kernel
theorem dX5_exchange_47 : decode cX5_exchange 47 = .ok (.iload 4, 2) := by decide +kernel
theorem dX5_exchange_49 : decode cX5_exchange 49 = .ok (.invokevirtual 181, 3) := by decide +kernel
theorem dX5_exchange_52 : decode cX5_exchange 52 = .ok (.return_, 1) := by decide +kernel
theorem dX5_findBestSwap_0 : decode cX5_findBestSwap 0 = .ok (.aload_n 0, 1) := by decide +kernel
theorem dX5_findBestSwap_1 : decode cX5_findBestSwap 1 = .ok (.lconst 0, 1) := by decide +kernel
theorem dX5_findBestSwap_2 : decode cX5_findBestSwap 2 = .ok (.putfield 19, 3) := by decide +kernel
theorem dX5_findBestSwap_5 : decode cX5_findBestSwap 5 = .ok (.aload_n 0, 1) := by decide +kernel
theorem dX5_findBestSwap_6 : decode cX5_findBestSwap 6 = .ok (.sipush (-1005), 3) := by decide +kernel
theorem dX5_findBestSwap_9 : decode cX5_findBestSwap 9 = .ok (.putfield 23, 3) := by decide +kernel
theorem dX5_findBestSwap_12 : decode cX5_findBestSwap 12 = .ok (.aload_n 0, 1) := by decide +kernel
theorem dX5_findBestSwap_13 : decode cX5_findBestSwap 13 = .ok (.sipush (-1005), 3) := by decide +kernel
theorem dX5_findBestSwap_16 : decode cX5_findBestSwap 16 = .ok (.putfield 26, 3) := by decide +kernel
theorem dX5_findBestSwap_19 : decode cX5_findBestSwap 19 = .ok (.iconst 0, 1) := by decide +kernel
theorem dX5_findBestSwap_20 : decode cX5_findBestSwap 20 = .ok (.istore_n 1, 1) := by decide +kernel
theorem dX5_findBestSwap_21 : decode cX5_findBestSwap 21 = .ok (.iload_n 1, 1) := by decide +kernel
theorem dX5_findBestSwap_22 : decode cX5_findBestSwap 22 = .ok (.aload_n 0, 1) := by decide +kernel
theorem dX5_findBestSwap_23 : decode cX5_findBestSwap 23 = .ok (.getfield 51, 3) := by decide +kernel
theorem dX5_findBestSwap_26 : decode cX5_findBestSwap 26 = .ok (.getfield 67, 3) := by decide +kernel
theorem dX5_findBestSwap_29 : decode cX5_findBestSwap 29 = .ok (.if_icmp .ge 24, 3) := by decide +kernel
theorem dX5_findBestSwap_32 : decode cX5_findBestSwap 32 = .ok (.aload_n 0, 1) := by decide +kernel
theorem dX5_findBestSwap_33 : decode cX5_findBestSwap 33 = .ok (.getfield 15, 3) := by decide +kernel
theorem dX5_findBestSwap_36 : decode cX5_findBestSwap 36 = .ok (.iload_n 1, 1) := by decide +kernel
theorem dX5_findBestSwap_37 : decode cX5_findBestSwap 37 = .ok (.aload_n 0, 1) := by decide +kernel
theorem dX5_findBestSwap_38 : decode cX5_findBestSwap 38 = .ok (.getfield 63, 3) := by decide +kernel
theorem dX5_findBestSwap_41 : decode cX5_findBestSwap 41 = .ok (.iload_n 1, 1) := by decide +kernel
theorem dX5_findBestSwap_42 : decode cX5_findBestSwap 42 = .ok (.aaload, 1) := by decide +kernel
theorem dX5_findBestSwap_43 : decode cX5_findBestSwap 43 = .ok (.invokevirtual 158, 3) := by decide +kernel
theorem dX5_findBestSwap_46 : decode cX5_findBestSwap 46 = .ok (.lastore, 1) := by decide +kernel
theorem dX5_findBestSwap_47 : decode cX5_findBestSwap 47 = .ok (.iinc 1 1, 3) := by decide +kernel
theorem dX5_findBestSwap_50 : decode cX5_findBestSwap 50 = .ok (.goto (-29), 3) := by decide +kernel
theorem dX5_findBestSwap_53 : decode cX5_findBestSwap 53 = .ok (.iconst 0, 1) := by decide +kernel
theorem dX5_findBestSwap_54 : decode cX5_findBestSwap 54 = .ok (.istore_n 1, 1) := by decide +kernel
theorem dX5_findBestSwap_55 : decode cX5_findBestSwap 55 = .ok (.iload_n 1, 1) := by decide +kernel
theorem dX5_findBestSwap_56 : decode cX5_findBestSwap 56 = .ok (.aload_n 0, 1) := by decide +kernel
theorem dX5_findBestSwap_57 : decode cX5_findBestSwap 57 = .ok (.getfield 9, 3) := by decide +kernel
theorem dX5_findBestSwap_60 : decode cX5_findBestSwap 60 = .ok (.if_icmp .ge 136, 3) := by decide +kernel
theorem dX5_findBestSwap_63 : decode cX5_findBestSwap 63 = .ok (.iload_n 1, 1) := by decide +kernel
theorem dX5_findBestSwap_64 : decode cX5_findBestSwap 64 = .ok (.iconst 1, 1) := by decide +kernel
theorem dX5_findBestSwap_65 : decode cX5_findBestSwap 65 = .ok (.iadd, 1) := by decide +kernel
theorem dX5_findBestSwap_66 : decode cX5_findBestSwap 66 = .ok (.istore_n 2, 1) := by decide +kernel
theorem dX5_findBestSwap_67 : decode cX5_findBestSwap 67 = .ok (.iload_n 2, 1) := by decide +kernel
theorem dX5_findBestSwap_68 : decode cX5_findBestSwap 68 = .ok (.aload_n 0, 1) := by decide +kernel
theorem dX5_findBestSwap_69 : decode cX5_findBestSwap 69 = .ok (.getfield 9, 3) := by decide +kernel
theorem dX5_findBestSwap_72 : decode cX5_findBestSwap 72 = .ok (.if_icmp .ge 118, 3) := by decide +kernel
theorem dX5_findBestSwap_75 : decode cX5_findBestSwap 75 = .ok (.aload_n 0, 1) := by decide +kernel
theorem dX5_findBestSwap_76 : decode cX5_findBestSwap 76 = .ok (.getfield 59, 3) := by decide +kernel
theorem dX5_findBestSwap_79 : decode cX5_findBestSwap 79 = .ok (.iload_n 1, 1) := by decide +kernel
theorem dX5_findBestSwap_80 : decode cX5_findBestSwap 80 = .ok (.aaload, 1) := by decide +kernel
theorem dX5_findBestSwap_81 : decode cX5_findBestSwap 81 = .ok (.getfield 112, 3) := by decide +kernel
theorem dX5_findBestSwap_84 : decode cX5_findBestSwap 84 = .ok (.istore_n 3, 1) := by decide +kernel
theorem dX5_findBestSwap_85 : decode cX5_findBestSwap 85 = .ok (.aload_n 0, 1) := by decide +kernel
theorem dX5_findBestSwap_86 : decode cX5_findBestSwap 86 = .ok (.getfield 59, 3) := by decide +kernel
theorem dX5_findBestSwap_89 : decode cX5_findBestSwap 89 = .ok (.iload_n 2, 1) := by decide +kernel
theorem dX5_findBestSwap_90 : decode cX5_findBestSwap 90 = .ok (.aaload, 1) := by decide +kernel
theorem dX5_findBestSwap_91 : decode cX5_findBestSwap 91 = .ok (.getfield 112, 3) := by decide +kernel
theorem dX5_findBestSwap_94 : decode cX5_findBestSwap 94 = .ok (.istore 4, 2) := by decide +kernel
theorem dX5_findBestSwap_96 : decode cX5_findBestSwap 96 = .ok (.iload_n 3, 1) := by decide +kernel
theorem dX5_findBestSwap_97 : decode cX5_findBestSwap 97 = .ok (.iload 4, 2) := by decide +kernel
theorem dX5_findBestSwap_99 : decode cX5_findBestSwap 99 = .ok (.if_icmp .ne 6, 3) := by decide +kernel
theorem dX5_findBestSwap_102 : decode cX5_findBestSwap 102 = .ok (.goto 82, 3) := by decide +kernel
theorem dX5_findBestSwap_105 : decode cX5_findBestSwap 105 = .ok (.aload_n 0, 1) := by decide +kernel
theorem dX5_findBestSwap_106 : decode cX5_findBestSwap 106 = .ok (.iload_n 1, 1) := by decide +kernel
theorem dX5_findBestSwap_107 : decode cX5_findBestSwap 107 = .ok (.iload_n 2, 1) := by decide +kernel
theorem dX5_findBestSwap_108 : decode cX5_findBestSwap 108 = .ok (.invokevirtual 118, 3) := by decide +kernel
theorem dX5_findBestSwap_111 : decode cX5_findBestSwap 111 = .ok (.aload_n 0, 1) := by decide +kernel
theorem dX5_findBestSwap_112 : decode cX5_findBestSwap 112 = .ok (.getfield 63, 3) := by decide +kernel
theorem dX5_findBestSwap_115 : decode cX5_findBestSwap 115 = .ok (.iload_n 3, 1) := by decide +kernel
theorem dX5_findBestSwap_116 : decode cX5_findBestSwap 116 = .ok (.aaload, 1) := by decide +kernel
theorem dX5_findBestSwap_117 : decode cX5_findBestSwap 117 = .ok (.invokevirtual 158, 3) := by decide +kernel
theorem dX5_findBestSwap_120 : decode cX5_findBestSwap 120 = .ok (.aload_n 0, 1) := by decide +kernel
theorem dX5_findBestSwap_121 : decode cX5_findBestSwap 121 = .ok (.getfield 63, 3) := by decide +kernel
theorem dX5_findBestSwap_124 : decode cX5_findBestSwap 124 = .ok (.iload 4, 2) := by decide +kernel
theorem dX5_findBestSwap_126 : decode cX5_findBestSwap 126 = .ok (.aaload, 1) := by decide +kernel
theorem dX5_findBestSwap_127 : decode cX5_findBestSwap 127 = .ok (.invokevirtual 158, 3) := by decide +kernel
theorem dX5_findBestSwap_130 : decode cX5_findBestSwap 130 = .ok (.ladd, 1) := by decide +kernel
theorem dX5_findBestSwap_131 : decode cX5_findBestSwap 131 = .ok (.lstore 5, 2) := by decide +kernel
theorem dX5_findBestSwap_133 : decode cX5_findBestSwap 133 = .ok (.aload_n 0, 1) := by decide +kernel
theorem dX5_findBestSwap_134 : decode cX5_findBestSwap 134 = .ok (.iload_n 1, 1) := by decide +kernel
theorem dX5_findBestSwap_135 : decode cX5_findBestSwap 135 = .ok (.iload_n 2, 1) := by decide +kernel
theorem dX5_findBestSwap_136 : decode cX5_findBestSwap 136 = .ok (.invokevirtual 118, 3) := by decide +kernel
theorem dX5_findBestSwap_139 : decode cX5_findBestSwap 139 = .ok (.lload 5, 2) := by decide +kernel
theorem dX5_findBestSwap_141 : decode cX5_findBestSwap 141 = .ok (.aload_n 0, 1) := by decide +kernel
theorem dX5_findBestSwap_142 : decode cX5_findBestSwap 142 = .ok (.getfield 15, 3) := by decide +kernel
theorem dX5_findBestSwap_145 : decode cX5_findBestSwap 145 = .ok (.iload_n 3, 1) := by decide +kernel
theorem dX5_findBestSwap_146 : decode cX5_findBestSwap 146 = .ok (.laload, 1) := by decide +kernel
theorem dX5_findBestSwap_147 : decode cX5_findBestSwap 147 = .ok (.lsub, 1) := by decide +kernel
theorem dX5_findBestSwap_148 : decode cX5_findBestSwap 148 = .ok (.aload_n 0, 1) := by decide +kernel
theorem dX5_findBestSwap_149 : decode cX5_findBestSwap 149 = .ok (.getfield 15, 3) := by decide +kernel
theorem dX5_findBestSwap_152 : decode cX5_findBestSwap 152 = .ok (.iload 4, 2) := by decide +kernel
theorem dX5_findBestSwap_154 : decode cX5_findBestSwap 154 = .ok (.laload, 1) := by decide +kernel
theorem dX5_findBestSwap_155 : decode cX5_findBestSwap 155 = .ok (.lsub, 1) := by decide +kernel
theorem dX5_findBestSwap_156 : decode cX5_findBestSwap 156 = .ok (.lstore 7, 2) := by decide +kernel
theorem dX5_findBestSwap_158 : decode cX5_findBestSwap 158 = .ok (.lload 7, 2) := by decide +kernel
theorem dX5_findBestSwap_160 : decode cX5_findBestSwap 160 = .ok (.aload_n 0, 1) := by decide +kernel
theorem dX5_findBestSwap_161 : decode cX5_findBestSwap 161 = .ok (.getfield 19, 3) := by decide +kernel
theorem dX5_findBestSwap_164 : decode cX5_findBestSwap 164 = .ok (.lcmp, 1) := by decide +kernel
theorem dX5_findBestSwap_165 : decode cX5_findBestSwap 165 = .ok (.ifCond .le 19, 3) := by decide +kernel
theorem dX5_findBestSwap_168 : decode cX5_findBestSwap 168 = .ok (.aload_n 0, 1) := by decide +kernel
theorem dX5_findBestSwap_169 : decode cX5_findBestSwap 169 = .ok (.lload 7, 2) := by decide +kernel
theorem dX5_findBestSwap_171 : decode cX5_findBestSwap 171 = .ok (.putfield 19, 3) := by decide +kernel
theorem dX5_findBestSwap_174 : decode cX5_findBestSwap 174 = .ok (.aload_n 0, 1) := by decide +kernel
theorem dX5_findBestSwap_175 : decode cX5_findBestSwap 175 = .ok (.iload_n 1, 1) := by decide +kernel
theorem dX5_findBestSwap_176 : decode cX5_findBestSwap 176 = .ok (.putfield 23, 3) := by decide +kernel
theorem dX5_findBestSwap_179 : decode cX5_findBestSwap 179 = .ok (.aload_n 0, 1) := by decide +kernel
theorem dX5_findBestSwap_180 : decode cX5_findBestSwap 180 = .ok (.iload_n 2, 1) := by decide +kernel
theorem dX5_findBestSwap_181 : decode cX5_findBestSwap 181 = .ok (.putfield 26, 3) := by decide +kernel
theorem dX5_findBestSwap_184 : decode cX5_findBestSwap 184 = .ok (.iinc 2 1, 3) := by decide +kernel
theorem dX5_findBestSwap_187 : decode cX5_findBestSwap 187 = .ok (.goto (-120), 3) := by decide +kernel
theorem dX5_findBestSwap_190 : decode cX5_findBestSwap 190 = .ok (.iinc 1 1, 3) := by decide +kernel
theorem dX5_findBestSwap_193 : decode cX5_findBestSwap 193 = .ok (.goto (-138), 3) := by decide +kernel
theorem dX5_findBestSwap_196 : decode cX5_findBestSwap 196 = .ok (.return_, 1) := by decide +kernel
theorem dX5_sortByLightCurrent_0 : decode cX5_sortByLightCurrent 0 = .ok (.iconst 0, 1) := by decide +kernel
theorem dX5_sortByLightCurrent_1 : decode cX5_sortByLightCurrent 1 = .ok (.istore_n 1, 1) := by decide +kernel
theorem dX5_sortByLightCurrent_2 : decode cX5_sortByLightCurrent 2 = .ok (.iload_n 1, 1) := by decide +kernel
theorem dX5_sortByLightCurrent_3 : decode cX5_sortByLightCurrent 3 = .ok (.aload_n 0, 1) := by decide +kernel
theorem dX5_sortByLightCurrent_4 : decode cX5_sortByLightCurrent 4 = .ok (.getfield 9, 3) := by decide +kernel
theorem dX5_sortByLightCurrent_7 : decode cX5_sortByLightCurrent 7 = .ok (.if_icmp .ge 70, 3) := by decide +kernel
theorem dX5_sortByLightCurrent_10 : decode cX5_sortByLightCurrent 10 = .ok (.iload_n 1, 1) := by decide +kernel
theorem dX5_sortByLightCurrent_11 : decode cX5_sortByLightCurrent 11 = .ok (.istore_n 2, 1) := by decide +kernel
theorem dX5_sortByLightCurrent_12 : decode cX5_sortByLightCurrent 12 = .ok (.iload_n 2, 1) := by decide +kernel
theorem dX5_sortByLightCurrent_13 : decode cX5_sortByLightCurrent 13 = .ok (.ifCond .le 51, 3) := by decide +kernel
theorem dX5_sortByLightCurrent_16 : decode cX5_sortByLightCurrent 16 = .ok (.aload_n 0, 1) := by decide +kernel
theorem dX5_sortByLightCurrent_17 : decode cX5_sortByLightCurrent 17 = .ok (.getfield 59, 3) := by decide +kernel
theorem dX5_sortByLightCurrent_20 : decode cX5_sortByLightCurrent 20 = .ok (.aload_n 0, 1) := by decide +kernel
theorem dX5_sortByLightCurrent_21 : decode cX5_sortByLightCurrent 21 = .ok (.getfield 29, 3) := by decide +kernel
theorem dX5_sortByLightCurrent_24 : decode cX5_sortByLightCurrent 24 = .ok (.iload_n 2, 1) := by decide +kernel
theorem dX5_sortByLightCurrent_25 : decode cX5_sortByLightCurrent 25 = .ok (.iconst 1, 1) := by decide +kernel
theorem dX5_sortByLightCurrent_26 : decode cX5_sortByLightCurrent 26 = .ok (.isub, 1) := by decide +kernel
theorem dX5_sortByLightCurrent_27 : decode cX5_sortByLightCurrent 27 = .ok (.iaload, 1) := by decide +kernel
theorem dX5_sortByLightCurrent_28 : decode cX5_sortByLightCurrent 28 = .ok (.aaload, 1) := by decide +kernel
theorem dX5_sortByLightCurrent_29 : decode cX5_sortByLightCurrent 29 = .ok (.getfield 126, 3) := by decide +kernel
theorem dX5_sortByLightCurrent_32 : decode cX5_sortByLightCurrent 32 = .ok (.aload_n 0, 1) := by decide +kernel
theorem dX5_sortByLightCurrent_33 : decode cX5_sortByLightCurrent 33 = .ok (.getfield 59, 3) := by decide +kernel
theorem dX5_sortByLightCurrent_36 : decode cX5_sortByLightCurrent 36 = .ok (.iload_n 1, 1) := by decide +kernel
theorem dX5_sortByLightCurrent_37 : decode cX5_sortByLightCurrent 37 = .ok (.aaload, 1) := by decide +kernel
theorem dX5_sortByLightCurrent_38 : decode cX5_sortByLightCurrent 38 = .ok (.getfield 126, 3) := by decide +kernel
theorem dX5_sortByLightCurrent_41 : decode cX5_sortByLightCurrent 41 = .ok (.if_icmp .ge 23, 3) := by decide +kernel
theorem dX5_sortByLightCurrent_44 : decode cX5_sortByLightCurrent 44 = .ok (.aload_n 0, 1) := by decide +kernel
theorem dX5_sortByLightCurrent_45 : decode cX5_sortByLightCurrent 45 = .ok (.getfield 29, 3) := by decide +kernel
theorem dX5_sortByLightCurrent_48 : decode cX5_sortByLightCurrent 48 = .ok (.iload_n 2, 1) := by decide +kernel
theorem dX5_sortByLightCurrent_49 : decode cX5_sortByLightCurrent 49 = .ok (.aload_n 0, 1) := by decide +kernel
theorem dX5_sortByLightCurrent_50 : decode cX5_sortByLightCurrent 50 = .ok (.getfield 29, 3) := by decide +kernel
theorem dX5_sortByLightCurrent_53 : decode cX5_sortByLightCurrent 53 = .ok (.iload_n 2, 1) := by decide +kernel
theorem dX5_sortByLightCurrent_54 : decode cX5_sortByLightCurrent 54 = .ok (.iconst 1, 1) := by decide +kernel
theorem dX5_sortByLightCurrent_55 : decode cX5_sortByLightCurrent 55 = .ok (.isub, 1) := by decide +kernel
theorem dX5_sortByLightCurrent_56 : decode cX5_sortByLightCurrent 56 = .ok (.iaload, 1) := by decide +kernel
theorem dX5_sortByLightCurrent_57 : decode cX5_sortByLightCurrent 57 = .ok (.iastore, 1) := by decide +kernel
theorem dX5_sortByLightCurrent_58 : decode cX5_sortByLightCurrent 58 = .ok (.iinc 2 (-1), 3) := by decide +kernel
theorem dX5_sortByLightCurrent_61 : decode cX5_sortByLightCurrent 61 = .ok (.goto (-49), 3) := by decide +kernel
theorem dX5_sortByLightCurrent_64 : decode cX5_sortByLightCurrent 64 = .ok (.aload_n 0, 1) := by decide +kernel
theorem dX5_sortByLightCurrent_65 : decode cX5_sortByLightCurrent 65 = .ok (.getfield 29, 3) := by decide +kernel
theorem dX5_sortByLightCurrent_68 : decode cX5_sortByLightCurrent 68 = .ok (.iload_n 2, 1) := by decide +kernel
theorem dX5_sortByLightCurrent_69 : decode cX5_sortByLightCurrent 69 = .ok (.iload_n 1, 1) := by decide +kernel
theorem dX5_sortByLightCurrent_70 : decode cX5_sortByLightCurrent 70 = .ok (.iastore, 1) := by decide +kernel
theorem dX5_sortByLightCurrent_71 : decode cX5_sortByLightCurrent 71 = .ok (.iinc 1 1, 3) := by decide +kernel
theorem dX5_sortByLightCurrent_74 : decode cX5_sortByLightCurrent 74 = .ok (.goto (-72), 3) := by decide +kernel
theorem dX5_sortByLightCurrent_77 : decode cX5_sortByLightCurrent 77 = .ok (.return_, 1) := by decide +kernel
end
section
theorem dX6_init_0 : decode cX6_init 0 = .ok (.aload_n 0, 1) := by decide +kernel
theorem dX6_init_1 : decode cX6_init 1 = .ok (.invokespecial 1, 3) := by decide +kernel
theorem dX6_init_4 : decode cX6_init 4 = .ok (.aload_n 0, 1) := by decide +kernel
theorem dX6_init_5 : decode cX6_init 5 = .ok (.bipush 24, 2) := by decide +kernel
theorem dX6_init_7 : decode cX6_init 7 = .ok (.newarray .int, 2) := by decide +kernel
theorem dX6_init_9 : decode cX6_init 9 = .ok (.putfield 7, 3) := by decide +kernel
theorem dX6_init_12 : decode cX6_init 12 = .ok (.aload_n 0, 1) := by decide +kernel
theorem dX6_init_13 : decode cX6_init 13 = .ok (.bipush 24, 2) := by decide +kernel
theorem dX6_init_15 : decode cX6_init 15 = .ok (.newarray .int, 2) := by decide +kernel
theorem dX6_init_17 : decode cX6_init 17 = .ok (.putfield 13, 3) := by decide +kernel
theorem dX6_init_20 : decode cX6_init 20 = .ok (.aload_n 0, 1) := by decide +kernel
theorem dX6_init_21 : decode cX6_init 21 = .ok (.bipush 24, 2) := by decide +kernel
theorem dX6_init_23 : decode cX6_init 23 = .ok (.newarray .int, 2) := by decide +kernel
theorem dX6_init_25 : decode cX6_init 25 = .ok (.putfield 16, 3) := by decide +kernel
theorem dX6_init_28 : decode cX6_init 28 = .ok (.aload_n 0, 1) := by decide +kernel
theorem dX6_init_29 : decode cX6_init 29 = .ok (.bipush 24, 2) := by decide +kernel
theorem dX6_init_31 : decode cX6_init 31 = .ok (.newarray .int, 2) := by decide +kernel
theorem dX6_init_33 : decode cX6_init 33 = .ok (.putfield 19, 3) := by decide +kernel
theorem dX6_init_36 : decode cX6_init 36 = .ok (.aload_n 0, 1) := by decide +kernel
theorem dX6_init_37 : decode cX6_init 37 = .ok (.bipush 24, 2) := by decide +kernel
theorem dX6_init_39 : decode cX6_init 39 = .ok (.newarray .boolean, 2) := by decide +kernel
theorem dX6_init_41 : decode cX6_init 41 = .ok (.putfield 22, 3) := by decide +kernel
theorem dX6_init_44 : decode cX6_init 44 = .ok (.aload_n 0, 1) := by decide +kernel
theorem dX6_init_45 : decode cX6_init 45 = .ok (.bipush 6, 2) := by decide +kernel
theorem dX6_init_47 : decode cX6_init 47 = .ok (.newarray .int, 2) := by decide +kernel
theorem dX6_init_49 : decode cX6_init 49 = .ok (.putfield 26, 3) := by decide +kernel
theorem dX6_init_52 : decode cX6_init 52 = .ok (.aload_n 0, 1) := by decide +kernel
theorem dX6_init_53 : decode cX6_init 53 = .ok (.bipush 72, 2) := by decide +kernel
theorem dX6_init_55 : decode cX6_init 55 = .ok (.newarray .int, 2) := by decide +kernel
theorem dX6_init_57 : decode cX6_init 57 = .ok (.putfield 29, 3) := by decide +kernel
theorem dX6_init_60 : decode cX6_init 60 = .ok (.aload_n 0, 1) := by decide +kernel
theorem dX6_init_61 : decode cX6_init 61 = .ok (.sipush 1201, 3) := by decide +kernel
theorem dX6_init_64 : decode cX6_init 64 = .ok (.newarray .long, 2) := by decide +kernel
theorem dX6_init_66 : decode cX6_init 66 = .ok (.putfield 32, 3) := by decide +kernel
theorem dX6_init_69 : decode cX6_init 69 = .ok (.aload_n 0, 1) := by decide +kernel
theorem dX6_init_70 : decode cX6_init 70 = .ok (.sipush 7201, 3) := by decide +kernel
theorem dX6_init_73 : decode cX6_init 73 = .ok (.newarray .int, 2) := by decide +kernel
theorem dX6_init_75 : decode cX6_init 75 = .ok (.putfield 36, 3) := by decide +kernel
theorem dX6_init_78 : decode cX6_init 78 = .ok (.aload_n 0, 1) := by decide +kernel
theorem dX6_init_79 : decode cX6_init 79 = .ok (.bipush 6, 2) := by decide +kernel
theorem dX6_init_81 : decode cX6_init 81 = .ok (.newarray .long, 2) := by decide +kernel
theorem dX6_init_83 : decode cX6_init 83 = .ok (.putfield 39, 3) := by decide +kernel
theorem dX6_init_86 : decode cX6_init 86 = .ok (.aload_n 0, 1) := by decide +kernel
theorem dX6_init_87 : decode cX6_init 87 = .ok (.bipush 24, 2) := by decide +kernel
theorem dX6_init_89 : decode cX6_init 89 = .ok (.newarray .int, 2) := by decide +kernel
theorem dX6_init_91 : decode cX6_init 91 = .ok (.putfield 42, 3) := by decide +kernel
theorem dX6_init_94 : decode cX6_init 94 = .ok (.aload_n 0, 1) := by decide +kernel
theorem dX6_init_95 : decode cX6_init 95 = .ok (.bipush 24, 2) := by decide +kernel
theorem dX6_init_97 : decode cX6_init 97 = .ok (.newarray .int, 2) := by decide +kernel
theorem dX6_init_99 : decode cX6_init 99 = .ok (.putfield 45, 3) := by decide +kernel
theorem dX6_init_102 : decode cX6_init 102 = .ok (.aload_n 0, 1) := by decide +kernel
theorem dX6_init_103 : decode cX6_init 103 = .ok (.bipush 7, 2) := by decide +kernel
theorem dX6_init_105 : decode cX6_init 105 = .ok (.putfield 48, 3) := by decide +kernel
theorem dX6_init_108 : decode cX6_init 108 = .ok (.return_, 1) := by decide +kernel
theorem dX6_isBetween_0 : decode cX6_isBetween 0 = .ok (.iload_n 0, 1) := by decide +kernel
theorem dX6_isBetween_1 : decode cX6_isBetween 1 = .ok (.iload_n 1, 1) := by decide +kernel
theorem dX6_isBetween_2 : decode cX6_isBetween 2 = .ok (.if_icmp .lt 12, 3) := by decide +kernel
theorem dX6_isBetween_5 : decode cX6_isBetween 5 = .ok (.iload_n 0, 1) := by decide +kernel
theorem dX6_isBetween_6 : decode cX6_isBetween 6 = .ok (.iload_n 2, 1) := by decide +kernel
theorem dX6_isBetween_7 : decode cX6_isBetween 7 = .ok (.if_icmp .gt 7, 3) := by decide +kernel
theorem dX6_isBetween_10 : decode cX6_isBetween 10 = .ok (.iconst 1, 1) := by decide +kernel
theorem dX6_isBetween_11 : decode cX6_isBetween 11 = .ok (.goto 4, 3) := by decide +kernel
theorem dX6_isBetween_14 : decode cX6_isBetween 14 = .ok (.iconst 0, 1) := by decide +kernel
theorem dX6_isBetween_15 : decode cX6_isBetween 15 = .ok (.ireturn, 1) := by decide +kernel
theorem dX6_isModule_0 : decode cX6_isModule 0 = .ok (.iload_n 1, 1) := by decide +kernel
theorem dX6_isModule_1 : decode cX6_isModule 1 = .ok (.iconst 0, 1) := by decide +kernel
theorem dX6_isModule_2 : decode cX6_isModule 2 = .ok (.aload_n 0, 1) := by decide +kernel
theorem dX6_isModule_3 : decode cX6_isModule 3 = .ok (.getfield 52, 3) := by decide +kernel
theorem dX6_isModule_6 : decode cX6_isModule 6 = .ok (.iconst 1, 1) := by decide +kernel
theorem dX6_isModule_7 : decode cX6_isModule 7 = .ok (.isub, 1) := by decide +kernel
theorem dX6_isModule_8 : decode cX6_isModule 8 = .ok (.invokestatic 55, 3) := by decide +kernel
theorem dX6_isModule_11 : decode cX6_isModule 11 = .ok (.ireturn, 1) := by decide +kernel
theorem dX6_isString_0 : decode cX6_isString 0 = .ok (.iload_n 1, 1) := by decide +kernel
theorem dX6_isString_1 : decode cX6_isString 1 = .ok (.iconst 0, 1) := by decide +kernel
theorem dX6_isString_2 : decode cX6_isString 2 = .ok (.aload_n 0, 1) := by decide +kernel
theorem dX6_isString_3 : decode cX6_isString 3 = .ok (.getfield 59, 3) := by decide +kernel
theorem dX6_isString_6 : decode cX6_isString 6 = .ok (.iconst 1, 1) := by decide +kernel
theorem dX6_isString_7 : decode cX6_isString 7 = .ok (.isub, 1) := by decide +kernel
theorem dX6_isString_8 : decode cX6_isString 8 = .ok (.invokestatic 55, 3) := by decide +kernel
theorem dX6_isString_11 : decode cX6_isString 11 = .ok (.ireturn, 1) := by decide +kernel
theorem dX6_addString_0 : decode cX6_addString 0 = .ok (.aload_n 0, 1) := by decide +kernel
theorem dX6_addString_1 : decode cX6_addString 1 = .ok (.getfield 59, 3) := by decide +kernel
theorem dX6_addString_4 : decode cX6_addString 4 = .ok (.bipush 6, 2) := by decide +kernel
theorem dX6_addString_6 : decode cX6_addString 6 = .ok (.if_icmp .ne 7, 3) := by decide +kernel
theorem dX6_addString_9 : decode cX6_addString 9 = .ok (.sipush (-1004), 3) := by decide +kernel
theorem dX6_addString_12 : decode cX6_addString 12 = .ok (.ireturn, 1) := by decide +kernel
theorem dX6_addString_13 : decode cX6_addString 13 = .ok (.aload_n 0, 1) := by decide +kernel
theorem dX6_addString_14 : decode cX6_addString 14 = .ok (.getfield 26, 3) := by decide +kernel
theorem dX6_addString_17 : decode cX6_addString 17 = .ok (.aload_n 0, 1) := by decide +kernel
theorem dX6_addString_18 : decode cX6_addString 18 = .ok (.getfield 59, 3) := by decide +kernel
theorem dX6_addString_21 : decode cX6_addString 21 = .ok (.iconst 0, 1) := by decide +kernel
theorem dX6_addString_22 : decode cX6_addString 22 = .ok (.iastore, 1) := by decide +kernel
theorem dX6_addString_23 : decode cX6_addString 23 = .ok (.aload_n 0, 1) := by decide +kernel
theorem dX6_addString_24 : decode cX6_addString 24 = .ok (.dup, 1) := by decide +kernel
theorem dX6_addString_25 : decode cX6_addString 25 = .ok (.getfield 59, 3) := by decide +kernel
theorem dX6_addString_28 : decode cX6_addString 28 = .ok (.iconst 1, 1) := by decide +kernel
theorem dX6_addString_29 : decode cX6_addString 29 = .ok (.iadd, 1) := by decide +kernel
theorem dX6_addString_30 : decode cX6_addString 30 = .ok (.putfield 59, 3) := by decide +kernel
theorem dX6_addString_33 : decode cX6_addString 33 = .ok (.aload_n 0, 1) := by decide +kernel
theorem dX6_addString_34 : decode cX6_addString 34 = .ok (.getfield 59, 3) := by decide +kernel
theorem dX6_addString_37 : decode cX6_addString 37 = .ok (.iconst 1, 1) := by decide +kernel
theorem dX6_addString_38 : decode cX6_addString 38 = .ok (.isub, 1) := by decide +kernel
theorem dX6_addString_39 : decode cX6_addString 39 = .ok (.ireturn, 1) := by decide +kernel
theorem dX6_addModule_0 : decode cX6_addModule 0 = .ok (.aload_n 0, 1) := by decide +kernel
theorem dX6_addModule_1 : decode cX6_addModule 1 = .ok (.iload_n 1, 1) := by decide +kernel
theorem dX6_addModule_2 : decode cX6_addModule 2 = .ok (.invokevirtual 62, 3) := by decide +kernel
theorem dX6_addModule_5 : decode cX6_addModule 5 = .ok (.ifCond .ne 7, 3) := by decide +kernel
theorem dX6_addModule_8 : decode cX6_addModule 8 = .ok (.sipush (-1001), 3) := by decide +kernel
theorem dX6_addModule_11 : decode cX6_addModule 11 = .ok (.ireturn, 1) := by decide +kernel
theorem dX6_addModule_12 : decode cX6_addModule 12 = .ok (.iload_n 2, 1) := by decide +kernel
theorem dX6_addModule_13 : decode cX6_addModule 13 = .ok (.iconst 1, 1) := by decide +kernel
theorem dX6_addModule_14 : decode cX6_addModule 14 = .ok (.sipush 1000, 3) := by decide +kernel
theorem dX6_addModule_17 : decode cX6_addModule 17 = .ok (.invokestatic 55, 3) := by decide +kernel
theorem dX6_addModule_20 : decode cX6_addModule 20 = .ok (.ifCond .eq 14, 3) := by decide +kernel
theorem dX6_addModule_23 : decode cX6_addModule 23 = .ok (.iload_n 3, 1) := by decide +kernel
theorem dX6_addModule_24 : decode cX6_addModule 24 = .ok (.iconst 1, 1) := by decide +kernel
theorem dX6_addModule_25 : decode cX6_addModule 25 = .ok (.sipush 600, 3) := by decide +kernel
theorem dX6_addModule_28 : decode cX6_addModule 28 = .ok (.invokestatic 55, 3) := by decide +kernel
theorem dX6_addModule_31 : decode cX6_addModule 31 = .ok (.ifCond .ne 7, 3) := by decide +kernel
theorem dX6_addModule_34 : decode cX6_addModule 34 = .ok (.sipush (-1003), 3) := by decide +kernel
theorem dX6_addModule_37 : decode cX6_addModule 37 = .ok (.ireturn, 1) := by decide +kernel
theorem dX6_addModule_38 : decode cX6_addModule 38 = .ok (.aload_n 0, 1) := by decide +kernel
theorem dX6_addModule_39 : decode cX6_addModule 39 = .ok (.getfield 52, 3) := by decide +kernel
theorem dX6_addModule_42 : decode cX6_addModule 42 = .ok (.bipush 24, 2) := by decide +kernel
theorem dX6_addModule_44 : decode cX6_addModule 44 = .ok (.if_icmp .eq 14, 3) := by decide +kernel
theorem dX6_addModule_47 : decode cX6_addModule 47 = .ok (.aload_n 0, 1) := by decide +kernel
theorem dX6_addModule_48 : decode cX6_addModule 48 = .ok (.getfield 26, 3) := by decide +kernel
theorem dX6_addModule_51 : decode cX6_addModule 51 = .ok (.iload_n 1, 1) := by decide +kernel
theorem dX6_addModule_52 : decode cX6_addModule 52 = .ok (.iaload, 1) := by decide +kernel
theorem dX6_addModule_53 : decode cX6_addModule 53 = .ok (.bipush 12, 2) := by decide +kernel
theorem dX6_addModule_55 : decode cX6_addModule 55 = .ok (.if_icmp .ne 7, 3) := by decide +kernel
theorem dX6_addModule_58 : decode cX6_addModule 58 = .ok (.sipush (-1004), 3) := by decide +kernel
theorem dX6_addModule_61 : decode cX6_addModule 61 = .ok (.ireturn, 1) := by decide +kernel
theorem dX6_addModule_62 : decode cX6_addModule 62 = .ok (.aload_n 0, 1) := by decide +kernel
theorem dX6_addModule_63 : decode cX6_addModule 63 = .ok (.getfield 7, 3) := by decide +kernel
theorem dX6_addModule_66 : decode cX6_addModule 66 = .ok (.aload_n 0, 1) := by decide +kernel
theorem dX6_addModule_67 : decode cX6_addModule 67 = .ok (.getfield 52, 3) := by decide +kernel
theorem dX6_addModule_70 : decode cX6_addModule 70 = .ok (.iload_n 2, 1) := by decide +kernel
theorem dX6_addModule_71 : decode cX6_addModule 71 = .ok (.iastore, 1) := by decide +kernel
theorem dX6_addModule_72 : decode cX6_addModule 72 = .ok (.aload_n 0, 1) := by decide +kernel
theorem dX6_addModule_73 : decode cX6_addModule 73 = .ok (.getfield 13, 3) := by decide +kernel
theorem dX6_addModule_76 : decode cX6_addModule 76 = .ok (.aload_n 0, 1) := by decide +kernel
theorem dX6_addModule_77 : decode cX6_addModule 77 = .ok (.getfield 52, 3) := by decide +kernel
theorem dX6_addModule_80 : decode cX6_addModule 80 = .ok (.iload_n 3, 1) := by decide +kernel
theorem dX6_addModule_81 : decode cX6_addModule 81 = .ok (.iastore, 1) := by decide +kernel
theorem dX6_addModule_82 : decode cX6_addModule 82 = .ok (.aload_n 0, 1) := by decide +kernel
theorem dX6_addModule_83 : decode cX6_addModule 83 = .ok (.getfield 16, 3) := by decide +kernel
theorem dX6_addModule_86 : decode cX6_addModule 86 = .ok (.aload_n 0, 1) := by decide +kernel
theorem dX6_addModule_87 : decode cX6_addModule 87 = .ok (.getfield 52, 3) := by decide +kernel
theorem dX6_addModule_90 : decode cX6_addModule 90 = .ok (.sipush 1000, 3) := by decide +kernel
theorem dX6_addModule_93 : decode cX6_addModule 93 = .ok (.iastore, 1) := by decide +kernel
theorem dX6_addModule_94 : decode cX6_addModule 94 = .ok (.aload_n 0, 1) := by decide +kernel
theorem dX6_addModule_95 : decode cX6_addModule 95 = .ok (.getfield 19, 3) := by decide +kernel
theorem dX6_addModule_98 : decode cX6_addModule 98 = .ok (.aload_n 0, 1) := by decide +kernel
theorem dX6_addModule_99 : decode cX6_addModule 99 = .ok (.getfield 52, 3) := by decide +kernel
theorem dX6_addModule_102 : decode cX6_addModule 102 = .ok (.iconst 0, 1) := by decide +kernel
theorem dX6_addModule_103 : decode cX6_addModule 103 = .ok (.iastore, 1) := by decide +kernel
theorem dX6_addModule_104 : decode cX6_addModule 104 = .ok (.aload_n 0, 1) := by decide +kernel
theorem dX6_addModule_105 : decode cX6_addModule 105 = .ok (.getfield 22, 3) := by decide +kernel
theorem dX6_addModule_108 : decode cX6_addModule 108 = .ok (.aload_n 0, 1) := by decide +kernel
theorem dX6_addModule_109 : decode cX6_addModule 109 = .ok (.getfield 52, 3) := by decide +kernel
theorem dX6_addModule_112 : decode cX6_addModule 112 = .ok (.iconst 1, 1) := by decide +kernel
theorem dX6_addModule_113 : decode cX6_addModule 113 = .ok (.bastore, 1) := by decide +kernel
theorem dX6_addModule_114 : decode cX6_addModule 114 = .ok (.aload_n 0, 1) := by decide +kernel
theorem dX6_addModule_115 : decode cX6_addModule 115 = .ok (.aload_n 0, 1) := by decide +kernel
theorem dX6_addModule_116 : decode cX6_addModule 116 = .ok (.getfield 52, 3) := by decide +kernel
theorem dX6_addModule_119 : decode cX6_addModule 119 = .ok (.iload_n 1, 1) := by decide +kernel
theorem dX6_addModule_120 : decode cX6_addModule 120 = .ok (.invokevirtual 66, 3) := by decide +kernel
theorem dX6_addModule_123 : decode cX6_addModule 123 = .ok (.aload_n 0, 1) := by decide +kernel
theorem dX6_addModule_124 : decode cX6_addModule 124 = .ok (.dup, 1) := by decide +kernel
theorem dX6_addModule_125 : decode cX6_addModule 125 = .ok (.getfield 52, 3) := by decide +kernel
theorem dX6_addModule_128 : decode cX6_addModule 128 = .ok (.iconst 1, 1) := by decide +kernel
theorem dX6_addModule_129 : decode cX6_addModule 129 = .ok (.iadd, 1) := by decide +kernel
theorem dX6_addModule_130 : decode cX6_addModule 130 = .ok (.putfield 52, 3) := by decide +kernel
theorem dX6_addModule_133 : decode cX6_addModule 133 = .ok (.aload_n 0, 1) := by decide +kernel
theorem dX6_addModule_134 : decode cX6_addModule 134 = .ok (.getfield 52, 3) := by decide +kernel
theorem dX6_addModule_137 : decode cX6_addModule 137 = .ok (.iconst 1, 1) := by decide +kernel
theorem dX6_addModule_138 : decode cX6_addModule 138 = .ok (.isub, 1) := by decide +kernel
theorem dX6_addModule_139 : decode cX6_addModule 139 = .ok (.ireturn, 1) := by decide +kernel
theorem dX6_setIrradiance_0 : decode cX6_setIrradiance 0 = .ok (.aload_n 0, 1) := by decide +kernel
theorem dX6_setIrradiance_1 : decode cX6_setIrradiance 1 = .ok (.iload_n 1, 1) := by decide +kernel
theorem dX6_setIrradiance_2 : decode cX6_setIrradiance 2 = .ok (.invokevirtual 70, 3) := by decide +kernel
theorem dX6_setIrradiance_5 : decode cX6_setIrradiance 5 = .ok (.ifCond .ne 7, 3) := by decide +kernel
theorem dX6_setIrradiance_8 : decode cX6_setIrradiance 8 = .ok (.sipush (-1002), 3) := by decide +kernel
theorem dX6_setIrradiance_11 : decode cX6_setIrradiance 11 = .ok (.ireturn, 1) := by decide +kernel
theorem dX6_setIrradiance_12 : decode cX6_setIrradiance 12 = .ok (.iload_n 2, 1) := by decide +kernel
theorem dX6_setIrradiance_13 : decode cX6_setIrradiance 13 = .ok (.iconst 0, 1) := by decide +kernel
theorem dX6_setIrradiance_14 : decode cX6_setIrradiance 14 = .ok (.sipush 1200, 3) := by decide +kernel
theorem dX6_setIrradiance_17 : decode cX6_setIrradiance 17 = .ok (.invokestatic 55, 3) := by decide +kernel
theorem dX6_setIrradiance_20 : decode cX6_setIrradiance 20 = .ok (.ifCond .ne 7, 3) := by decide +kernel
theorem dX6_setIrradiance_23 : decode cX6_setIrradiance 23 = .ok (.sipush (-1003), 3) := by decide +kernel
theorem dX6_setIrradiance_26 : decode cX6_setIrradiance 26 = .ok (.ireturn, 1) := by decide +kernel
theorem dX6_setIrradiance_27 : decode cX6_setIrradiance 27 = .ok (.aload_n 0, 1) := by decide +kernel
theorem dX6_setIrradiance_28 : decode cX6_setIrradiance 28 = .ok (.getfield 16, 3) := by decide +kernel
theorem dX6_setIrradiance_31 : decode cX6_setIrradiance 31 = .ok (.iload_n 1, 1) := by decide +kernel
theorem dX6_setIrradiance_32 : decode cX6_setIrradiance 32 = .ok (.iaload, 1) := by decide +kernel
theorem dX6_setIrradiance_33 : decode cX6_setIrradiance 33 = .ok (.istore_n 3, 1) := by decide +kernel
theorem dX6_setIrradiance_34 : decode cX6_setIrradiance 34 = .ok (.aload_n 0, 1) := by decide +kernel
theorem dX6_setIrradiance_35 : decode cX6_setIrradiance 35 = .ok (.getfield 16, 3) := by decide +kernel
theorem dX6_setIrradiance_38 : decode cX6_setIrradiance 38 = .ok (.iload_n 1, 1) := by decide +kernel
theorem dX6_setIrradiance_39 : decode cX6_setIrradiance 39 = .ok (.iload_n 2, 1) := by decide +kernel
theorem dX6_setIrradiance_40 : decode cX6_setIrradiance 40 = .ok (.iastore, 1) := by decide +kernel
theorem dX6_setIrradiance_41 : decode cX6_setIrradiance 41 = .ok (.iload_n 3, 1) := by decide +kernel
theorem dX6_setIrradiance_42 : decode cX6_setIrradiance 42 = .ok (.ireturn, 1) := by decide +kernel
theorem dX6_shade_0 : decode cX6_shade 0 = .ok (.aload_n 0, 1) := by decide +kernel
theorem dX6_shade_1 : decode cX6_shade 1 = .ok (.iload_n 1, 1) := by decide +kernel
theorem dX6_shade_2 : decode cX6_shade 2 = .ok (.invokevirtual 70, 3) := by decide +kernel
theorem dX6_shade_5 : decode cX6_shade 5 = .ok (.ifCond .eq 11, 3) := by decide +kernel
theorem dX6_shade_8 : decode cX6_shade 8 = .ok (.aload_n 0, 1) := by decide +kernel
theorem dX6_shade_9 : decode cX6_shade 9 = .ok (.iload_n 2, 1) := by decide +kernel
theorem dX6_shade_10 : decode cX6_shade 10 = .ok (.invokevirtual 70, 3) := by decide +kernel
theorem dX6_shade_13 : decode cX6_shade 13 = .ok (.ifCond .ne 7, 3) := by decide +kernel
theorem dX6_shade_16 : decode cX6_shade 16 = .ok (.sipush (-1002), 3) := by decide +kernel
theorem dX6_shade_19 : decode cX6_shade 19 = .ok (.ireturn, 1) := by decide +kernel
theorem dX6_shade_20 : decode cX6_shade 20 = .ok (.iload_n 1, 1) := by decide +kernel
theorem dX6_shade_21 : decode cX6_shade 21 = .ok (.iload_n 2, 1) := by decide +kernel
theorem dX6_shade_22 : decode cX6_shade 22 = .ok (.if_icmp .gt 13, 3) := by decide +kernel
theorem dX6_shade_25 : decode cX6_shade 25 = .ok (.iload_n 3, 1) := by decide +kernel
theorem dX6_shade_26 : decode cX6_shade 26 = .ok (.iconst 0, 1) := by decide +kernel
theorem dX6_shade_27 : decode cX6_shade 27 = .ok (.bipush 100, 2) := by decide +kernel
theorem dX6_shade_29 : decode cX6_shade 29 = .ok (.invokestatic 55, 3) := by decide +kernel
theorem dX6_shade_32 : decode cX6_shade 32 = .ok (.ifCond .ne 7, 3) := by decide +kernel
theorem dX6_shade_35 : decode cX6_shade 35 = .ok (.sipush (-1003), 3) := by decide +kernel
theorem dX6_shade_38 : decode cX6_shade 38 = .ok (.ireturn, 1) := by decide +kernel
theorem dX6_shade_39 : decode cX6_shade 39 = .ok (.iconst 0, 1) := by decide +kernel
theorem dX6_shade_40 : decode cX6_shade 40 = .ok (.istore 4, 2) := by decide +kernel
theorem dX6_shade_42 : decode cX6_shade 42 = .ok (.iload_n 1, 1) := by decide +kernel
theorem dX6_shade_43 : decode cX6_shade 43 = .ok (.istore 5, 2) := by decide +kernel
theorem dX6_shade_45 : decode cX6_shade 45 = .ok (.iload 5, 2) := by decide +kernel
theorem dX6_shade_47 : decode cX6_shade 47 = .ok (.iload_n 2, 1) := by decide +kernel
theorem dX6_shade_48 : decode cX6_shade 48 = .ok (.if_icmp .gt 57, 3) := by decide +kernel
theorem dX6_shade_51 : decode cX6_shade 51 = .ok (.aload_n 0, 1) := by decide +kernel
theorem dX6_shade_52 : decode cX6_shade 52 = .ok (.getfield 16, 3) := by decide +kernel
theorem dX6_shade_55 : decode cX6_shade 55 = .ok (.iload 5, 2) := by decide +kernel
theorem dX6_shade_57 : decode cX6_shade 57 = .ok (.iaload, 1) := by decide +kernel
theorem dX6_shade_58 : decode cX6_shade 58 = .ok (.bipush 100, 2) := by decide +kernel
theorem dX6_shade_60 : decode cX6_shade 60 = .ok (.iload_n 3, 1) := by decide +kernel
theorem dX6_shade_61 : decode cX6_shade 61 = .ok (.isub, 1) := by decide +kernel
theorem dX6_shade_62 : decode cX6_shade 62 = .ok (.imul, 1) := by decide +kernel
theorem dX6_shade_63 : decode cX6_shade 63 = .ok (.bipush 100, 2) := by decide +kernel
theorem dX6_shade_65 : decode cX6_shade 65 = .ok (.idiv, 1) := by decide +kernel
theorem dX6_shade_66 : decode cX6_shade 66 = .ok (.istore 6, 2) := by decide +kernel
theorem dX6_shade_68 : decode cX6_shade 68 = .ok (.iload 4, 2) := by decide +kernel
theorem dX6_shade_70 : decode cX6_shade 70 = .ok (.iload 6, 2) := by decide +kernel
theorem dX6_shade_72 : decode cX6_shade 72 = .ok (.aload_n 0, 1) := by decide +kernel
theorem dX6_shade_73 : decode cX6_shade 73 = .ok (.getfield 16, 3) := by decide +kernel
theorem dX6_shade_76 : decode cX6_shade 76 = .ok (.iload 5, 2) := by decide +kernel
theorem dX6_shade_78 : decode cX6_shade 78 = .ok (.iaload, 1) := by decide +kernel
theorem dX6_shade_79 : decode cX6_shade 79 = .ok (.if_icmp .ne 7, 3) := by decide +kernel
theorem dX6_shade_82 : decode cX6_shade 82 = .ok (.iconst 0, 1) := by decide +kernel
theorem dX6_shade_83 : decode cX6_shade 83 = .ok (.goto 4, 3) := by decide +kernel
theorem dX6_shade_86 : decode cX6_shade 86 = .ok (.iconst 1, 1) := by decide +kernel
theorem dX6_shade_87 : decode cX6_shade 87 = .ok (.iadd, 1) := by decide +kernel
theorem dX6_shade_88 : decode cX6_shade 88 = .ok (.istore 4, 2) := by decide +kernel
theorem dX6_shade_90 : decode cX6_shade 90 = .ok (.aload_n 0, 1) := by decide +kernel
theorem dX6_shade_91 : decode cX6_shade 91 = .ok (.getfield 16, 3) := by decide +kernel
theorem dX6_shade_94 : decode cX6_shade 94 = .ok (.iload 5, 2) := by decide +kernel
theorem dX6_shade_96 : decode cX6_shade 96 = .ok (.iload 6, 2) := by decide +kernel
theorem dX6_shade_98 : decode cX6_shade 98 = .ok (.iastore, 1) := by decide +kernel
theorem dX6_shade_99 : decode cX6_shade 99 = .ok (.iinc 5 1, 3) := by decide +kernel
theorem dX6_shade_102 : decode cX6_shade 102 = .ok (.goto (-57), 3) := by decide +kernel
theorem dX6_shade_105 : decode cX6_shade 105 = .ok (.iload 4, 2) := by decide +kernel
theorem dX6_shade_107 : decode cX6_shade 107 = .ok (.ireturn, 1) := by decide +kernel
theorem dX6_setResistance_0 : decode cX6_setResistance 0 = .ok (.aload_n 0, 1) := by decide +kernel
theorem dX6_setResistance_1 : decode cX6_setResistance 1 = .ok (.iload_n 1, 1) := by decide +kernel
theorem dX6_setResistance_2 : decode cX6_setResistance 2 = .ok (.invokevirtual 70, 3) := by decide +kernel
theorem dX6_setResistance_5 : decode cX6_setResistance 5 = .ok (.ifCond .ne 7, 3) := by decide +kernel
theorem dX6_setResistance_8 : decode cX6_setResistance 8 = .ok (.sipush (-1002), 3) := by decide +kernel
theorem dX6_setResistance_11 : decode cX6_setResistance 11 = .ok (.ireturn, 1) := by decide +kernel
theorem dX6_setResistance_12 : decode cX6_setResistance 12 = .ok (.iload_n 2, 1) := by decide +kernel
theorem dX6_setResistance_13 : decode cX6_setResistance 13 = .ok (.iconst 0, 1) := by decide +kernel
theorem dX6_setResistance_14 : decode cX6_setResistance 14 = .ok (.sipush 5000, 3) := by decide +kernel
theorem dX6_setResistance_17 : decode cX6_setResistance 17 = .ok (.invokestatic 55, 3) := by decide +kernel
theorem dX6_setResistance_20 : decode cX6_setResistance 20 = .ok (.ifCond .ne 7, 3) := by decide +kernel
theorem dX6_setResistance_23 : decode cX6_setResistance 23 = .ok (.sipush (-1003), 3) := by decide +kernel
theorem dX6_setResistance_26 : decode cX6_setResistance 26 = .ok (.ireturn, 1) := by decide +kernel
theorem dX6_setResistance_27 : decode cX6_setResistance 27 = .ok (.aload_n 0, 1) := by decide +kernel
theorem dX6_setResistance_28 : decode cX6_setResistance 28 = .ok (.getfield 19, 3) := by decide +kernel
theorem dX6_setResistance_31 : decode cX6_setResistance 31 = .ok (.iload_n 1, 1) := by decide +kernel
theorem dX6_setResistance_32 : decode cX6_setResistance 32 = .ok (.iaload, 1) := by decide +kernel
theorem dX6_setResistance_33 : decode cX6_setResistance 33 = .ok (.istore_n 3, 1) := by decide +kernel
theorem dX6_setResistance_34 : decode cX6_setResistance 34 = .ok (.aload_n 0, 1) := by decide +kernel
theorem dX6_setResistance_35 : decode cX6_setResistance 35 = .ok (.getfield 19, 3) := by decide +kernel
theorem dX6_setResistance_38 : decode cX6_setResistance 38 = .ok (.iload_n 1, 1) := by decide +kernel
theorem dX6_setResistance_39 : decode cX6_setResistance 39 = .ok (.iload_n 2, 1) := by decide +kernel
theorem dX6_setResistance_40 : decode cX6_setResistance 40 = .ok (.iastore, 1) := by decide +kernel
theorem dX6_setResistance_41 : decode cX6_setResistance 41 = .ok (.iload_n 3, 1) := by decide +kernel
theorem dX6_setResistance_42 : decode cX6_setResistance 42 = .ok (.ireturn, 1) := by decide +kernel
theorem dX6_setBypassDiode_0 : decode cX6_setBypassDiode 0 = .ok (.aload_n 0, 1) := by decide +kernel
theorem dX6_setBypassDiode_1 : decode cX6_setBypassDiode 1 = .ok (.iload_n 1, 1) := by decide +kernel
theorem dX6_setBypassDiode_2 : decode cX6_setBypassDiode 2 = .ok (.invokevirtual 70, 3) := by decide +kernel
theorem dX6_setBypassDiode_5 : decode cX6_setBypassDiode 5 = .ok (.ifCond .ne 7, 3) := by decide +kernel
theorem dX6_setBypassDiode_8 : decode cX6_setBypassDiode 8 = .ok (.sipush (-1002), 3) := by decide +kernel
theorem dX6_setBypassDiode_11 : decode cX6_setBypassDiode 11 = .ok (.ireturn, 1) := by decide +kernel
theorem dX6_setBypassDiode_12 : decode cX6_setBypassDiode 12 = .ok (.aload_n 0, 1) := by decide +kernel
theorem dX6_setBypassDiode_13 : decode cX6_setBypassDiode 13 = .ok (.getfield 22, 3) := by decide +kernel
theorem dX6_setBypassDiode_16 : decode cX6_setBypassDiode 16 = .ok (.iload_n 1, 1) := by decide +kernel
theorem dX6_setBypassDiode_17 : decode cX6_setBypassDiode 17 = .ok (.baload, 1) := by decide +kernel
theorem dX6_setBypassDiode_18 : decode cX6_setBypassDiode 18 = .ok (.istore_n 3, 1) := by decide +kernel
theorem dX6_setBypassDiode_19 : decode cX6_setBypassDiode 19 = .ok (.aload_n 0, 1) := by decide +kernel
theorem dX6_setBypassDiode_20 : decode cX6_setBypassDiode 20 = .ok (.getfield 22, 3) := by decide +kernel
theorem dX6_setBypassDiode_23 : decode cX6_setBypassDiode 23 = .ok (.iload_n 1, 1) := by decide +kernel
theorem dX6_setBypassDiode_24 : decode cX6_setBypassDiode 24 = .ok (.iload_n 2, 1) := by decide +kernel
theorem dX6_setBypassDiode_25 : decode cX6_setBypassDiode 25 = .ok (.bastore, 1) := by decide +kernel
theorem dX6_setBypassDiode_26 : decode cX6_setBypassDiode 26 = .ok (.iload_n 3, 1) := by decide +kernel
theorem dX6_setBypassDiode_27 : decode cX6_setBypassDiode 27 = .ok (.iload_n 2, 1) := by decide +kernel
theorem dX6_setBypassDiode_28 : decode cX6_setBypassDiode 28 = .ok (.if_icmp .ne 7, 3) := by decide +kernel
theorem dX6_setBypassDiode_31 : decode cX6_setBypassDiode 31 = .ok (.iconst 0, 1) := by decide +kernel
theorem dX6_setBypassDiode_32 : decode cX6_setBypassDiode 32 = .ok (.goto 4, 3) := by decide +kernel
theorem dX6_setBypassDiode_35 : decode cX6_setBypassDiode 35 = .ok (.iconst 1, 1) := by decide +kernel
theorem dX6_setBypassDiode_36 : decode cX6_setBypassDiode 36 = .ok (.ireturn, 1) := by decide +kernel
theorem dX6_setDiodeDrop_0 : decode cX6_setDiodeDrop 0 = .ok (.iload_n 1, 1) := by decide +kernel
theorem dX6_setDiodeDrop_1 : decode cX6_setDiodeDrop 1 = .ok (.iconst 0, 1) := by decide +kernel
theorem dX6_setDiodeDrop_2 : decode cX6_setDiodeDrop 2 = .ok (.bipush 20, 2) := by decide +kernel
theorem dX6_setDiodeDrop_4 : decode cX6_setDiodeDrop 4 = .ok (.invokestatic 55, 3) := by decide +kernel
theorem dX6_setDiodeDrop_7 : decode cX6_setDiodeDrop 7 = .ok (.ifCond .ne 7, 3) := by decide +kernel
theorem dX6_setDiodeDrop_10 : decode cX6_setDiodeDrop 10 = .ok (.sipush (-1003), 3) := by decide +kernel
theorem dX6_setDiodeDrop_13 : decode cX6_setDiodeDrop 13 = .ok (.ireturn, 1) := by decide +kernel
theorem dX6_setDiodeDrop_14 : decode cX6_setDiodeDrop 14 = .ok (.aload_n 0, 1) := by decide +kernel
theorem dX6_setDiodeDrop_15 : decode cX6_setDiodeDrop 15 = .ok (.getfield 48, 3) := by decide +kernel
theorem dX6_setDiodeDrop_18 : decode cX6_setDiodeDrop 18 = .ok (.istore_n 2, 1) := by decide +kernel
theorem dX6_setDiodeDrop_19 : decode cX6_setDiodeDrop 19 = .ok (.aload_n 0, 1) := by decide +kernel
theorem dX6_setDiodeDrop_20 : decode cX6_setDiodeDrop 20 = .ok (.iload_n 1, 1) := by decide +kernel
theorem dX6_setDiodeDrop_21 : decode cX6_setDiodeDrop 21 = .ok (.putfield 48, 3) := by decide +kernel
theorem dX6_setDiodeDrop_24 : decode cX6_setDiodeDrop 24 = .ok (.iload_n 2, 1) := by decide +kernel
theorem dX6_setDiodeDrop_25 : decode cX6_setDiodeDrop 25 = .ok (.ireturn, 1) := by decide +kernel
theorem dX6_append_0 : decode cX6_append 0 = .ok (.aload_n 0, 1) := by decide +kernel
theorem dX6_append_1 : decode cX6_append 1 = .ok (.getfield 29, 3) := by decide +kernel
theorem dX6_append_4 : decode cX6_append 4 = .ok (.bipush 12, 2) := by decide +kernel
theorem dX6_append_6 : decode cX6_append 6 = .ok (.iload_n 2, 1) := by decide +kernel
theorem dX6_append_7 : decode cX6_append 7 = .ok (.imul, 1) := by decide +kernel
theorem dX6_append_8 : decode cX6_append 8 = .ok (.aload_n 0, 1) := by decide +kernel
theorem dX6_append_9 : decode cX6_append 9 = .ok (.getfield 26, 3) := by decide +kernel
theorem dX6_append_12 : decode cX6_append 12 = .ok (.iload_n 2, 1) := by decide +kernel
theorem dX6_append_13 : decode cX6_append 13 = .ok (.iaload, 1) := by decide +kernel
theorem dX6_append_14 : decode cX6_append 14 = .ok (.iadd, 1) := by decide +kernel
theorem dX6_append_15 : decode cX6_append 15 = .ok (.iload_n 1, 1) := by decide +kernel
theorem dX6_append_16 : decode cX6_append 16 = .ok (.iastore, 1) := by decide +kernel
theorem dX6_append_17 : decode cX6_append 17 = .ok (.aload_n 0, 1) := by decide +kernel
theorem dX6_append_18 : decode cX6_append 18 = .ok (.getfield 26, 3) := by decide +kernel
theorem dX6_append_21 : decode cX6_append 21 = .ok (.iload_n 2, 1) := by decide +kernel
theorem dX6_append_22 : decode cX6_append 22 = .ok (.dup2, 1) := by decide +kernel
theorem dX6_append_23 : decode cX6_append 23 = .ok (.iaload, 1) := by decide +kernel
theorem dX6_append_24 : decode cX6_append 24 = .ok (.iconst 1, 1) := by decide +kernel
theorem dX6_append_25 : decode cX6_append 25 = .ok (.iadd, 1) := by decide +kernel
theorem dX6_append_26 : decode cX6_append 26 = .ok (.iastore, 1) := by decide +kernel
theorem dX6_append_27 : decode cX6_append 27 = .ok (.return_, 1) := by decide +kernel
theorem dX6_placeOf_0 : decode cX6_placeOf 0 = .ok (.iconst 0, 1) := by decide +kernel
theorem dX6_placeOf_1 : decode cX6_placeOf 1 = .ok (.istore_n 2, 1) := by decide +kernel
theorem dX6_placeOf_2 : decode cX6_placeOf 2 = .ok (.iload_n 2, 1) := by decide +kernel
theorem dX6_placeOf_3 : decode cX6_placeOf 3 = .ok (.aload_n 0, 1) := by decide +kernel
theorem dX6_placeOf_4 : decode cX6_placeOf 4 = .ok (.getfield 59, 3) := by decide +kernel
theorem dX6_placeOf_7 : decode cX6_placeOf 7 = .ok (.if_icmp .ge 49, 3) := by decide +kernel
theorem dX6_placeOf_10 : decode cX6_placeOf 10 = .ok (.iconst 0, 1) := by decide +kernel
theorem dX6_placeOf_11 : decode cX6_placeOf 11 = .ok (.istore_n 3, 1) := by decide +kernel
theorem dX6_placeOf_12 : decode cX6_placeOf 12 = .ok (.iload_n 3, 1) := by decide +kernel
theorem dX6_placeOf_13 : decode cX6_placeOf 13 = .ok (.aload_n 0, 1) := by decide +kernel
theorem dX6_placeOf_14 : decode cX6_placeOf 14 = .ok (.getfield 26, 3) := by decide +kernel
theorem dX6_placeOf_17 : decode cX6_placeOf 17 = .ok (.iload_n 2, 1) := by decide +kernel
theorem dX6_placeOf_18 : decode cX6_placeOf 18 = .ok (.iaload, 1) := by decide +kernel
theorem dX6_placeOf_19 : decode cX6_placeOf 19 = .ok (.if_icmp .ge 31, 3) := by decide +kernel
theorem dX6_placeOf_22 : decode cX6_placeOf 22 = .ok (.aload_n 0, 1) := by decide +kernel
theorem dX6_placeOf_23 : decode cX6_placeOf 23 = .ok (.getfield 29, 3) := by decide +kernel
theorem dX6_placeOf_26 : decode cX6_placeOf 26 = .ok (.bipush 12, 2) := by decide +kernel
theorem dX6_placeOf_28 : decode cX6_placeOf 28 = .ok (.iload_n 2, 1) := by decide +kernel
theorem dX6_placeOf_29 : decode cX6_placeOf 29 = .ok (.imul, 1) := by decide +kernel
theorem dX6_placeOf_30 : decode cX6_placeOf 30 = .ok (.iload_n 3, 1) := by decide +kernel
theorem dX6_placeOf_31 : decode cX6_placeOf 31 = .ok (.iadd, 1) := by decide +kernel
theorem dX6_placeOf_32 : decode cX6_placeOf 32 = .ok (.iaload, 1) := by decide +kernel
theorem dX6_placeOf_33 : decode cX6_placeOf 33 = .ok (.iload_n 1, 1) := by decide +kernel
theorem dX6_placeOf_34 : decode cX6_placeOf 34 = .ok (.if_icmp .ne 10, 3) := by decide +kernel
theorem dX6_placeOf_37 : decode cX6_placeOf 37 = .ok (.bipush 12, 2) := by decide +kernel
theorem dX6_placeOf_39 : decode cX6_placeOf 39 = .ok (.iload_n 2, 1) := by decide +kernel
theorem dX6_placeOf_40 : decode cX6_placeOf 40 = .ok (.imul, 1) := by decide +kernel
theorem dX6_placeOf_41 : decode cX6_placeOf 41 = .ok (.iload_n 3, 1) := by decide +kernel
theorem dX6_placeOf_42 : decode cX6_placeOf 42 = .ok (.iadd, 1) := by decide +kernel
theorem dX6_placeOf_43 : decode cX6_placeOf 43 = .ok (.ireturn, 1) := by decide +kernel
theorem dX6_placeOf_44 : decode cX6_placeOf 44 = .ok (.iinc 3 1, 3) := by decide +kernel
theorem dX6_placeOf_47 : decode cX6_placeOf 47 = .ok (.goto (-35), 3) := by decide +kernel
theorem dX6_placeOf_50 : decode cX6_placeOf 50 = .ok (.iinc 2 1, 3) := by decide +kernel
theorem dX6_placeOf_53 : decode cX6_placeOf 53 = .ok (.goto (-51), 3) := by decide +kernel
theorem dX6_placeOf_56 : decode cX6_placeOf 56 = .ok (.sipush (-1005), 3) := by decide +kernel
theorem dX6_placeOf_59 : decode cX6_placeOf 59 = .ok (.ireturn, 1) := by decide +kernel
theorem dX6_remove_0 : decode cX6_remove 0 = .ok (.aload_n 0, 1) := by decide +kernel
theorem dX6_remove_1 : decode cX6_remove 1 = .ok (.iload_n 1, 1) := by decide +kernel
theorem dX6_remove_2 : decode cX6_remove 2 = .ok (.invokevirtual 73, 3) := by decide +kernel
theorem dX6_remove_5 : decode cX6_remove 5 = .ok (.istore_n 2, 1) := by decide +kernel
theorem dX6_remove_6 : decode cX6_remove 6 = .ok (.iload_n 2, 1) := by decide +kernel
theorem dX6_remove_7 : decode cX6_remove 7 = .ok (.bipush 12, 2) := by decide +kernel
theorem dX6_remove_9 : decode cX6_remove 9 = .ok (.idiv, 1) := by decide +kernel
theorem dX6_remove_10 : decode cX6_remove 10 = .ok (.istore_n 3, 1) := by decide +kernel
theorem dX6_remove_11 : decode cX6_remove 11 = .ok (.aload_n 0, 1) := by decide +kernel
theorem dX6_remove_12 : decode cX6_remove 12 = .ok (.getfield 26, 3) := by decide +kernel
theorem dX6_remove_15 : decode cX6_remove 15 = .ok (.iload_n 3, 1) := by decide +kernel
theorem dX6_remove_16 : decode cX6_remove 16 = .ok (.dup2, 1) := by decide +kernel
theorem dX6_remove_17 : decode cX6_remove 17 = .ok (.iaload, 1) := by decide +kernel
theorem dX6_remove_18 : decode cX6_remove 18 = .ok (.iconst 1, 1) := by decide +kernel
theorem dX6_remove_19 : decode cX6_remove 19 = .ok (.isub, 1) := by decide +kernel
theorem dX6_remove_20 : decode cX6_remove 20 = .ok (.iastore, 1) := by decide +kernel
theorem dX6_remove_21 : decode cX6_remove 21 = .ok (.iload_n 2, 1) := by decide +kernel
theorem dX6_remove_22 : decode cX6_remove 22 = .ok (.istore 4, 2) := by decide +kernel
theorem dX6_remove_24 : decode cX6_remove 24 = .ok (.iload 4, 2) := by decide +kernel
theorem dX6_remove_26 : decode cX6_remove 26 = .ok (.bipush 12, 2) := by decide +kernel
theorem dX6_remove_28 : decode cX6_remove 28 = .ok (.iload_n 3, 1) := by decide +kernel
theorem dX6_remove_29 : decode cX6_remove 29 = .ok (.imul, 1) := by decide +kernel
theorem dX6_remove_30 : decode cX6_remove 30 = .ok (.aload_n 0, 1) := by decide +kernel
theorem dX6_remove_31 : decode cX6_remove 31 = .ok (.getfield 26, 3) := by decide +kernel
theorem dX6_remove_34 : decode cX6_remove 34 = .ok (.iload_n 3, 1) := by decide +kernel
theorem dX6_remove_35 : decode cX6_remove 35 = .ok (.iaload, 1) := by decide +kernel
theorem dX6_remove_36 : decode cX6_remove 36 = .ok (.iadd, 1) := by decide +kernel
theorem dX6_remove_37 : decode cX6_remove 37 = .ok (.if_icmp .ge 25, 3) := by decide +kernel
theorem dX6_remove_40 : decode cX6_remove 40 = .ok (.aload_n 0, 1) := by decide +kernel
theorem dX6_remove_41 : decode cX6_remove 41 = .ok (.getfield 29, 3) := by decide +kernel
theorem dX6_remove_44 : decode cX6_remove 44 = .ok (.iload 4, 2) := by decide +kernel
theorem dX6_remove_46 : decode cX6_remove 46 = .ok (.aload_n 0, 1) := by decide +kernel
theorem dX6_remove_47 : decode cX6_remove 47 = .ok (.getfield 29, 3) := by decide +kernel
theorem dX6_remove_50 : decode cX6_remove 50 = .ok (.iload 4, 2) := by decide +kernel
theorem dX6_remove_52 : decode cX6_remove 52 = .ok (.iconst 1, 1) := by decide +kernel
theorem dX6_remove_53 : decode cX6_remove 53 = .ok (.iadd, 1) := by decide +kernel
theorem dX6_remove_54 : decode cX6_remove 54 = .ok (.iaload, 1) := by decide +kernel
theorem dX6_remove_55 : decode cX6_remove 55 = .ok (.iastore, 1) := by decide +kernel
theorem dX6_remove_56 : decode cX6_remove 56 = .ok (.iinc 4 1, 3) := by decide +kernel
theorem dX6_remove_59 : decode cX6_remove 59 = .ok (.goto (-35), 3) := by decide +kernel
theorem dX6_remove_62 : decode cX6_remove 62 = .ok (.return_, 1) := by decide +kernel
theorem dX6_moveModule_0 : decode cX6_moveModule 0 = .ok (.aload_n 0, 1) := by decide +kernel
theorem dX6_moveModule_1 : decode cX6_moveModule 1 = .ok (.iload_n 1, 1) := by decide +kernel
theorem dX6_moveModule_2 : decode cX6_moveModule 2 = .ok (.invokevirtual 70, 3) := by decide +kernel
theorem dX6_moveModule_5 : decode cX6_moveModule 5 = .ok (.ifCond .ne 7, 3) := by decide +kernel
theorem dX6_moveModule_8 : decode cX6_moveModule 8 = .ok (.sipush (-1002), 3) := by decide +kernel
theorem dX6_moveModule_11 : decode cX6_moveModule 11 = .ok (.ireturn, 1) := by decide +kernel
theorem dX6_moveModule_12 : decode cX6_moveModule 12 = .ok (.aload_n 0, 1) := by decide +kernel
theorem dX6_moveModule_13 : decode cX6_moveModule 13 = .ok (.iload_n 2, 1) := by decide +kernel
theorem dX6_moveModule_14 : decode cX6_moveModule 14 = .ok (.invokevirtual 62, 3) := by decide +kernel
theorem dX6_moveModule_17 : decode cX6_moveModule 17 = .ok (.ifCond .ne 7, 3) := by decide +kernel
theorem dX6_moveModule_20 : decode cX6_moveModule 20 = .ok (.sipush (-1001), 3) := by decide +kernel
theorem dX6_moveModule_23 : decode cX6_moveModule 23 = .ok (.ireturn, 1) := by decide +kernel
theorem dX6_moveModule_24 : decode cX6_moveModule 24 = .ok (.aload_n 0, 1) := by decide +kernel
theorem dX6_moveModule_25 : decode cX6_moveModule 25 = .ok (.iload_n 1, 1) := by decide +kernel
theorem dX6_moveModule_26 : decode cX6_moveModule 26 = .ok (.invokevirtual 73, 3) := by decide +kernel
theorem dX6_moveModule_29 : decode cX6_moveModule 29 = .ok (.bipush 12, 2) := by decide +kernel
theorem dX6_moveModule_31 : decode cX6_moveModule 31 = .ok (.idiv, 1) := by decide +kernel
theorem dX6_moveModule_32 : decode cX6_moveModule 32 = .ok (.iload_n 2, 1) := by decide +kernel
theorem dX6_moveModule_33 : decode cX6_moveModule 33 = .ok (.if_icmp .eq 18, 3) := by decide +kernel
theorem dX6_moveModule_36 : decode cX6_moveModule 36 = .ok (.aload_n 0, 1) := by decide +kernel
theorem dX6_moveModule_37 : decode cX6_moveModule 37 = .ok (.getfield 26, 3) := by decide +kernel
theorem dX6_moveModule_40 : decode cX6_moveModule 40 = .ok (.iload_n 2, 1) := by decide +kernel
theorem dX6_moveModule_41 : decode cX6_moveModule 41 = .ok (.iaload, 1) := by decide +kernel
theorem dX6_moveModule_42 : decode cX6_moveModule 42 = .ok (.bipush 12, 2) := by decide +kernel
theorem dX6_moveModule_44 : decode cX6_moveModule 44 = .ok (.if_icmp .ne 7, 3) := by decide +kernel
theorem dX6_moveModule_47 : decode cX6_moveModule 47 = .ok (.sipush (-1004), 3) := by decide +kernel
theorem dX6_moveModule_50 : decode cX6_moveModule 50 = .ok (.ireturn, 1) := by decide +kernel
theorem dX6_moveModule_51 : decode cX6_moveModule 51 = .ok (.aload_n 0, 1) := by decide +kernel
theorem dX6_moveModule_52 : decode cX6_moveModule 52 = .ok (.iload_n 1, 1) := by decide +kernel
theorem dX6_moveModule_53 : decode cX6_moveModule 53 = .ok (.invokevirtual 77, 3) := by decide +kernel
theorem dX6_moveModule_56 : decode cX6_moveModule 56 = .ok (.aload_n 0, 1) := by decide +kernel
theorem dX6_moveModule_57 : decode cX6_moveModule 57 = .ok (.iload_n 1, 1) := by decide +kernel
theorem dX6_moveModule_58 : decode cX6_moveModule 58 = .ok (.iload_n 2, 1) := by decide +kernel
theorem dX6_moveModule_59 : decode cX6_moveModule 59 = .ok (.invokevirtual 66, 3) := by decide +kernel
theorem dX6_moveModule_62 : decode cX6_moveModule 62 = .ok (.aload_n 0, 1) := by decide +kernel
theorem dX6_moveModule_63 : decode cX6_moveModule 63 = .ok (.getfield 26, 3) := by decide +kernel
theorem dX6_moveModule_66 : decode cX6_moveModule 66 = .ok (.iload_n 2, 1) := by decide +kernel
theorem dX6_moveModule_67 : decode cX6_moveModule 67 = .ok (.iaload, 1) := by decide +kernel
theorem dX6_moveModule_68 : decode cX6_moveModule 68 = .ok (.iconst 1, 1) := by decide +kernel
theorem dX6_moveModule_69 : decode cX6_moveModule 69 = .ok (.isub, 1) := by decide +kernel
theorem dX6_moveModule_70 : decode cX6_moveModule 70 = .ok (.ireturn, 1) := by decide +kernel
theorem dX6_exchange_0 : decode cX6_exchange 0 = .ok (.aload_n 0, 1) := by decide +kernel
theorem dX6_exchange_1 : decode cX6_exchange 1 = .ok (.iload_n 1, 1) := by decide +kernel
theorem dX6_exchange_2 : decode cX6_exchange 2 = .ok (.invokevirtual 73, 3) := by decide +kernel
theorem dX6_exchange_5 : decode cX6_exchange 5 = .ok (.istore_n 3, 1) := by decide +kernel
theorem dX6_exchange_6 : decode cX6_exchange 6 = .ok (.aload_n 0, 1) := by decide +kernel
theorem dX6_exchange_7 : decode cX6_exchange 7 = .ok (.iload_n 2, 1) := by decide +kernel
theorem dX6_exchange_8 : decode cX6_exchange 8 = .ok (.invokevirtual 73, 3) := by decide +kernel
theorem dX6_exchange_11 : decode cX6_exchange 11 = .ok (.istore 4, 2) := by decide +kernel
theorem dX6_exchange_13 : decode cX6_exchange 13 = .ok (.aload_n 0, 1) := by decide +kernel
theorem dX6_exchange_14 : decode cX6_exchange 14 = .ok (.getfield 29, 3) := by decide +kernel
theorem dX6_exchange_17 : decode cX6_exchange 17 = .ok (.iload_n 3, 1) := by decide +kernel
theorem dX6_exchange_18 : decode cX6_exchange 18 = .ok (.iload_n 2, 1) := by decide +kernel
theorem dX6_exchange_19 : decode cX6_exchange 19 = .ok (.iastore, 1) := by decide +kernel
theorem dX6_exchange_20 : decode cX6_exchange 20 = .ok (.aload_n 0, 1) := by decide +kernel
theorem dX6_exchange_21 : decode cX6_exchange 21 = .ok (.getfield 29, 3) := by decide +kernel
theorem dX6_exchange_24 : decode cX6_exchange 24 = .ok (.iload 4, 2) := by decide +kernel
theorem dX6_exchange_26 : decode cX6_exchange 26 = .ok (.iload_n 1, 1) := by decide +kernel
theorem dX6_exchange_27 : decode cX6_exchange 27 = .ok (.iastore, 1) := by decide +kernel
theorem dX6_exchange_28 : decode cX6_exchange 28 = .ok (.return_, 1) := by decide +kernel
theorem dX6_swapModules_0 : decode cX6_swapModules 0 = .ok (.aload_n 0, 1) := by decide +kernel
theorem dX6_swapModules_1 : decode cX6_swapModules 1 = .ok (.iload_n 1, 1) := by decide +kernel
theorem dX6_swapModules_2 : decode cX6_swapModules 2 = .ok (.invokevirtual 70, 3) := by decide +kernel
theorem dX6_swapModules_5 : decode cX6_swapModules 5 = .ok (.ifCond .eq 11, 3) := by decide +kernel
theorem dX6_swapModules_8 : decode cX6_swapModules 8 = .ok (.aload_n 0, 1) := by decide +kernel
theorem dX6_swapModules_9 : decode cX6_swapModules 9 = .ok (.iload_n 2, 1) := by decide +kernel
theorem dX6_swapModules_10 : decode cX6_swapModules 10 = .ok (.invokevirtual 70, 3) := by decide +kernel
theorem dX6_swapModules_13 : decode cX6_swapModules 13 = .ok (.ifCond .ne 7, 3) := by decide +kernel
theorem dX6_swapModules_16 : decode cX6_swapModules 16 = .ok (.sipush (-1002), 3) := by decide +kernel
theorem dX6_swapModules_19 : decode cX6_swapModules 19 = .ok (.ireturn, 1) := by decide +kernel
theorem dX6_swapModules_20 : decode cX6_swapModules 20 = .ok (.aload_n 0, 1) := by decide +kernel
theorem dX6_swapModules_21 : decode cX6_swapModules 21 = .ok (.iload_n 1, 1) := by decide +kernel
theorem dX6_swapModules_22 : decode cX6_swapModules 22 = .ok (.iload_n 2, 1) := by decide +kernel
theorem dX6_swapModules_23 : decode cX6_swapModules 23 = .ok (.invokevirtual 81, 3) := by decide +kernel
theorem dX6_swapModules_26 : decode cX6_swapModules 26 = .ok (.aload_n 0, 1) := by decide +kernel
theorem dX6_swapModules_27 : decode cX6_swapModules 27 = .ok (.iload_n 1, 1) := by decide +kernel
theorem dX6_swapModules_28 : decode cX6_swapModules 28 = .ok (.invokevirtual 73, 3) := by decide +kernel
theorem dX6_swapModules_31 : decode cX6_swapModules 31 = .ok (.bipush 12, 2) := by decide +kernel
theorem dX6_swapModules_33 : decode cX6_swapModules 33 = .ok (.idiv, 1) := by decide +kernel
theorem dX6_swapModules_34 : decode cX6_swapModules 34 = .ok (.aload_n 0, 1) := by decide +kernel
theorem dX6_swapModules_35 : decode cX6_swapModules 35 = .ok (.iload_n 2, 1) := by decide +kernel
theorem dX6_swapModules_36 : decode cX6_swapModules 36 = .ok (.invokevirtual 73, 3) := by decide +kernel
theorem dX6_swapModules_39 : decode cX6_swapModules 39 = .ok (.bipush 12, 2) := by decide +kernel
theorem dX6_swapModules_41 : decode cX6_swapModules 41 = .ok (.idiv, 1) := by decide +kernel
theorem dX6_swapModules_42 : decode cX6_swapModules 42 = .ok (.if_icmp .ne 7, 3) := by decide +kernel
theorem dX6_swapModules_45 : decode cX6_swapModules 45 = .ok (.iconst 0, 1) := by decide +kernel
theorem dX6_swapModules_46 : decode cX6_swapModules 46 = .ok (.goto 4, 3) := by decide +kernel
theorem dX6_swapModules_49 : decode cX6_swapModules 49 = .ok (.iconst 1, 1) := by decide +kernel
theorem dX6_swapModules_50 : decode cX6_swapModules 50 = .ok (.ireturn, 1) := by decide +kernel
theorem dX6_stringOf_0 : decode cX6_stringOf 0 = .ok (.aload_n 0, 1) := by decide +kernel
theorem dX6_stringOf_1 : decode cX6_stringOf 1 = .ok (.iload_n 1, 1) := by decide +kernel
theorem dX6_stringOf_2 : decode cX6_stringOf 2 = .ok (.invokevirtual 70, 3) := by decide +kernel
theorem dX6_stringOf_5 : decode cX6_stringOf 5 = .ok (.ifCond .eq 14, 3) := by decide +kernel
theorem dX6_stringOf_8 : decode cX6_stringOf 8 = .ok (.aload_n 0, 1) := by decide +kernel
theorem dX6_stringOf_9 : decode cX6_stringOf 9 = .ok (.iload_n 1, 1) := by decide +kernel
theorem dX6_stringOf_10 : decode cX6_stringOf 10 = .ok (.invokevirtual 73, 3) := by decide +kernel
theorem dX6_stringOf_13 : decode cX6_stringOf 13 = .ok (.bipush 12, 2) := by decide +kernel
theorem dX6_stringOf_15 : decode cX6_stringOf 15 = .ok (.idiv, 1) := by decide +kernel
theorem dX6_stringOf_16 : decode cX6_stringOf 16 = .ok (.goto 6, 3) := by decide +kernel
theorem dX6_stringOf_19 : decode cX6_stringOf 19 = .ok (.sipush (-1002), 3) := by decide +kernel
theorem dX6_stringOf_22 : decode cX6_stringOf 22 = .ok (.ireturn, 1) := by decide +kernel
theorem dX6_moduleAt_0 : decode cX6_moduleAt 0 = .ok (.aload_n 0, 1) := by decide +kernel
theorem dX6_moduleAt_1 : decode cX6_moduleAt 1 = .ok (.iload_n 1, 1) := by decide +kernel
theorem dX6_moduleAt_2 : decode cX6_moduleAt 2 = .ok (.invokevirtual 62, 3) := by decide +kernel
theorem dX6_moduleAt_5 : decode cX6_moduleAt 5 = .ok (.ifCond .ne 7, 3) := by decide +kernel
theorem dX6_moduleAt_8 : decode cX6_moduleAt 8 = .ok (.sipush (-1001), 3) := by decide +kernel
theorem dX6_moduleAt_11 : decode cX6_moduleAt 11 = .ok (.ireturn, 1) := by decide +kernel
theorem dX6_moduleAt_12 : decode cX6_moduleAt 12 = .ok (.iload_n 2, 1) := by decide +kernel
theorem dX6_moduleAt_13 : decode cX6_moduleAt 13 = .ok (.ifCond .ge 7, 3) := by decide +kernel
theorem dX6_moduleAt_16 : decode cX6_moduleAt 16 = .ok (.sipush (-1003), 3) := by decide +kernel
theorem dX6_moduleAt_19 : decode cX6_moduleAt 19 = .ok (.ireturn, 1) := by decide +kernel
theorem dX6_moduleAt_20 : decode cX6_moduleAt 20 = .ok (.iload_n 2, 1) := by decide +kernel
theorem dX6_moduleAt_21 : decode cX6_moduleAt 21 = .ok (.aload_n 0, 1) := by decide +kernel
theorem dX6_moduleAt_22 : decode cX6_moduleAt 22 = .ok (.getfield 26, 3) := by decide +kernel
theorem dX6_moduleAt_25 : decode cX6_moduleAt 25 = .ok (.iload_n 1, 1) := by decide +kernel
theorem dX6_moduleAt_26 : decode cX6_moduleAt 26 = .ok (.iaload, 1) := by decide +kernel
theorem dX6_moduleAt_27 : decode cX6_moduleAt 27 = .ok (.if_icmp .ge 17, 3) := by decide +kernel
theorem dX6_moduleAt_30 : decode cX6_moduleAt 30 = .ok (.aload_n 0, 1) := by decide +kernel
theorem dX6_moduleAt_31 : decode cX6_moduleAt 31 = .ok (.getfield 29, 3) := by decide +kernel
theorem dX6_moduleAt_34 : decode cX6_moduleAt 34 = .ok (.bipush 12, 2) := by decide +kernel
theorem dX6_moduleAt_36 : decode cX6_moduleAt 36 = .ok (.iload_n 1, 1) := by decide +kernel
theorem dX6_moduleAt_37 : decode cX6_moduleAt 37 = .ok (.imul, 1) := by decide +kernel
theorem dX6_moduleAt_38 : decode cX6_moduleAt 38 = .ok (.iload_n 2, 1) := by decide +kernel
theorem dX6_moduleAt_39 : decode cX6_moduleAt 39 = .ok (.iadd, 1) := by decide +kernel
theorem dX6_moduleAt_40 : decode cX6_moduleAt 40 = .ok (.iaload, 1) := by decide +kernel
theorem dX6_moduleAt_41 : decode cX6_moduleAt 41 = .ok (.goto 6, 3) := by decide +kernel
theorem dX6_moduleAt_44 : decode cX6_moduleAt 44 = .ok (.sipush (-1005), 3) := by decide +kernel
theorem dX6_moduleAt_47 : decode cX6_moduleAt 47 = .ok (.ireturn, 1) := by decide +kernel
theorem dX6_photocurrentOf_0 : decode cX6_photocurrentOf 0 = .ok (.aload_n 0, 1) := by decide +kernel
theorem dX6_photocurrentOf_1 : decode cX6_photocurrentOf 1 = .ok (.getfield 16, 3) := by decide +kernel
theorem dX6_photocurrentOf_4 : decode cX6_photocurrentOf 4 = .ok (.iload_n 1, 1) := by decide +kernel
theorem dX6_photocurrentOf_5 : decode cX6_photocurrentOf 5 = .ok (.iaload, 1) := by decide +kernel
theorem dX6_photocurrentOf_6 : decode cX6_photocurrentOf 6 = .ok (.aload_n 0, 1) := by decide +kernel
theorem dX6_photocurrentOf_7 : decode cX6_photocurrentOf 7 = .ok (.getfield 7, 3) := by decide +kernel
theorem dX6_photocurrentOf_10 : decode cX6_photocurrentOf 10 = .ok (.iload_n 1, 1) := by decide +kernel
theorem dX6_photocurrentOf_11 : decode cX6_photocurrentOf 11 = .ok (.iaload, 1) := by decide +kernel
theorem dX6_photocurrentOf_12 : decode cX6_photocurrentOf 12 = .ok (.imul, 1) := by decide +kernel
theorem dX6_photocurrentOf_13 : decode cX6_photocurrentOf 13 = .ok (.sipush 1000, 3) := by decide +kernel
theorem dX6_photocurrentOf_16 : decode cX6_photocurrentOf 16 = .ok (.idiv, 1) := by decide +kernel
theorem dX6_photocurrentOf_17 : decode cX6_photocurrentOf 17 = .ok (.ireturn, 1) := by decide +kernel
theorem dX6_photocurrent_0 : decode cX6_photocurrent 0 = .ok (.aload_n 0, 1) := by decide +kernel
theorem dX6_photocurrent_1 : decode cX6_photocurrent 1 = .ok (.iload_n 1, 1) := by decide +kernel
theorem dX6_photocurrent_2 : decode cX6_photocurrent 2 = .ok (.invokevirtual 70, 3) := by decide +kernel
theorem dX6_photocurrent_5 : decode cX6_photocurrent 5 = .ok (.ifCond .eq 11, 3) := by decide +kernel
theorem dX6_photocurrent_8 : decode cX6_photocurrent 8 = .ok (.aload_n 0, 1) := by decide +kernel
theorem dX6_photocurrent_9 : decode cX6_photocurrent 9 = .ok (.iload_n 1, 1) := by decide +kernel
theorem dX6_photocurrent_10 : decode cX6_photocurrent 10 = .ok (.invokevirtual 84, 3) := by decide +kernel
theorem dX6_photocurrent_13 : decode cX6_photocurrent 13 = .ok (.goto 6, 3) := by decide +kernel
theorem dX6_photocurrent_16 : decode cX6_photocurrent 16 = .ok (.sipush (-1002), 3) := by decide +kernel
theorem dX6_photocurrent_19 : decode cX6_photocurrent 19 = .ok (.ireturn, 1) := by decide +kernel
theorem dX6_litVoltage_0 : decode cX6_litVoltage 0 = .ok (.aload_n 0, 1) := by decide +kernel
theorem dX6_litVoltage_1 : decode cX6_litVoltage 1 = .ok (.getfield 13, 3) := by decide +kernel
theorem dX6_litVoltage_4 : decode cX6_litVoltage 4 = .ok (.iload_n 1, 1) := by decide +kernel
theorem dX6_litVoltage_5 : decode cX6_litVoltage 5 = .ok (.iaload, 1) := by decide +kernel
theorem dX6_litVoltage_6 : decode cX6_litVoltage 6 = .ok (.aload_n 0, 1) := by decide +kernel
theorem dX6_litVoltage_7 : decode cX6_litVoltage 7 = .ok (.getfield 19, 3) := by decide +kernel
theorem dX6_litVoltage_10 : decode cX6_litVoltage 10 = .ok (.iload_n 1, 1) := by decide +kernel
theorem dX6_litVoltage_11 : decode cX6_litVoltage 11 = .ok (.iaload, 1) := by decide +kernel
theorem dX6_litVoltage_12 : decode cX6_litVoltage 12 = .ok (.iload_n 2, 1) := by decide +kernel
theorem dX6_litVoltage_13 : decode cX6_litVoltage 13 = .ok (.imul, 1) := by decide +kernel
theorem dX6_litVoltage_14 : decode cX6_litVoltage 14 = .ok (.sipush 10000, 3) := by decide +kernel
theorem dX6_litVoltage_17 : decode cX6_litVoltage 17 = .ok (.idiv, 1) := by decide +kernel
theorem dX6_litVoltage_18 : decode cX6_litVoltage 18 = .ok (.isub, 1) := by decide +kernel
theorem dX6_litVoltage_19 : decode cX6_litVoltage 19 = .ok (.istore_n 3, 1) := by decide +kernel
theorem dX6_litVoltage_20 : decode cX6_litVoltage 20 = .ok (.iload_n 3, 1) := by decide +kernel
theorem dX6_litVoltage_21 : decode cX6_litVoltage 21 = .ok (.ifCond .ge 7, 3) := by decide +kernel
theorem dX6_litVoltage_24 : decode cX6_litVoltage 24 = .ok (.iconst 0, 1) := by decide +kernel
theorem dX6_litVoltage_25 : decode cX6_litVoltage 25 = .ok (.goto 4, 3) := by decide +kernel
theorem dX6_litVoltage_28 : decode cX6_litVoltage 28 = .ok (.iload_n 3, 1) := by decide +kernel
theorem dX6_litVoltage_29 : decode cX6_litVoltage 29 = .ok (.ireturn, 1) := by decide +kernel
theorem dX6_voltageOf_0 : decode cX6_voltageOf 0 = .ok (.iload_n 2, 1) := by decide +kernel
theorem dX6_voltageOf_1 : decode cX6_voltageOf 1 = .ok (.aload_n 0, 1) := by decide +kernel
theorem dX6_voltageOf_2 : decode cX6_voltageOf 2 = .ok (.iload_n 1, 1) := by decide +kernel
theorem dX6_voltageOf_3 : decode cX6_voltageOf 3 = .ok (.invokevirtual 84, 3) := by decide +kernel
theorem dX6_voltageOf_6 : decode cX6_voltageOf 6 = .ok (.if_icmp .le 11, 3) := by decide +kernel
theorem dX6_voltageOf_9 : decode cX6_voltageOf 9 = .ok (.aload_n 0, 1) := by decide +kernel
theorem dX6_voltageOf_10 : decode cX6_voltageOf 10 = .ok (.getfield 48, 3) := by decide +kernel
theorem dX6_voltageOf_13 : decode cX6_voltageOf 13 = .ok (.ineg, 1) := by decide +kernel
theorem dX6_voltageOf_14 : decode cX6_voltageOf 14 = .ok (.goto 9, 3) := by decide +kernel
theorem dX6_voltageOf_17 : decode cX6_voltageOf 17 = .ok (.aload_n 0, 1) := by decide +kernel
theorem dX6_voltageOf_18 : decode cX6_voltageOf 18 = .ok (.iload_n 1, 1) := by decide +kernel
theorem dX6_voltageOf_19 : decode cX6_voltageOf 19 = .ok (.iload_n 2, 1) := by decide +kernel
theorem dX6_voltageOf_20 : decode cX6_voltageOf 20 = .ok (.invokevirtual 87, 3) := by decide +kernel
theorem dX6_voltageOf_23 : decode cX6_voltageOf 23 = .ok (.ireturn, 1) := by decide +kernel
theorem dX6_moduleVoltage_0 : decode cX6_moduleVoltage 0 = .ok (.aload_n 0, 1) := by decide +kernel
theorem dX6_moduleVoltage_1 : decode cX6_moduleVoltage 1 = .ok (.iload_n 1, 1) := by decide +kernel
theorem dX6_moduleVoltage_2 : decode cX6_moduleVoltage 2 = .ok (.invokevirtual 70, 3) := by decide +kernel
theorem dX6_moduleVoltage_5 : decode cX6_moduleVoltage 5 = .ok (.ifCond .ne 7, 3) := by decide +kernel
theorem dX6_moduleVoltage_8 : decode cX6_moduleVoltage 8 = .ok (.sipush (-1002), 3) := by decide +kernel
theorem dX6_moduleVoltage_11 : decode cX6_moduleVoltage 11 = .ok (.ireturn, 1) := by decide +kernel
theorem dX6_moduleVoltage_12 : decode cX6_moduleVoltage 12 = .ok (.iload_n 2, 1) := by decide +kernel
theorem dX6_moduleVoltage_13 : decode cX6_moduleVoltage 13 = .ok (.iconst 0, 1) := by decide +kernel
theorem dX6_moduleVoltage_14 : decode cX6_moduleVoltage 14 = .ok (.sipush 1200, 3) := by decide +kernel
theorem dX6_moduleVoltage_17 : decode cX6_moduleVoltage 17 = .ok (.invokestatic 55, 3) := by decide +kernel
theorem dX6_moduleVoltage_20 : decode cX6_moduleVoltage 20 = .ok (.ifCond .ne 7, 3) := by decide +kernel
theorem dX6_moduleVoltage_23 : decode cX6_moduleVoltage 23 = .ok (.sipush (-1003), 3) := by decide +kernel
theorem dX6_moduleVoltage_26 : decode cX6_moduleVoltage 26 = .ok (.ireturn, 1) := by decide +kernel
theorem dX6_moduleVoltage_27 : decode cX6_moduleVoltage 27 = .ok (.iload_n 2, 1) := by decide +kernel
theorem dX6_moduleVoltage_28 : decode cX6_moduleVoltage 28 = .ok (.aload_n 0, 1) := by decide +kernel
theorem dX6_moduleVoltage_29 : decode cX6_moduleVoltage 29 = .ok (.iload_n 1, 1) := by decide +kernel
theorem dX6_moduleVoltage_30 : decode cX6_moduleVoltage 30 = .ok (.invokevirtual 84, 3) := by decide +kernel
theorem dX6_moduleVoltage_33 : decode cX6_moduleVoltage 33 = .ok (.if_icmp .le 16, 3) := by decide +kernel
theorem dX6_moduleVoltage_36 : decode cX6_moduleVoltage 36 = .ok (.aload_n 0, 1) := by decide +kernel
theorem dX6_moduleVoltage_37 : decode cX6_moduleVoltage 37 = .ok (.getfield 22, 3) := by decide +kernel
theorem dX6_moduleVoltage_40 : decode cX6_moduleVoltage 40 = .ok (.iload_n 1, 1) := by decide +kernel
theorem dX6_moduleVoltage_41 : decode cX6_moduleVoltage 41 = .ok (.baload, 1) := by decide +kernel
theorem dX6_moduleVoltage_42 : decode cX6_moduleVoltage 42 = .ok (.ifCond .ne 7, 3) := by decide +kernel
theorem dX6_moduleVoltage_45 : decode cX6_moduleVoltage 45 = .ok (.sipush (-1005), 3) := by decide +kernel
theorem dX6_moduleVoltage_48 : decode cX6_moduleVoltage 48 = .ok (.ireturn, 1) := by decide +kernel
theorem dX6_moduleVoltage_49 : decode cX6_moduleVoltage 49 = .ok (.aload_n 0, 1) := by decide +kernel
theorem dX6_moduleVoltage_50 : decode cX6_moduleVoltage 50 = .ok (.iload_n 1, 1) := by decide +kernel
theorem dX6_moduleVoltage_51 : decode cX6_moduleVoltage 51 = .ok (.iload_n 2, 1) := by decide +kernel
theorem dX6_moduleVoltage_52 : decode cX6_moduleVoltage 52 = .ok (.invokevirtual 91, 3) := by decide +kernel
theorem dX6_moduleVoltage_55 : decode cX6_moduleVoltage 55 = .ok (.ireturn, 1) := by decide +kernel
theorem dX6_peakPowerOf_0 : decode cX6_peakPowerOf 0 = .ok (.lconst 0, 1) := by decide +kernel
theorem dX6_peakPowerOf_1 : decode cX6_peakPowerOf 1 = .ok (.lstore_n 2, 1) := by decide +kernel
theorem dX6_peakPowerOf_2 : decode cX6_peakPowerOf 2 = .ok (.iconst 0, 1) := by decide +kernel
theorem dX6_peakPowerOf_3 : decode cX6_peakPowerOf 3 = .ok (.istore 4, 2) := by decide +kernel
theorem dX6_peakPowerOf_5 : decode cX6_peakPowerOf 5 = .ok (.iload 4, 2) := by decide +kernel
theorem dX6_peakPowerOf_7 : decode cX6_peakPowerOf 7 = .ok (.aload_n 0, 1) := by decide +kernel
theorem dX6_peakPowerOf_8 : decode cX6_peakPowerOf 8 = .ok (.iload_n 1, 1) := by decide +kernel
theorem dX6_peakPowerOf_9 : decode cX6_peakPowerOf 9 = .ok (.invokevirtual 84, 3) := by decide +kernel
theorem dX6_peakPowerOf_12 : decode cX6_peakPowerOf 12 = .ok (.if_icmp .gt 37, 3) := by decide +kernel
theorem dX6_peakPowerOf_15 : decode cX6_peakPowerOf 15 = .ok (.iload 4, 2) := by decide +kernel
theorem dX6_peakPowerOf_17 : decode cX6_peakPowerOf 17 = .ok (.i2l, 1) := by decide +kernel
theorem dX6_peakPowerOf_18 : decode cX6_peakPowerOf 18 = .ok (.aload_n 0, 1) := by decide +kernel
theorem dX6_peakPowerOf_19 : decode cX6_peakPowerOf 19 = .ok (.iload_n 1, 1) := by decide +kernel
theorem dX6_peakPowerOf_20 : decode cX6_peakPowerOf 20 = .ok (.iload 4, 2) := by decide +kernel
theorem dX6_peakPowerOf_22 : decode cX6_peakPowerOf 22 = .ok (.invokevirtual 87, 3) := by decide +kernel
theorem dX6_peakPowerOf_25 : decode cX6_peakPowerOf 25 = .ok (.i2l, 1) := by decide +kernel
theorem dX6_peakPowerOf_26 : decode cX6_peakPowerOf 26 = .ok (.lmul, 1) := by decide +kernel
theorem dX6_peakPowerOf_27 : decode cX6_peakPowerOf 27 = .ok (.lstore 5, 2) := by decide +kernel
theorem dX6_peakPowerOf_29 : decode cX6_peakPowerOf 29 = .ok (.lload 5, 2) := by decide +kernel
theorem dX6_peakPowerOf_31 : decode cX6_peakPowerOf 31 = .ok (.lload_n 2, 1) := by decide +kernel
theorem dX6_peakPowerOf_32 : decode cX6_peakPowerOf 32 = .ok (.lcmp, 1) := by decide +kernel
theorem dX6_peakPowerOf_33 : decode cX6_peakPowerOf 33 = .ok (.ifCond .le 8, 3) := by decide +kernel
theorem dX6_peakPowerOf_36 : decode cX6_peakPowerOf 36 = .ok (.lload 5, 2) := by decide +kernel
theorem dX6_peakPowerOf_38 : decode cX6_peakPowerOf 38 = .ok (.goto 4, 3) := by decide +kernel
theorem dX6_peakPowerOf_41 : decode cX6_peakPowerOf 41 = .ok (.lload_n 2, 1) := by decide +kernel
theorem dX6_peakPowerOf_42 : decode cX6_peakPowerOf 42 = .ok (.lstore_n 2, 1) := by decide +kernel
theorem dX6_peakPowerOf_43 : decode cX6_peakPowerOf 43 = .ok (.iinc 4 1, 3) := by decide +kernel
theorem dX6_peakPowerOf_46 : decode cX6_peakPowerOf 46 = .ok (.goto (-41), 3) := by decide +kernel
theorem dX6_peakPowerOf_49 : decode cX6_peakPowerOf 49 = .ok (.lload_n 2, 1) := by decide +kernel
theorem dX6_peakPowerOf_50 : decode cX6_peakPowerOf 50 = .ok (.lreturn, 1) := by decide +kernel
theorem dX6_modulePeakPower_0 : decode cX6_modulePeakPower 0 = .ok (.aload_n 0, 1) := by decide +kernel
theorem dX6_modulePeakPower_1 : decode cX6_modulePeakPower 1 = .ok (.iload_n 1, 1) := by decide +kernel
theorem dX6_modulePeakPower_2 : decode cX6_modulePeakPower 2 = .ok (.invokevirtual 70, 3) := by decide +kernel
theorem dX6_modulePeakPower_5 : decode cX6_modulePeakPower 5 = .ok (.ifCond .eq 11, 3) := by decide +kernel
theorem dX6_modulePeakPower_8 : decode cX6_modulePeakPower 8 = .ok (.aload_n 0, 1) := by decide +kernel
theorem dX6_modulePeakPower_9 : decode cX6_modulePeakPower 9 = .ok (.iload_n 1, 1) := by decide +kernel
theorem dX6_modulePeakPower_10 : decode cX6_modulePeakPower 10 = .ok (.invokevirtual 94, 3) := by decide +kernel
theorem dX6_modulePeakPower_13 : decode cX6_modulePeakPower 13 = .ok (.goto 6, 3) := by decide +kernel
theorem dX6_modulePeakPower_16 : decode cX6_modulePeakPower 16 = .ok (.ldc2_w 98, 3) := by decide +kernel
theorem dX6_modulePeakPower_19 : decode cX6_modulePeakPower 19 = .ok (.lreturn, 1) := by decide +kernel
theorem dX6_limitOf_0 : decode cX6_limitOf 0 = .ok (.iconst 0, 1) := by decide +kernel
theorem dX6_limitOf_1 : decode cX6_limitOf 1 = .ok (.istore_n 2, 1) := by decide +kernel
theorem dX6_limitOf_2 : decode cX6_limitOf 2 = .ok (.iconst 0, 1) := by decide +kernel
theorem dX6_limitOf_3 : decode cX6_limitOf 3 = .ok (.istore_n 3, 1) := by decide +kernel
theorem dX6_limitOf_4 : decode cX6_limitOf 4 = .ok (.iload_n 3, 1) := by decide +kernel
theorem dX6_limitOf_5 : decode cX6_limitOf 5 = .ok (.aload_n 0, 1) := by decide +kernel
theorem dX6_limitOf_6 : decode cX6_limitOf 6 = .ok (.getfield 26, 3) := by decide +kernel
theorem dX6_limitOf_9 : decode cX6_limitOf 9 = .ok (.iload_n 1, 1) := by decide +kernel
theorem dX6_limitOf_10 : decode cX6_limitOf 10 = .ok (.iaload, 1) := by decide +kernel
theorem dX6_limitOf_11 : decode cX6_limitOf 11 = .ok (.if_icmp .ge 39, 3) := by decide +kernel
theorem dX6_limitOf_14 : decode cX6_limitOf 14 = .ok (.aload_n 0, 1) := by decide +kernel
theorem dX6_limitOf_15 : decode cX6_limitOf 15 = .ok (.aload_n 0, 1) := by decide +kernel
theorem dX6_limitOf_16 : decode cX6_limitOf 16 = .ok (.getfield 29, 3) := by decide +kernel
theorem dX6_limitOf_19 : decode cX6_limitOf 19 = .ok (.bipush 12, 2) := by decide +kernel
theorem dX6_limitOf_21 : decode cX6_limitOf 21 = .ok (.iload_n 1, 1) := by decide +kernel
theorem dX6_limitOf_22 : decode cX6_limitOf 22 = .ok (.imul, 1) := by decide +kernel
theorem dX6_limitOf_23 : decode cX6_limitOf 23 = .ok (.iload_n 3, 1) := by decide +kernel
theorem dX6_limitOf_24 : decode cX6_limitOf 24 = .ok (.iadd, 1) := by decide +kernel
theorem dX6_limitOf_25 : decode cX6_limitOf 25 = .ok (.iaload, 1) := by decide +kernel
theorem dX6_limitOf_26 : decode cX6_limitOf 26 = .ok (.invokevirtual 84, 3) := by decide +kernel
theorem dX6_limitOf_29 : decode cX6_limitOf 29 = .ok (.istore 4, 2) := by decide +kernel
theorem dX6_limitOf_31 : decode cX6_limitOf 31 = .ok (.iload 4, 2) := by decide +kernel
theorem dX6_limitOf_33 : decode cX6_limitOf 33 = .ok (.iload_n 2, 1) := by decide +kernel
theorem dX6_limitOf_34 : decode cX6_limitOf 34 = .ok (.if_icmp .le 8, 3) := by decide +kernel
theorem dX6_limitOf_37 : decode cX6_limitOf 37 = .ok (.iload 4, 2) := by decide +kernel
theorem dX6_limitOf_39 : decode cX6_limitOf 39 = .ok (.goto 4, 3) := by decide +kernel
theorem dX6_limitOf_42 : decode cX6_limitOf 42 = .ok (.iload_n 2, 1) := by decide +kernel
theorem dX6_limitOf_43 : decode cX6_limitOf 43 = .ok (.istore_n 2, 1) := by decide +kernel
theorem dX6_limitOf_44 : decode cX6_limitOf 44 = .ok (.iinc 3 1, 3) := by decide +kernel
theorem dX6_limitOf_47 : decode cX6_limitOf 47 = .ok (.goto (-43), 3) := by decide +kernel
theorem dX6_limitOf_50 : decode cX6_limitOf 50 = .ok (.iconst 0, 1) := by decide +kernel
theorem dX6_limitOf_51 : decode cX6_limitOf 51 = .ok (.istore_n 3, 1) := by decide +kernel
theorem dX6_limitOf_52 : decode cX6_limitOf 52 = .ok (.iload_n 3, 1) := by decide +kernel
theorem dX6_limitOf_53 : decode cX6_limitOf 53 = .ok (.aload_n 0, 1) := by decide +kernel
theorem dX6_limitOf_54 : decode cX6_limitOf 54 = .ok (.getfield 26, 3) := by decide +kernel
theorem dX6_limitOf_57 : decode cX6_limitOf 57 = .ok (.iload_n 1, 1) := by decide +kernel
theorem dX6_limitOf_58 : decode cX6_limitOf 58 = .ok (.iaload, 1) := by decide +kernel
theorem dX6_limitOf_59 : decode cX6_limitOf 59 = .ok (.if_icmp .ge 53, 3) := by decide +kernel
theorem dX6_limitOf_62 : decode cX6_limitOf 62 = .ok (.aload_n 0, 1) := by decide +kernel
theorem dX6_limitOf_63 : decode cX6_limitOf 63 = .ok (.getfield 29, 3) := by decide +kernel
theorem dX6_limitOf_66 : decode cX6_limitOf 66 = .ok (.bipush 12, 2) := by decide +kernel
theorem dX6_limitOf_68 : decode cX6_limitOf 68 = .ok (.iload_n 1, 1) := by decide +kernel
theorem dX6_limitOf_69 : decode cX6_limitOf 69 = .ok (.imul, 1) := by decide +kernel
theorem dX6_limitOf_70 : decode cX6_limitOf 70 = .ok (.iload_n 3, 1) := by decide +kernel
theorem dX6_limitOf_71 : decode cX6_limitOf 71 = .ok (.iadd, 1) := by decide +kernel
theorem dX6_limitOf_72 : decode cX6_limitOf 72 = .ok (.iaload, 1) := by decide +kernel
theorem dX6_limitOf_73 : decode cX6_limitOf 73 = .ok (.istore 4, 2) := by decide +kernel
theorem dX6_limitOf_75 : decode cX6_limitOf 75 = .ok (.aload_n 0, 1) := by decide +kernel
theorem dX6_limitOf_76 : decode cX6_limitOf 76 = .ok (.iload 4, 2) := by decide +kernel
theorem dX6_limitOf_78 : decode cX6_limitOf 78 = .ok (.invokevirtual 84, 3) := by decide +kernel
theorem dX6_limitOf_81 : decode cX6_limitOf 81 = .ok (.istore 5, 2) := by decide +kernel
theorem dX6_limitOf_83 : decode cX6_limitOf 83 = .ok (.aload_n 0, 1) := by decide +kernel
theorem dX6_limitOf_84 : decode cX6_limitOf 84 = .ok (.getfield 22, 3) := by decide +kernel
theorem dX6_limitOf_87 : decode cX6_limitOf 87 = .ok (.iload 4, 2) := by decide +kernel
theorem dX6_limitOf_89 : decode cX6_limitOf 89 = .ok (.baload, 1) := by decide +kernel
theorem dX6_limitOf_90 : decode cX6_limitOf 90 = .ok (.ifCond .ne 14, 3) := by decide +kernel
theorem dX6_limitOf_93 : decode cX6_limitOf 93 = .ok (.iload 5, 2) := by decide +kernel
theorem dX6_limitOf_95 : decode cX6_limitOf 95 = .ok (.iload_n 2, 1) := by decide +kernel
theorem dX6_limitOf_96 : decode cX6_limitOf 96 = .ok (.if_icmp .ge 8, 3) := by decide +kernel
theorem dX6_limitOf_99 : decode cX6_limitOf 99 = .ok (.iload 5, 2) := by decide +kernel
theorem dX6_limitOf_101 : decode cX6_limitOf 101 = .ok (.goto 4, 3) := by decide +kernel
theorem dX6_limitOf_104 : decode cX6_limitOf 104 = .ok (.iload_n 2, 1) := by decide +kernel
theorem dX6_limitOf_105 : decode cX6_limitOf 105 = .ok (.istore_n 2, 1) := by decide +kernel
theorem dX6_limitOf_106 : decode cX6_limitOf 106 = .ok (.iinc 3 1, 3) := by decide +kernel
theorem dX6_limitOf_109 : decode cX6_limitOf 109 = .ok (.goto (-57), 3) := by decide +kernel
theorem dX6_limitOf_112 : decode cX6_limitOf 112 = .ok (.iload_n 2, 1) := by decide +kernel
theorem dX6_limitOf_113 : decode cX6_limitOf 113 = .ok (.ireturn, 1) := by decide +kernel
theorem dX6_voltageAt_0 : decode cX6_voltageAt 0 = .ok (.iconst 0, 1) := by decide +kernel
theorem dX6_voltageAt_1 : decode cX6_voltageAt 1 = .ok (.istore_n 3, 1) := by decide +kernel
theorem dX6_voltageAt_2 : decode cX6_voltageAt 2 = .ok (.iconst 0, 1) := by decide +kernel
theorem dX6_voltageAt_3 : decode cX6_voltageAt 3 = .ok (.istore 4, 2) := by decide +kernel
theorem dX6_voltageAt_5 : decode cX6_voltageAt 5 = .ok (.iload 4, 2) := by decide +kernel
theorem dX6_voltageAt_7 : decode cX6_voltageAt 7 = .ok (.aload_n 0, 1) := by decide +kernel
theorem dX6_voltageAt_8 : decode cX6_voltageAt 8 = .ok (.getfield 26, 3) := by decide +kernel
theorem dX6_voltageAt_11 : decode cX6_voltageAt 11 = .ok (.iload_n 1, 1) := by decide +kernel
theorem dX6_voltageAt_12 : decode cX6_voltageAt 12 = .ok (.iaload, 1) := by decide +kernel
theorem dX6_voltageAt_13 : decode cX6_voltageAt 13 = .ok (.if_icmp .ge 29, 3) := by decide +kernel
theorem dX6_voltageAt_16 : decode cX6_voltageAt 16 = .ok (.iload_n 3, 1) := by decide +kernel
theorem dX6_voltageAt_17 : decode cX6_voltageAt 17 = .ok (.aload_n 0, 1) := by decide +kernel
theorem dX6_voltageAt_18 : decode cX6_voltageAt 18 = .ok (.aload_n 0, 1) := by decide +kernel
theorem dX6_voltageAt_19 : decode cX6_voltageAt 19 = .ok (.getfield 29, 3) := by decide +kernel
theorem dX6_voltageAt_22 : decode cX6_voltageAt 22 = .ok (.bipush 12, 2) := by decide +kernel
theorem dX6_voltageAt_24 : decode cX6_voltageAt 24 = .ok (.iload_n 1, 1) := by decide +kernel
theorem dX6_voltageAt_25 : decode cX6_voltageAt 25 = .ok (.imul, 1) := by decide +kernel
theorem dX6_voltageAt_26 : decode cX6_voltageAt 26 = .ok (.iload 4, 2) := by decide +kernel
theorem dX6_voltageAt_28 : decode cX6_voltageAt 28 = .ok (.iadd, 1) := by decide +kernel
theorem dX6_voltageAt_29 : decode cX6_voltageAt 29 = .ok (.iaload, 1) := by decide +kernel
theorem dX6_voltageAt_30 : decode cX6_voltageAt 30 = .ok (.iload_n 2, 1) := by decide +kernel
theorem dX6_voltageAt_31 : decode cX6_voltageAt 31 = .ok (.invokevirtual 91, 3) := by decide +kernel
theorem dX6_voltageAt_34 : decode cX6_voltageAt 34 = .ok (.iadd, 1) := by decide +kernel
theorem dX6_voltageAt_35 : decode cX6_voltageAt 35 = .ok (.istore_n 3, 1) := by decide +kernel
theorem dX6_voltageAt_36 : decode cX6_voltageAt 36 = .ok (.iinc 4 1, 3) := by decide +kernel
theorem dX6_voltageAt_39 : decode cX6_voltageAt 39 = .ok (.goto (-34), 3) := by decide +kernel
theorem dX6_voltageAt_42 : decode cX6_voltageAt 42 = .ok (.iload_n 3, 1) := by decide +kernel
theorem dX6_voltageAt_43 : decode cX6_voltageAt 43 = .ok (.ireturn, 1) := by decide +kernel
theorem dX6_powerAt_0 : decode cX6_powerAt 0 = .ok (.iload_n 2, 1) := by decide +kernel
theorem dX6_powerAt_1 : decode cX6_powerAt 1 = .ok (.i2l, 1) := by decide +kernel
theorem dX6_powerAt_2 : decode cX6_powerAt 2 = .ok (.aload_n 0, 1) := by decide +kernel
theorem dX6_powerAt_3 : decode cX6_powerAt 3 = .ok (.iload_n 1, 1) := by decide +kernel
theorem dX6_powerAt_4 : decode cX6_powerAt 4 = .ok (.iload_n 2, 1) := by decide +kernel
theorem dX6_powerAt_5 : decode cX6_powerAt 5 = .ok (.invokevirtual 100, 3) := by decide +kernel
theorem dX6_powerAt_8 : decode cX6_powerAt 8 = .ok (.i2l, 1) := by decide +kernel
theorem dX6_powerAt_9 : decode cX6_powerAt 9 = .ok (.lmul, 1) := by decide +kernel
theorem dX6_powerAt_10 : decode cX6_powerAt 10 = .ok (.lreturn, 1) := by decide +kernel
theorem dX6_currentLimit_0 : decode cX6_currentLimit 0 = .ok (.aload_n 0, 1) := by decide +kernel
theorem dX6_currentLimit_1 : decode cX6_currentLimit 1 = .ok (.iload_n 1, 1) := by decide +kernel
theorem dX6_currentLimit_2 : decode cX6_currentLimit 2 = .ok (.invokevirtual 62, 3) := by decide +kernel
theorem dX6_currentLimit_5 : decode cX6_currentLimit 5 = .ok (.ifCond .eq 11, 3) := by decide +kernel
theorem dX6_currentLimit_8 : decode cX6_currentLimit 8 = .ok (.aload_n 0, 1) := by decide +kernel
theorem dX6_currentLimit_9 : decode cX6_currentLimit 9 = .ok (.iload_n 1, 1) := by decide +kernel
theorem dX6_currentLimit_10 : decode cX6_currentLimit 10 = .ok (.invokevirtual 103, 3) := by decide +kernel
theorem dX6_currentLimit_13 : decode cX6_currentLimit 13 = .ok (.goto 6, 3) := by decide +kernel
theorem dX6_currentLimit_16 : decode cX6_currentLimit 16 = .ok (.sipush (-1001), 3) := by decide +kernel
theorem dX6_currentLimit_19 : decode cX6_currentLimit 19 = .ok (.ireturn, 1) := by decide +kernel
theorem dX6_stringVoltage_0 : decode cX6_stringVoltage 0 = .ok (.aload_n 0, 1) := by decide +kernel
theorem dX6_stringVoltage_1 : decode cX6_stringVoltage 1 = .ok (.iload_n 1, 1) := by decide +kernel
theorem dX6_stringVoltage_2 : decode cX6_stringVoltage 2 = .ok (.invokevirtual 62, 3) := by decide +kernel
theorem dX6_stringVoltage_5 : decode cX6_stringVoltage 5 = .ok (.ifCond .ne 7, 3) := by decide +kernel
theorem dX6_stringVoltage_8 : decode cX6_stringVoltage 8 = .ok (.sipush (-1001), 3) := by decide +kernel
theorem dX6_stringVoltage_11 : decode cX6_stringVoltage 11 = .ok (.ireturn, 1) := by decide +kernel
theorem dX6_stringVoltage_12 : decode cX6_stringVoltage 12 = .ok (.iload_n 2, 1) := by decide +kernel
theorem dX6_stringVoltage_13 : decode cX6_stringVoltage 13 = .ok (.iconst 0, 1) := by decide +kernel
theorem dX6_stringVoltage_14 : decode cX6_stringVoltage 14 = .ok (.aload_n 0, 1) := by decide +kernel
theorem dX6_stringVoltage_15 : decode cX6_stringVoltage 15 = .ok (.iload_n 1, 1) := by decide +kernel
theorem dX6_stringVoltage_16 : decode cX6_stringVoltage 16 = .ok (.invokevirtual 103, 3) := by decide +kernel
theorem dX6_stringVoltage_19 : decode cX6_stringVoltage 19 = .ok (.invokestatic 55, 3) := by decide +kernel
theorem dX6_stringVoltage_22 : decode cX6_stringVoltage 22 = .ok (.ifCond .eq 12, 3) := by decide +kernel
theorem dX6_stringVoltage_25 : decode cX6_stringVoltage 25 = .ok (.aload_n 0, 1) := by decide +kernel
theorem dX6_stringVoltage_26 : decode cX6_stringVoltage 26 = .ok (.iload_n 1, 1) := by decide +kernel
theorem dX6_stringVoltage_27 : decode cX6_stringVoltage 27 = .ok (.iload_n 2, 1) := by decide +kernel
theorem dX6_stringVoltage_28 : decode cX6_stringVoltage 28 = .ok (.invokevirtual 100, 3) := by decide +kernel
theorem dX6_stringVoltage_31 : decode cX6_stringVoltage 31 = .ok (.goto 6, 3) := by decide +kernel
theorem dX6_stringVoltage_34 : decode cX6_stringVoltage 34 = .ok (.sipush (-1003), 3) := by decide +kernel
theorem dX6_stringVoltage_37 : decode cX6_stringVoltage 37 = .ok (.ireturn, 1) := by decide +kernel
theorem dX6_stringPower_0 : decode cX6_stringPower 0 = .ok (.aload_n 0, 1) := by decide +kernel
theorem dX6_stringPower_1 : decode cX6_stringPower 1 = .ok (.iload_n 1, 1) := by decide +kernel
theorem dX6_stringPower_2 : decode cX6_stringPower 2 = .ok (.invokevirtual 62, 3) := by decide +kernel
theorem dX6_stringPower_5 : decode cX6_stringPower 5 = .ok (.ifCond .eq 25, 3) := by decide +kernel
theorem dX6_stringPower_8 : decode cX6_stringPower 8 = .ok (.iload_n 2, 1) := by decide +kernel
theorem dX6_stringPower_9 : decode cX6_stringPower 9 = .ok (.iconst 0, 1) := by decide +kernel
theorem dX6_stringPower_10 : decode cX6_stringPower 10 = .ok (.aload_n 0, 1) := by decide +kernel
theorem dX6_stringPower_11 : decode cX6_stringPower 11 = .ok (.iload_n 1, 1) := by decide +kernel
theorem dX6_stringPower_12 : decode cX6_stringPower 12 = .ok (.invokevirtual 103, 3) := by decide +kernel
theorem dX6_stringPower_15 : decode cX6_stringPower 15 = .ok (.invokestatic 55, 3) := by decide +kernel
theorem dX6_stringPower_18 : decode cX6_stringPower 18 = .ok (.ifCond .eq 12, 3) := by decide +kernel
theorem dX6_stringPower_21 : decode cX6_stringPower 21 = .ok (.aload_n 0, 1) := by decide +kernel
theorem dX6_stringPower_22 : decode cX6_stringPower 22 = .ok (.iload_n 1, 1) := by decide +kernel
theorem dX6_stringPower_23 : decode cX6_stringPower 23 = .ok (.iload_n 2, 1) := by decide +kernel
theorem dX6_stringPower_24 : decode cX6_stringPower 24 = .ok (.invokevirtual 106, 3) := by decide +kernel
theorem dX6_stringPower_27 : decode cX6_stringPower 27 = .ok (.goto 6, 3) := by decide +kernel
theorem dX6_stringPower_30 : decode cX6_stringPower 30 = .ok (.ldc2_w 98, 3) := by decide +kernel
theorem dX6_stringPower_33 : decode cX6_stringPower 33 = .ok (.lreturn, 1) := by decide +kernel
theorem dX6_bypassedModules_0 : decode cX6_bypassedModules 0 = .ok (.aload_n 0, 1) := by decide +kernel
theorem dX6_bypassedModules_1 : decode cX6_bypassedModules 1 = .ok (.iload_n 1, 1) := by decide +kernel
theorem dX6_bypassedModules_2 : decode cX6_bypassedModules 2 = .ok (.invokevirtual 62, 3) := by decide +kernel
theorem dX6_bypassedModules_5 : decode cX6_bypassedModules 5 = .ok (.ifCond .ne 7, 3) := by decide +kernel
theorem dX6_bypassedModules_8 : decode cX6_bypassedModules 8 = .ok (.sipush (-1001), 3) := by decide +kernel
theorem dX6_bypassedModules_11 : decode cX6_bypassedModules 11 = .ok (.ireturn, 1) := by decide +kernel
theorem dX6_bypassedModules_12 : decode cX6_bypassedModules 12 = .ok (.iload_n 2, 1) := by decide +kernel
theorem dX6_bypassedModules_13 : decode cX6_bypassedModules 13 = .ok (.iconst 0, 1) := by decide +kernel
theorem dX6_bypassedModules_14 : decode cX6_bypassedModules 14 = .ok (.aload_n 0, 1) := by decide +kernel
theorem dX6_bypassedModules_15 : decode cX6_bypassedModules 15 = .ok (.iload_n 1, 1) := by decide +kernel
theorem dX6_bypassedModules_16 : decode cX6_bypassedModules 16 = .ok (.invokevirtual 103, 3) := by decide +kernel
theorem dX6_bypassedModules_19 : decode cX6_bypassedModules 19 = .ok (.invokestatic 55, 3) := by decide +kernel
theorem dX6_bypassedModules_22 : decode cX6_bypassedModules 22 = .ok (.ifCond .ne 7, 3) := by decide +kernel
theorem dX6_bypassedModules_25 : decode cX6_bypassedModules 25 = .ok (.sipush (-1003), 3) := by decide +kernel
theorem dX6_bypassedModules_28 : decode cX6_bypassedModules 28 = .ok (.ireturn, 1) := by decide +kernel
theorem dX6_bypassedModules_29 : decode cX6_bypassedModules 29 = .ok (.iconst 0, 1) := by decide +kernel
theorem dX6_bypassedModules_30 : decode cX6_bypassedModules 30 = .ok (.istore_n 3, 1) := by decide +kernel
theorem dX6_bypassedModules_31 : decode cX6_bypassedModules 31 = .ok (.iconst 0, 1) := by decide +kernel
theorem dX6_bypassedModules_32 : decode cX6_bypassedModules 32 = .ok (.istore 4, 2) := by decide +kernel
theorem dX6_bypassedModules_34 : decode cX6_bypassedModules 34 = .ok (.iload 4, 2) := by decide +kernel
theorem dX6_bypassedModules_36 : decode cX6_bypassedModules 36 = .ok (.aload_n 0, 1) := by decide +kernel
theorem dX6_bypassedModules_37 : decode cX6_bypassedModules 37 = .ok (.getfield 26, 3) := by decide +kernel
theorem dX6_bypassedModules_40 : decode cX6_bypassedModules 40 = .ok (.iload_n 1, 1) := by decide +kernel
theorem dX6_bypassedModules_41 : decode cX6_bypassedModules 41 = .ok (.iaload, 1) := by decide +kernel
theorem dX6_bypassedModules_42 : decode cX6_bypassedModules 42 = .ok (.if_icmp .ge 40, 3) := by decide +kernel
theorem dX6_bypassedModules_45 : decode cX6_bypassedModules 45 = .ok (.iload_n 3, 1) := by decide +kernel
theorem dX6_bypassedModules_46 : decode cX6_bypassedModules 46 = .ok (.iload_n 2, 1) := by decide +kernel
theorem dX6_bypassedModules_47 : decode cX6_bypassedModules 47 = .ok (.aload_n 0, 1) := by decide +kernel
theorem dX6_bypassedModules_48 : decode cX6_bypassedModules 48 = .ok (.aload_n 0, 1) := by decide +kernel
theorem dX6_bypassedModules_49 : decode cX6_bypassedModules 49 = .ok (.getfield 29, 3) := by decide +kernel
theorem dX6_bypassedModules_52 : decode cX6_bypassedModules 52 = .ok (.bipush 12, 2) := by decide +kernel
theorem dX6_bypassedModules_54 : decode cX6_bypassedModules 54 = .ok (.iload_n 1, 1) := by decide +kernel
theorem dX6_bypassedModules_55 : decode cX6_bypassedModules 55 = .ok (.imul, 1) := by decide +kernel
theorem dX6_bypassedModules_56 : decode cX6_bypassedModules 56 = .ok (.iload 4, 2) := by decide +kernel
theorem dX6_bypassedModules_58 : decode cX6_bypassedModules 58 = .ok (.iadd, 1) := by decide +kernel
theorem dX6_bypassedModules_59 : decode cX6_bypassedModules 59 = .ok (.iaload, 1) := by decide +kernel
theorem dX6_bypassedModules_60 : decode cX6_bypassedModules 60 = .ok (.invokevirtual 84, 3) := by decide +kernel
theorem dX6_bypassedModules_63 : decode cX6_bypassedModules 63 = .ok (.if_icmp .le 10, 3) := by decide +kernel
theorem dX6_bypassedModules_66 : decode cX6_bypassedModules 66 = .ok (.iconst 1, 1) := by decide +kernel
theorem dX6_bypassedModules_67 : decode cX6_bypassedModules 67 = .ok (.iload 4, 2) := by decide +kernel
theorem dX6_bypassedModules_69 : decode cX6_bypassedModules 69 = .ok (.ishl, 1) := by decide +kernel
theorem dX6_bypassedModules_70 : decode cX6_bypassedModules 70 = .ok (.goto 4, 3) := by decide +kernel
theorem dX6_bypassedModules_73 : decode cX6_bypassedModules 73 = .ok (.iconst 0, 1) := by decide +kernel
theorem dX6_bypassedModules_74 : decode cX6_bypassedModules 74 = .ok (.ior, 1) := by decide +kernel
theorem dX6_bypassedModules_75 : decode cX6_bypassedModules 75 = .ok (.istore_n 3, 1) := by decide +kernel
theorem dX6_bypassedModules_76 : decode cX6_bypassedModules 76 = .ok (.iinc 4 1, 3) := by decide +kernel
theorem dX6_bypassedModules_79 : decode cX6_bypassedModules 79 = .ok (.goto (-45), 3) := by decide +kernel
theorem dX6_bypassedModules_82 : decode cX6_bypassedModules 82 = .ok (.iload_n 3, 1) := by decide +kernel
theorem dX6_bypassedModules_83 : decode cX6_bypassedModules 83 = .ok (.ireturn, 1) := by decide +kernel
theorem dX6_layOut_0 : decode cX6_layOut 0 = .ok (.aload_n 0, 1) := by decide +kernel
theorem dX6_layOut_1 : decode cX6_layOut 1 = .ok (.aload_n 0, 1) := by decide +kernel
theorem dX6_layOut_2 : decode cX6_layOut 2 = .ok (.iload_n 1, 1) := by decide +kernel
theorem dX6_layOut_3 : decode cX6_layOut 3 = .ok (.invokevirtual 103, 3) := by decide +kernel
theorem dX6_layOut_6 : decode cX6_layOut 6 = .ok (.putfield 110, 3) := by decide +kernel
theorem dX6_layOut_9 : decode cX6_layOut 9 = .ok (.iconst 0, 1) := by decide +kernel
theorem dX6_layOut_10 : decode cX6_layOut 10 = .ok (.istore_n 2, 1) := by decide +kernel
theorem dX6_layOut_11 : decode cX6_layOut 11 = .ok (.iload_n 2, 1) := by decide +kernel
theorem dX6_layOut_12 : decode cX6_layOut 12 = .ok (.aload_n 0, 1) := by decide +kernel
theorem dX6_layOut_13 : decode cX6_layOut 13 = .ok (.getfield 110, 3) := by decide +kernel
theorem dX6_layOut_16 : decode cX6_layOut 16 = .ok (.if_icmp .gt 21, 3) := by decide +kernel
theorem dX6_layOut_19 : decode cX6_layOut 19 = .ok (.aload_n 0, 1) := by decide +kernel
theorem dX6_layOut_20 : decode cX6_layOut 20 = .ok (.getfield 32, 3) := by decide +kernel
theorem dX6_layOut_23 : decode cX6_layOut 23 = .ok (.iload_n 2, 1) := by decide +kernel
theorem dX6_layOut_24 : decode cX6_layOut 24 = .ok (.aload_n 0, 1) := by decide +kernel
theorem dX6_layOut_25 : decode cX6_layOut 25 = .ok (.iload_n 1, 1) := by decide +kernel
theorem dX6_layOut_26 : decode cX6_layOut 26 = .ok (.iload_n 2, 1) := by decide +kernel
theorem dX6_layOut_27 : decode cX6_layOut 27 = .ok (.invokevirtual 106, 3) := by decide +kernel
theorem dX6_layOut_30 : decode cX6_layOut 30 = .ok (.lastore, 1) := by decide +kernel
theorem dX6_layOut_31 : decode cX6_layOut 31 = .ok (.iinc 2 1, 3) := by decide +kernel
theorem dX6_layOut_34 : decode cX6_layOut 34 = .ok (.goto (-23), 3) := by decide +kernel
theorem dX6_layOut_37 : decode cX6_layOut 37 = .ok (.return_, 1) := by decide +kernel
theorem dX6_isPeak_0 : decode cX6_isPeak 0 = .ok (.aload_n 0, 1) := by decide +kernel
theorem dX6_isPeak_1 : decode cX6_isPeak 1 = .ok (.getfield 32, 3) := by decide +kernel
theorem dX6_isPeak_4 : decode cX6_isPeak 4 = .ok (.iload_n 1, 1) := by decide +kernel
theorem dX6_isPeak_5 : decode cX6_isPeak 5 = .ok (.laload, 1) := by decide +kernel
theorem dX6_isPeak_6 : decode cX6_isPeak 6 = .ok (.aload_n 0, 1) := by decide +kernel
theorem dX6_isPeak_7 : decode cX6_isPeak 7 = .ok (.getfield 32, 3) := by decide +kernel
theorem dX6_isPeak_10 : decode cX6_isPeak 10 = .ok (.iload_n 1, 1) := by decide +kernel
theorem dX6_isPeak_11 : decode cX6_isPeak 11 = .ok (.iconst 1, 1) := by decide +kernel
theorem dX6_isPeak_12 : decode cX6_isPeak 12 = .ok (.isub, 1) := by decide +kernel
theorem dX6_isPeak_13 : decode cX6_isPeak 13 = .ok (.laload, 1) := by decide +kernel
theorem dX6_isPeak_14 : decode cX6_isPeak 14 = .ok (.lcmp, 1) := by decide +kernel
theorem dX6_isPeak_15 : decode cX6_isPeak 15 = .ok (.ifCond .le 33, 3) := by decide +kernel
theorem dX6_isPeak_18 : decode cX6_isPeak 18 = .ok (.iload_n 1, 1) := by decide +kernel
theorem dX6_isPeak_19 : decode cX6_isPeak 19 = .ok (.aload_n 0, 1) := by decide +kernel
theorem dX6_isPeak_20 : decode cX6_isPeak 20 = .ok (.getfield 110, 3) := by decide +kernel
theorem dX6_isPeak_23 : decode cX6_isPeak 23 = .ok (.if_icmp .eq 21, 3) := by decide +kernel
theorem dX6_isPeak_26 : decode cX6_isPeak 26 = .ok (.aload_n 0, 1) := by decide +kernel
theorem dX6_isPeak_27 : decode cX6_isPeak 27 = .ok (.getfield 32, 3) := by decide +kernel
theorem dX6_isPeak_30 : decode cX6_isPeak 30 = .ok (.iload_n 1, 1) := by decide +kernel
theorem dX6_isPeak_31 : decode cX6_isPeak 31 = .ok (.laload, 1) := by decide +kernel
theorem dX6_isPeak_32 : decode cX6_isPeak 32 = .ok (.aload_n 0, 1) := by decide +kernel
theorem dX6_isPeak_33 : decode cX6_isPeak 33 = .ok (.getfield 32, 3) := by decide +kernel
theorem dX6_isPeak_36 : decode cX6_isPeak 36 = .ok (.iload_n 1, 1) := by decide +kernel
theorem dX6_isPeak_37 : decode cX6_isPeak 37 = .ok (.iconst 1, 1) := by decide +kernel
theorem dX6_isPeak_38 : decode cX6_isPeak 38 = .ok (.iadd, 1) := by decide +kernel
theorem dX6_isPeak_39 : decode cX6_isPeak 39 = .ok (.laload, 1) := by decide +kernel
theorem dX6_isPeak_40 : decode cX6_isPeak 40 = .ok (.lcmp, 1) := by decide +kernel
theorem dX6_isPeak_41 : decode cX6_isPeak 41 = .ok (.ifCond .le 7, 3) := by decide +kernel
theorem dX6_isPeak_44 : decode cX6_isPeak 44 = .ok (.iconst 1, 1) := by decide +kernel
theorem dX6_isPeak_45 : decode cX6_isPeak 45 = .ok (.goto 4, 3) := by decide +kernel
theorem dX6_isPeak_48 : decode cX6_isPeak 48 = .ok (.iconst 0, 1) := by decide +kernel
theorem dX6_isPeak_49 : decode cX6_isPeak 49 = .ok (.ireturn, 1) := by decide +kernel
theorem dX6_peakCount_0 : decode cX6_peakCount 0 = .ok (.aload_n 0, 1) := by decide +kernel
theorem dX6_peakCount_1 : decode cX6_peakCount 1 = .ok (.iload_n 1, 1) := by decide +kernel
theorem dX6_peakCount_2 : decode cX6_peakCount 2 = .ok (.invokevirtual 62, 3) := by decide +kernel
theorem dX6_peakCount_5 : decode cX6_peakCount 5 = .ok (.ifCond .ne 7, 3) := by decide +kernel
theorem dX6_peakCount_8 : decode cX6_peakCount 8 = .ok (.sipush (-1001), 3) := by decide +kernel
theorem dX6_peakCount_11 : decode cX6_peakCount 11 = .ok (.ireturn, 1) := by decide +kernel
theorem dX6_peakCount_12 : decode cX6_peakCount 12 = .ok (.aload_n 0, 1) := by decide +kernel
theorem dX6_peakCount_13 : decode cX6_peakCount 13 = .ok (.iload_n 1, 1) := by decide +kernel
theorem dX6_peakCount_14 : decode cX6_peakCount 14 = .ok (.invokevirtual 113, 3) := by decide +kernel
theorem dX6_peakCount_17 : decode cX6_peakCount 17 = .ok (.iconst 0, 1) := by decide +kernel
theorem dX6_peakCount_18 : decode cX6_peakCount 18 = .ok (.istore_n 2, 1) := by decide +kernel
theorem dX6_peakCount_19 : decode cX6_peakCount 19 = .ok (.iconst 1, 1) := by decide +kernel
theorem dX6_peakCount_20 : decode cX6_peakCount 20 = .ok (.istore_n 3, 1) := by decide +kernel
theorem dX6_peakCount_21 : decode cX6_peakCount 21 = .ok (.iload_n 3, 1) := by decide +kernel
theorem dX6_peakCount_22 : decode cX6_peakCount 22 = .ok (.aload_n 0, 1) := by decide +kernel
theorem dX6_peakCount_23 : decode cX6_peakCount 23 = .ok (.getfield 110, 3) := by decide +kernel
theorem dX6_peakCount_26 : decode cX6_peakCount 26 = .ok (.if_icmp .gt 25, 3) := by decide +kernel
theorem dX6_peakCount_29 : decode cX6_peakCount 29 = .ok (.iload_n 2, 1) := by decide +kernel
theorem dX6_peakCount_30 : decode cX6_peakCount 30 = .ok (.aload_n 0, 1) := by decide +kernel
theorem dX6_peakCount_31 : decode cX6_peakCount 31 = .ok (.iload_n 3, 1) := by decide +kernel
theorem dX6_peakCount_32 : decode cX6_peakCount 32 = .ok (.invokevirtual 116, 3) := by decide +kernel
theorem dX6_peakCount_35 : decode cX6_peakCount 35 = .ok (.ifCond .eq 7, 3) := by decide +kernel
theorem dX6_peakCount_38 : decode cX6_peakCount 38 = .ok (.iconst 1, 1) := by decide +kernel
theorem dX6_peakCount_39 : decode cX6_peakCount 39 = .ok (.goto 4, 3) := by decide +kernel
theorem dX6_peakCount_42 : decode cX6_peakCount 42 = .ok (.iconst 0, 1) := by decide +kernel
theorem dX6_peakCount_43 : decode cX6_peakCount 43 = .ok (.iadd, 1) := by decide +kernel
theorem dX6_peakCount_44 : decode cX6_peakCount 44 = .ok (.istore_n 2, 1) := by decide +kernel
theorem dX6_peakCount_45 : decode cX6_peakCount 45 = .ok (.iinc 3 1, 3) := by decide +kernel
theorem dX6_peakCount_48 : decode cX6_peakCount 48 = .ok (.goto (-27), 3) := by decide +kernel
theorem dX6_peakCount_51 : decode cX6_peakCount 51 = .ok (.iload_n 2, 1) := by decide +kernel
theorem dX6_peakCount_52 : decode cX6_peakCount 52 = .ok (.ireturn, 1) := by decide +kernel
theorem dX6_peakCurrent_0 : decode cX6_peakCurrent 0 = .ok (.aload_n 0, 1) := by decide +kernel
theorem dX6_peakCurrent_1 : decode cX6_peakCurrent 1 = .ok (.iload_n 1, 1) := by decide +kernel
theorem dX6_peakCurrent_2 : decode cX6_peakCurrent 2 = .ok (.invokevirtual 62, 3) := by decide +kernel
theorem dX6_peakCurrent_5 : decode cX6_peakCurrent 5 = .ok (.ifCond .ne 7, 3) := by decide +kernel
theorem dX6_peakCurrent_8 : decode cX6_peakCurrent 8 = .ok (.sipush (-1001), 3) := by decide +kernel
theorem dX6_peakCurrent_11 : decode cX6_peakCurrent 11 = .ok (.ireturn, 1) := by decide +kernel
theorem dX6_peakCurrent_12 : decode cX6_peakCurrent 12 = .ok (.iload_n 2, 1) := by decide +kernel
theorem dX6_peakCurrent_13 : decode cX6_peakCurrent 13 = .ok (.ifCond .ge 7, 3) := by decide +kernel
theorem dX6_peakCurrent_16 : decode cX6_peakCurrent 16 = .ok (.sipush (-1003), 3) := by decide +kernel
theorem dX6_peakCurrent_19 : decode cX6_peakCurrent 19 = .ok (.ireturn, 1) := by decide +kernel
theorem dX6_peakCurrent_20 : decode cX6_peakCurrent 20 = .ok (.aload_n 0, 1) := by decide +kernel
theorem dX6_peakCurrent_21 : decode cX6_peakCurrent 21 = .ok (.iload_n 1, 1) := by decide +kernel
theorem dX6_peakCurrent_22 : decode cX6_peakCurrent 22 = .ok (.invokevirtual 113, 3) := by decide +kernel
theorem dX6_peakCurrent_25 : decode cX6_peakCurrent 25 = .ok (.iload_n 2, 1) := by decide +kernel
theorem dX6_peakCurrent_26 : decode cX6_peakCurrent 26 = .ok (.istore_n 3, 1) := by decide +kernel
theorem dX6_peakCurrent_27 : decode cX6_peakCurrent 27 = .ok (.iconst 1, 1) := by decide +kernel
theorem dX6_peakCurrent_28 : decode cX6_peakCurrent 28 = .ok (.istore 4, 2) := by decide +kernel
theorem dX6_peakCurrent_30 : decode cX6_peakCurrent 30 = .ok (.iload 4, 2) := by decide +kernel
theorem dX6_peakCurrent_32 : decode cX6_peakCurrent 32 = .ok (.aload_n 0, 1) := by decide +kernel
theorem dX6_peakCurrent_33 : decode cX6_peakCurrent 33 = .ok (.getfield 110, 3) := by decide +kernel
theorem dX6_peakCurrent_36 : decode cX6_peakCurrent 36 = .ok (.if_icmp .gt 28, 3) := by decide +kernel
theorem dX6_peakCurrent_39 : decode cX6_peakCurrent 39 = .ok (.aload_n 0, 1) := by decide +kernel
theorem dX6_peakCurrent_40 : decode cX6_peakCurrent 40 = .ok (.iload 4, 2) := by decide +kernel
theorem dX6_peakCurrent_42 : decode cX6_peakCurrent 42 = .ok (.invokevirtual 116, 3) := by decide +kernel
theorem dX6_peakCurrent_45 : decode cX6_peakCurrent 45 = .ok (.ifCond .eq 13, 3) := by decide +kernel
theorem dX6_peakCurrent_48 : decode cX6_peakCurrent 48 = .ok (.iload_n 3, 1) := by decide +kernel
theorem dX6_peakCurrent_49 : decode cX6_peakCurrent 49 = .ok (.ifCond .ne 6, 3) := by decide +kernel
theorem dX6_peakCurrent_52 : decode cX6_peakCurrent 52 = .ok (.iload 4, 2) := by decide +kernel
theorem dX6_peakCurrent_54 : decode cX6_peakCurrent 54 = .ok (.ireturn, 1) := by decide +kernel
theorem dX6_peakCurrent_55 : decode cX6_peakCurrent 55 = .ok (.iinc 3 (-1), 3) := by decide +kernel
theorem dX6_peakCurrent_58 : decode cX6_peakCurrent 58 = .ok (.iinc 4 1, 3) := by decide +kernel
theorem dX6_peakCurrent_61 : decode cX6_peakCurrent 61 = .ok (.goto (-31), 3) := by decide +kernel
theorem dX6_peakCurrent_64 : decode cX6_peakCurrent 64 = .ok (.sipush (-1005), 3) := by decide +kernel
theorem dX6_peakCurrent_67 : decode cX6_peakCurrent 67 = .ok (.ireturn, 1) := by decide +kernel
theorem dX6_bestOf_0 : decode cX6_bestOf 0 = .ok (.aload_n 0, 1) := by decide +kernel
theorem dX6_bestOf_1 : decode cX6_bestOf 1 = .ok (.iload_n 1, 1) := by decide +kernel
theorem dX6_bestOf_2 : decode cX6_bestOf 2 = .ok (.invokevirtual 113, 3) := by decide +kernel
theorem dX6_bestOf_5 : decode cX6_bestOf 5 = .ok (.iconst 0, 1) := by decide +kernel
theorem dX6_bestOf_6 : decode cX6_bestOf 6 = .ok (.istore_n 2, 1) := by decide +kernel
theorem dX6_bestOf_7 : decode cX6_bestOf 7 = .ok (.iconst 1, 1) := by decide +kernel
theorem dX6_bestOf_8 : decode cX6_bestOf 8 = .ok (.istore_n 3, 1) := by decide +kernel
theorem dX6_bestOf_9 : decode cX6_bestOf 9 = .ok (.iload_n 3, 1) := by decide +kernel
theorem dX6_bestOf_10 : decode cX6_bestOf 10 = .ok (.aload_n 0, 1) := by decide +kernel
theorem dX6_bestOf_11 : decode cX6_bestOf 11 = .ok (.getfield 110, 3) := by decide +kernel
theorem dX6_bestOf_14 : decode cX6_bestOf 14 = .ok (.if_icmp .gt 31, 3) := by decide +kernel
theorem dX6_bestOf_17 : decode cX6_bestOf 17 = .ok (.aload_n 0, 1) := by decide +kernel
theorem dX6_bestOf_18 : decode cX6_bestOf 18 = .ok (.getfield 32, 3) := by decide +kernel
theorem dX6_bestOf_21 : decode cX6_bestOf 21 = .ok (.iload_n 3, 1) := by decide +kernel
theorem dX6_bestOf_22 : decode cX6_bestOf 22 = .ok (.laload, 1) := by decide +kernel
theorem dX6_bestOf_23 : decode cX6_bestOf 23 = .ok (.aload_n 0, 1) := by decide +kernel
theorem dX6_bestOf_24 : decode cX6_bestOf 24 = .ok (.getfield 32, 3) := by decide +kernel
theorem dX6_bestOf_27 : decode cX6_bestOf 27 = .ok (.iload_n 2, 1) := by decide +kernel
theorem dX6_bestOf_28 : decode cX6_bestOf 28 = .ok (.laload, 1) := by decide +kernel
theorem dX6_bestOf_29 : decode cX6_bestOf 29 = .ok (.lcmp, 1) := by decide +kernel
theorem dX6_bestOf_30 : decode cX6_bestOf 30 = .ok (.ifCond .le 7, 3) := by decide +kernel
theorem dX6_bestOf_33 : decode cX6_bestOf 33 = .ok (.iload_n 3, 1) := by decide +kernel
theorem dX6_bestOf_34 : decode cX6_bestOf 34 = .ok (.goto 4, 3) := by decide +kernel
theorem dX6_bestOf_37 : decode cX6_bestOf 37 = .ok (.iload_n 2, 1) := by decide +kernel
theorem dX6_bestOf_38 : decode cX6_bestOf 38 = .ok (.istore_n 2, 1) := by decide +kernel
theorem dX6_bestOf_39 : decode cX6_bestOf 39 = .ok (.iinc 3 1, 3) := by decide +kernel
theorem dX6_bestOf_42 : decode cX6_bestOf 42 = .ok (.goto (-33), 3) := by decide +kernel
theorem dX6_bestOf_45 : decode cX6_bestOf 45 = .ok (.iload_n 2, 1) := by decide +kernel
theorem dX6_bestOf_46 : decode cX6_bestOf 46 = .ok (.ireturn, 1) := by decide +kernel
theorem dX6_bestPowerOf_0 : decode cX6_bestPowerOf 0 = .ok (.aload_n 0, 1) := by decide +kernel
theorem dX6_bestPowerOf_1 : decode cX6_bestPowerOf 1 = .ok (.getfield 32, 3) := by decide +kernel
theorem dX6_bestPowerOf_4 : decode cX6_bestPowerOf 4 = .ok (.aload_n 0, 1) := by decide +kernel
theorem dX6_bestPowerOf_5 : decode cX6_bestPowerOf 5 = .ok (.iload_n 1, 1) := by decide +kernel
theorem dX6_bestPowerOf_6 : decode cX6_bestPowerOf 6 = .ok (.invokevirtual 119, 3) := by decide +kernel
theorem dX6_bestPowerOf_9 : decode cX6_bestPowerOf 9 = .ok (.laload, 1) := by decide +kernel
theorem dX6_bestPowerOf_10 : decode cX6_bestPowerOf 10 = .ok (.lreturn, 1) := by decide +kernel
theorem dX6_bestCurrent_0 : decode cX6_bestCurrent 0 = .ok (.aload_n 0, 1) := by decide +kernel
theorem dX6_bestCurrent_1 : decode cX6_bestCurrent 1 = .ok (.iload_n 1, 1) := by decide +kernel
theorem dX6_bestCurrent_2 : decode cX6_bestCurrent 2 = .ok (.invokevirtual 62, 3) := by decide +kernel
theorem dX6_bestCurrent_5 : decode cX6_bestCurrent 5 = .ok (.ifCond .eq 11, 3) := by decide +kernel
theorem dX6_bestCurrent_8 : decode cX6_bestCurrent 8 = .ok (.aload_n 0, 1) := by decide +kernel
theorem dX6_bestCurrent_9 : decode cX6_bestCurrent 9 = .ok (.iload_n 1, 1) := by decide +kernel
theorem dX6_bestCurrent_10 : decode cX6_bestCurrent 10 = .ok (.invokevirtual 119, 3) := by decide +kernel
theorem dX6_bestCurrent_13 : decode cX6_bestCurrent 13 = .ok (.goto 6, 3) := by decide +kernel
theorem dX6_bestCurrent_16 : decode cX6_bestCurrent 16 = .ok (.sipush (-1001), 3) := by decide +kernel
theorem dX6_bestCurrent_19 : decode cX6_bestCurrent 19 = .ok (.ireturn, 1) := by decide +kernel
theorem dX6_bestPower_0 : decode cX6_bestPower 0 = .ok (.aload_n 0, 1) := by decide +kernel
theorem dX6_bestPower_1 : decode cX6_bestPower 1 = .ok (.iload_n 1, 1) := by decide +kernel
theorem dX6_bestPower_2 : decode cX6_bestPower 2 = .ok (.invokevirtual 62, 3) := by decide +kernel
theorem dX6_bestPower_5 : decode cX6_bestPower 5 = .ok (.ifCond .eq 11, 3) := by decide +kernel
theorem dX6_bestPower_8 : decode cX6_bestPower 8 = .ok (.aload_n 0, 1) := by decide +kernel
theorem dX6_bestPower_9 : decode cX6_bestPower 9 = .ok (.iload_n 1, 1) := by decide +kernel
theorem dX6_bestPower_10 : decode cX6_bestPower 10 = .ok (.invokevirtual 122, 3) := by decide +kernel
theorem dX6_bestPower_13 : decode cX6_bestPower 13 = .ok (.goto 6, 3) := by decide +kernel
theorem dX6_bestPower_16 : decode cX6_bestPower 16 = .ok (.ldc2_w 98, 3) := by decide +kernel
theorem dX6_bestPower_19 : decode cX6_bestPower 19 = .ok (.lreturn, 1) := by decide +kernel
theorem dX6_perturbAndObserve_0 : decode cX6_perturbAndObserve 0 = .ok (.aload_n 0, 1) := by decide +kernel
theorem dX6_perturbAndObserve_1 : decode cX6_perturbAndObserve 1 = .ok (.iload_n 1, 1) := by decide +kernel
theorem dX6_perturbAndObserve_2 : decode cX6_perturbAndObserve 2 = .ok (.invokevirtual 62, 3) := by decide +kernel
theorem dX6_perturbAndObserve_5 : decode cX6_perturbAndObserve 5 = .ok (.ifCond .ne 7, 3) := by decide +kernel
theorem dX6_perturbAndObserve_8 : decode cX6_perturbAndObserve 8 = .ok (.sipush (-1001), 3) := by decide +kernel
theorem dX6_perturbAndObserve_11 : decode cX6_perturbAndObserve 11 = .ok (.ireturn, 1) := by decide +kernel
theorem dX6_perturbAndObserve_12 : decode cX6_perturbAndObserve 12 = .ok (.aload_n 0, 1) := by decide +kernel
theorem dX6_perturbAndObserve_13 : decode cX6_perturbAndObserve 13 = .ok (.iload_n 1, 1) := by decide +kernel
theorem dX6_perturbAndObserve_14 : decode cX6_perturbAndObserve 14 = .ok (.invokevirtual 113, 3) := by decide +kernel
theorem dX6_perturbAndObserve_17 : decode cX6_perturbAndObserve 17 = .ok (.iload_n 2, 1) := by decide +kernel
theorem dX6_perturbAndObserve_18 : decode cX6_perturbAndObserve 18 = .ok (.iconst 0, 1) := by decide +kernel
theorem dX6_perturbAndObserve_19 : decode cX6_perturbAndObserve 19 = .ok (.aload_n 0, 1) := by decide +kernel
theorem dX6_perturbAndObserve_20 : decode cX6_perturbAndObserve 20 = .ok (.getfield 110, 3) := by decide +kernel
theorem dX6_perturbAndObserve_23 : decode cX6_perturbAndObserve 23 = .ok (.invokestatic 55, 3) := by decide +kernel
theorem dX6_perturbAndObserve_26 : decode cX6_perturbAndObserve 26 = .ok (.ifCond .eq 25, 3) := by decide +kernel
theorem dX6_perturbAndObserve_29 : decode cX6_perturbAndObserve 29 = .ok (.iload_n 3, 1) := by decide +kernel
theorem dX6_perturbAndObserve_30 : decode cX6_perturbAndObserve 30 = .ok (.iconst 1, 1) := by decide +kernel
theorem dX6_perturbAndObserve_31 : decode cX6_perturbAndObserve 31 = .ok (.bipush 100, 2) := by decide +kernel
theorem dX6_perturbAndObserve_33 : decode cX6_perturbAndObserve 33 = .ok (.invokestatic 55, 3) := by decide +kernel
theorem dX6_perturbAndObserve_36 : decode cX6_perturbAndObserve 36 = .ok (.ifCond .eq 15, 3) := by decide +kernel
theorem dX6_perturbAndObserve_39 : decode cX6_perturbAndObserve 39 = .ok (.iload 4, 2) := by decide +kernel
theorem dX6_perturbAndObserve_41 : decode cX6_perturbAndObserve 41 = .ok (.iconst 0, 1) := by decide +kernel
theorem dX6_perturbAndObserve_42 : decode cX6_perturbAndObserve 42 = .ok (.sipush 200, 3) := by decide +kernel
theorem dX6_perturbAndObserve_45 : decode cX6_perturbAndObserve 45 = .ok (.invokestatic 55, 3) := by decide +kernel
theorem dX6_perturbAndObserve_48 : decode cX6_perturbAndObserve 48 = .ok (.ifCond .ne 7, 3) := by decide +kernel
theorem dX6_perturbAndObserve_51 : decode cX6_perturbAndObserve 51 = .ok (.sipush (-1003), 3) := by decide +kernel
theorem dX6_perturbAndObserve_54 : decode cX6_perturbAndObserve 54 = .ok (.ireturn, 1) := by decide +kernel
theorem dX6_perturbAndObserve_55 : decode cX6_perturbAndObserve 55 = .ok (.iload_n 2, 1) := by decide +kernel
theorem dX6_perturbAndObserve_56 : decode cX6_perturbAndObserve 56 = .ok (.istore 5, 2) := by decide +kernel
theorem dX6_perturbAndObserve_58 : decode cX6_perturbAndObserve 58 = .ok (.iconst 1, 1) := by decide +kernel
theorem dX6_perturbAndObserve_59 : decode cX6_perturbAndObserve 59 = .ok (.istore 6, 2) := by decide +kernel
theorem dX6_perturbAndObserve_61 : decode cX6_perturbAndObserve 61 = .ok (.iconst 0, 1) := by decide +kernel
theorem dX6_perturbAndObserve_62 : decode cX6_perturbAndObserve 62 = .ok (.istore 7, 2) := by decide +kernel
theorem dX6_perturbAndObserve_64 : decode cX6_perturbAndObserve 64 = .ok (.iload 7, 2) := by decide +kernel
theorem dX6_perturbAndObserve_66 : decode cX6_perturbAndObserve 66 = .ok (.iload 4, 2) := by decide +kernel
theorem dX6_perturbAndObserve_68 : decode cX6_perturbAndObserve 68 = .ok (.if_icmp .ge 77, 3) := by decide +kernel
theorem dX6_perturbAndObserve_71 : decode cX6_perturbAndObserve 71 = .ok (.iload 5, 2) := by decide +kernel
theorem dX6_perturbAndObserve_73 : decode cX6_perturbAndObserve 73 = .ok (.iload 6, 2) := by decide +kernel
theorem dX6_perturbAndObserve_75 : decode cX6_perturbAndObserve 75 = .ok (.iload_n 3, 1) := by decide +kernel
theorem dX6_perturbAndObserve_76 : decode cX6_perturbAndObserve 76 = .ok (.imul, 1) := by decide +kernel
theorem dX6_perturbAndObserve_77 : decode cX6_perturbAndObserve 77 = .ok (.iadd, 1) := by decide +kernel
theorem dX6_perturbAndObserve_78 : decode cX6_perturbAndObserve 78 = .ok (.istore 8, 2) := by decide +kernel
theorem dX6_perturbAndObserve_80 : decode cX6_perturbAndObserve 80 = .ok (.iload 8, 2) := by decide +kernel
theorem dX6_perturbAndObserve_82 : decode cX6_perturbAndObserve 82 = .ok (.ifCond .ge 7, 3) := by decide +kernel
theorem dX6_perturbAndObserve_85 : decode cX6_perturbAndObserve 85 = .ok (.iconst 0, 1) := by decide +kernel
theorem dX6_perturbAndObserve_86 : decode cX6_perturbAndObserve 86 = .ok (.goto 21, 3) := by decide +kernel
theorem dX6_perturbAndObserve_89 : decode cX6_perturbAndObserve 89 = .ok (.iload 8, 2) := by decide +kernel
theorem dX6_perturbAndObserve_91 : decode cX6_perturbAndObserve 91 = .ok (.aload_n 0, 1) := by decide +kernel
theorem dX6_perturbAndObserve_92 : decode cX6_perturbAndObserve 92 = .ok (.getfield 110, 3) := by decide +kernel
theorem dX6_perturbAndObserve_95 : decode cX6_perturbAndObserve 95 = .ok (.if_icmp .le 10, 3) := by decide +kernel
theorem dX6_perturbAndObserve_98 : decode cX6_perturbAndObserve 98 = .ok (.aload_n 0, 1) := by decide +kernel
theorem dX6_perturbAndObserve_99 : decode cX6_perturbAndObserve 99 = .ok (.getfield 110, 3) := by decide +kernel
theorem dX6_perturbAndObserve_102 : decode cX6_perturbAndObserve 102 = .ok (.goto 5, 3) := by decide +kernel
theorem dX6_perturbAndObserve_105 : decode cX6_perturbAndObserve 105 = .ok (.iload 8, 2) := by decide +kernel
theorem dX6_perturbAndObserve_107 : decode cX6_perturbAndObserve 107 = .ok (.istore 8, 2) := by decide +kernel
theorem dX6_perturbAndObserve_109 : decode cX6_perturbAndObserve 109 = .ok (.aload_n 0, 1) := by decide +kernel
theorem dX6_perturbAndObserve_110 : decode cX6_perturbAndObserve 110 = .ok (.getfield 32, 3) := by decide +kernel
theorem dX6_perturbAndObserve_113 : decode cX6_perturbAndObserve 113 = .ok (.iload 8, 2) := by decide +kernel
theorem dX6_perturbAndObserve_115 : decode cX6_perturbAndObserve 115 = .ok (.laload, 1) := by decide +kernel
theorem dX6_perturbAndObserve_116 : decode cX6_perturbAndObserve 116 = .ok (.aload_n 0, 1) := by decide +kernel
theorem dX6_perturbAndObserve_117 : decode cX6_perturbAndObserve 117 = .ok (.getfield 32, 3) := by decide +kernel
theorem dX6_perturbAndObserve_120 : decode cX6_perturbAndObserve 120 = .ok (.iload 5, 2) := by decide +kernel
theorem dX6_perturbAndObserve_122 : decode cX6_perturbAndObserve 122 = .ok (.laload, 1) := by decide +kernel
theorem dX6_perturbAndObserve_123 : decode cX6_perturbAndObserve 123 = .ok (.lcmp, 1) := by decide +kernel
theorem dX6_perturbAndObserve_124 : decode cX6_perturbAndObserve 124 = .ok (.ifCond .le 10, 3) := by decide +kernel
theorem dX6_perturbAndObserve_127 : decode cX6_perturbAndObserve 127 = .ok (.iload 8, 2) := by decide +kernel
theorem dX6_perturbAndObserve_129 : decode cX6_perturbAndObserve 129 = .ok (.istore 5, 2) := by decide +kernel
theorem dX6_perturbAndObserve_131 : decode cX6_perturbAndObserve 131 = .ok (.goto 8, 3) := by decide +kernel
theorem dX6_perturbAndObserve_134 : decode cX6_perturbAndObserve 134 = .ok (.iload 6, 2) := by decide +kernel
theorem dX6_perturbAndObserve_136 : decode cX6_perturbAndObserve 136 = .ok (.ineg, 1) := by decide +kernel
theorem dX6_perturbAndObserve_137 : decode cX6_perturbAndObserve 137 = .ok (.istore 6, 2) := by decide +kernel
theorem dX6_perturbAndObserve_139 : decode cX6_perturbAndObserve 139 = .ok (.iinc 7 1, 3) := by decide +kernel
theorem dX6_perturbAndObserve_142 : decode cX6_perturbAndObserve 142 = .ok (.goto (-78), 3) := by decide +kernel
theorem dX6_perturbAndObserve_145 : decode cX6_perturbAndObserve 145 = .ok (.iload 5, 2) := by decide +kernel
theorem dX6_perturbAndObserve_147 : decode cX6_perturbAndObserve 147 = .ok (.ireturn, 1) := by decide +kernel
theorem dX6_scanAndClimb_0 : decode cX6_scanAndClimb 0 = .ok (.aload_n 0, 1) := by decide +kernel
theorem dX6_scanAndClimb_1 : decode cX6_scanAndClimb 1 = .ok (.iload_n 1, 1) := by decide +kernel
theorem dX6_scanAndClimb_2 : decode cX6_scanAndClimb 2 = .ok (.invokevirtual 62, 3) := by decide +kernel
theorem dX6_scanAndClimb_5 : decode cX6_scanAndClimb 5 = .ok (.ifCond .ne 7, 3) := by decide +kernel
theorem dX6_scanAndClimb_8 : decode cX6_scanAndClimb 8 = .ok (.sipush (-1001), 3) := by decide +kernel
theorem dX6_scanAndClimb_11 : decode cX6_scanAndClimb 11 = .ok (.ireturn, 1) := by decide +kernel
theorem dX6_scanAndClimb_12 : decode cX6_scanAndClimb 12 = .ok (.iload_n 2, 1) := by decide +kernel
theorem dX6_scanAndClimb_13 : decode cX6_scanAndClimb 13 = .ok (.iconst 1, 1) := by decide +kernel
theorem dX6_scanAndClimb_14 : decode cX6_scanAndClimb 14 = .ok (.sipush 500, 3) := by decide +kernel
theorem dX6_scanAndClimb_17 : decode cX6_scanAndClimb 17 = .ok (.invokestatic 55, 3) := by decide +kernel
theorem dX6_scanAndClimb_20 : decode cX6_scanAndClimb 20 = .ok (.ifCond .ne 7, 3) := by decide +kernel
theorem dX6_scanAndClimb_23 : decode cX6_scanAndClimb 23 = .ok (.sipush (-1003), 3) := by decide +kernel
theorem dX6_scanAndClimb_26 : decode cX6_scanAndClimb 26 = .ok (.ireturn, 1) := by decide +kernel
theorem dX6_scanAndClimb_27 : decode cX6_scanAndClimb 27 = .ok (.aload_n 0, 1) := by decide +kernel
theorem dX6_scanAndClimb_28 : decode cX6_scanAndClimb 28 = .ok (.iload_n 1, 1) := by decide +kernel
theorem dX6_scanAndClimb_29 : decode cX6_scanAndClimb 29 = .ok (.invokevirtual 113, 3) := by decide +kernel
theorem dX6_scanAndClimb_32 : decode cX6_scanAndClimb 32 = .ok (.iconst 0, 1) := by decide +kernel
theorem dX6_scanAndClimb_33 : decode cX6_scanAndClimb 33 = .ok (.istore_n 3, 1) := by decide +kernel
theorem dX6_scanAndClimb_34 : decode cX6_scanAndClimb 34 = .ok (.iconst 0, 1) := by decide +kernel
theorem dX6_scanAndClimb_35 : decode cX6_scanAndClimb 35 = .ok (.istore 4, 2) := by decide +kernel
theorem dX6_scanAndClimb_37 : decode cX6_scanAndClimb 37 = .ok (.iload 4, 2) := by decide +kernel
theorem dX6_scanAndClimb_39 : decode cX6_scanAndClimb 39 = .ok (.aload_n 0, 1) := by decide +kernel
theorem dX6_scanAndClimb_40 : decode cX6_scanAndClimb 40 = .ok (.getfield 110, 3) := by decide +kernel
theorem dX6_scanAndClimb_43 : decode cX6_scanAndClimb 43 = .ok (.if_icmp .gt 36, 3) := by decide +kernel
theorem dX6_scanAndClimb_46 : decode cX6_scanAndClimb 46 = .ok (.aload_n 0, 1) := by decide +kernel
theorem dX6_scanAndClimb_47 : decode cX6_scanAndClimb 47 = .ok (.getfield 32, 3) := by decide +kernel
theorem dX6_scanAndClimb_50 : decode cX6_scanAndClimb 50 = .ok (.iload 4, 2) := by decide +kernel
theorem dX6_scanAndClimb_52 : decode cX6_scanAndClimb 52 = .ok (.laload, 1) := by decide +kernel
theorem dX6_scanAndClimb_53 : decode cX6_scanAndClimb 53 = .ok (.aload_n 0, 1) := by decide +kernel
theorem dX6_scanAndClimb_54 : decode cX6_scanAndClimb 54 = .ok (.getfield 32, 3) := by decide +kernel
theorem dX6_scanAndClimb_57 : decode cX6_scanAndClimb 57 = .ok (.iload_n 3, 1) := by decide +kernel
theorem dX6_scanAndClimb_58 : decode cX6_scanAndClimb 58 = .ok (.laload, 1) := by decide +kernel
theorem dX6_scanAndClimb_59 : decode cX6_scanAndClimb 59 = .ok (.lcmp, 1) := by decide +kernel
theorem dX6_scanAndClimb_60 : decode cX6_scanAndClimb 60 = .ok (.ifCond .le 8, 3) := by decide +kernel
theorem dX6_scanAndClimb_63 : decode cX6_scanAndClimb 63 = .ok (.iload 4, 2) := by decide +kernel
theorem dX6_scanAndClimb_65 : decode cX6_scanAndClimb 65 = .ok (.goto 4, 3) := by decide +kernel
theorem dX6_scanAndClimb_68 : decode cX6_scanAndClimb 68 = .ok (.iload_n 3, 1) := by decide +kernel
theorem dX6_scanAndClimb_69 : decode cX6_scanAndClimb 69 = .ok (.istore_n 3, 1) := by decide +kernel
theorem dX6_scanAndClimb_70 : decode cX6_scanAndClimb 70 = .ok (.iload 4, 2) := by decide +kernel
theorem dX6_scanAndClimb_72 : decode cX6_scanAndClimb 72 = .ok (.iload_n 2, 1) := by decide +kernel
theorem dX6_scanAndClimb_73 : decode cX6_scanAndClimb 73 = .ok (.iadd, 1) := by decide +kernel
theorem dX6_scanAndClimb_74 : decode cX6_scanAndClimb 74 = .ok (.istore 4, 2) := by decide +kernel
theorem dX6_scanAndClimb_76 : decode cX6_scanAndClimb 76 = .ok (.goto (-39), 3) := by decide +kernel
theorem dX6_scanAndClimb_79 : decode cX6_scanAndClimb 79 = .ok (.iload_n 3, 1) := by decide +kernel
theorem dX6_scanAndClimb_80 : decode cX6_scanAndClimb 80 = .ok (.aload_n 0, 1) := by decide +kernel
theorem dX6_scanAndClimb_81 : decode cX6_scanAndClimb 81 = .ok (.getfield 110, 3) := by decide +kernel
theorem dX6_scanAndClimb_84 : decode cX6_scanAndClimb 84 = .ok (.if_icmp .ge 27, 3) := by decide +kernel
theorem dX6_scanAndClimb_87 : decode cX6_scanAndClimb 87 = .ok (.aload_n 0, 1) := by decide +kernel
theorem dX6_scanAndClimb_88 : decode cX6_scanAndClimb 88 = .ok (.getfield 32, 3) := by decide +kernel
theorem dX6_scanAndClimb_91 : decode cX6_scanAndClimb 91 = .ok (.iload_n 3, 1) := by decide +kernel
theorem dX6_scanAndClimb_92 : decode cX6_scanAndClimb 92 = .ok (.iconst 1, 1) := by decide +kernel
theorem dX6_scanAndClimb_93 : decode cX6_scanAndClimb 93 = .ok (.iadd, 1) := by decide +kernel
theorem dX6_scanAndClimb_94 : decode cX6_scanAndClimb 94 = .ok (.laload, 1) := by decide +kernel
theorem dX6_scanAndClimb_95 : decode cX6_scanAndClimb 95 = .ok (.aload_n 0, 1) := by decide +kernel
theorem dX6_scanAndClimb_96 : decode cX6_scanAndClimb 96 = .ok (.getfield 32, 3) := by decide +kernel
theorem dX6_scanAndClimb_99 : decode cX6_scanAndClimb 99 = .ok (.iload_n 3, 1) := by decide +kernel
theorem dX6_scanAndClimb_100 : decode cX6_scanAndClimb 100 = .ok (.laload, 1) := by decide +kernel
theorem dX6_scanAndClimb_101 : decode cX6_scanAndClimb 101 = .ok (.lcmp, 1) := by decide +kernel
theorem dX6_scanAndClimb_102 : decode cX6_scanAndClimb 102 = .ok (.ifCond .le 9, 3) := by decide +kernel
theorem dX6_scanAndClimb_105 : decode cX6_scanAndClimb 105 = .ok (.iinc 3 1, 3) := by decide +kernel
theorem dX6_scanAndClimb_108 : decode cX6_scanAndClimb 108 = .ok (.goto (-29), 3) := by decide +kernel
theorem dX6_scanAndClimb_111 : decode cX6_scanAndClimb 111 = .ok (.iload_n 3, 1) := by decide +kernel
theorem dX6_scanAndClimb_112 : decode cX6_scanAndClimb 112 = .ok (.ifCond .le 27, 3) := by decide +kernel
theorem dX6_scanAndClimb_115 : decode cX6_scanAndClimb 115 = .ok (.aload_n 0, 1) := by decide +kernel
theorem dX6_scanAndClimb_116 : decode cX6_scanAndClimb 116 = .ok (.getfield 32, 3) := by decide +kernel
theorem dX6_scanAndClimb_119 : decode cX6_scanAndClimb 119 = .ok (.iload_n 3, 1) := by decide +kernel
theorem dX6_scanAndClimb_120 : decode cX6_scanAndClimb 120 = .ok (.iconst 1, 1) := by decide +kernel
theorem dX6_scanAndClimb_121 : decode cX6_scanAndClimb 121 = .ok (.isub, 1) := by decide +kernel
theorem dX6_scanAndClimb_122 : decode cX6_scanAndClimb 122 = .ok (.laload, 1) := by decide +kernel
theorem dX6_scanAndClimb_123 : decode cX6_scanAndClimb 123 = .ok (.aload_n 0, 1) := by decide +kernel
theorem dX6_scanAndClimb_124 : decode cX6_scanAndClimb 124 = .ok (.getfield 32, 3) := by decide +kernel
theorem dX6_scanAndClimb_127 : decode cX6_scanAndClimb 127 = .ok (.iload_n 3, 1) := by decide +kernel
theorem dX6_scanAndClimb_128 : decode cX6_scanAndClimb 128 = .ok (.laload, 1) := by decide +kernel
theorem dX6_scanAndClimb_129 : decode cX6_scanAndClimb 129 = .ok (.lcmp, 1) := by decide +kernel
theorem dX6_scanAndClimb_130 : decode cX6_scanAndClimb 130 = .ok (.ifCond .le 9, 3) := by decide +kernel
theorem dX6_scanAndClimb_133 : decode cX6_scanAndClimb 133 = .ok (.iinc 3 (-1), 3) := by decide +kernel
theorem dX6_scanAndClimb_136 : decode cX6_scanAndClimb 136 = .ok (.goto (-57), 3) := by decide +kernel
theorem dX6_scanAndClimb_139 : decode cX6_scanAndClimb 139 = .ok (.iload_n 3, 1) := by decide +kernel
theorem dX6_scanAndClimb_140 : decode cX6_scanAndClimb 140 = .ok (.ireturn, 1) := by decide +kernel
theorem dX6_addDelivered_0 : decode cX6_addDelivered 0 = .ok (.aload_n 0, 1) := by decide +kernel
theorem dX6_addDelivered_1 : decode cX6_addDelivered 1 = .ok (.iload_n 1, 1) := by decide +kernel
theorem dX6_addDelivered_2 : decode cX6_addDelivered 2 = .ok (.invokevirtual 103, 3) := by decide +kernel
theorem dX6_addDelivered_5 : decode cX6_addDelivered 5 = .ok (.istore_n 2, 1) := by decide +kernel
theorem dX6_addDelivered_6 : decode cX6_addDelivered 6 = .ok (.iconst 0, 1) := by decide +kernel
theorem dX6_addDelivered_7 : decode cX6_addDelivered 7 = .ok (.istore_n 3, 1) := by decide +kernel
theorem dX6_addDelivered_8 : decode cX6_addDelivered 8 = .ok (.iload_n 2, 1) := by decide +kernel
theorem dX6_addDelivered_9 : decode cX6_addDelivered 9 = .ok (.ifCond .lt 53, 3) := by decide +kernel
theorem dX6_addDelivered_12 : decode cX6_addDelivered 12 = .ok (.iload_n 3, 1) := by decide +kernel
theorem dX6_addDelivered_13 : decode cX6_addDelivered 13 = .ok (.sipush 7200, 3) := by decide +kernel
theorem dX6_addDelivered_16 : decode cX6_addDelivered 16 = .ok (.if_icmp .gt 46, 3) := by decide +kernel
theorem dX6_addDelivered_19 : decode cX6_addDelivered 19 = .ok (.aload_n 0, 1) := by decide +kernel
theorem dX6_addDelivered_20 : decode cX6_addDelivered 20 = .ok (.iload_n 1, 1) := by decide +kernel
theorem dX6_addDelivered_21 : decode cX6_addDelivered 21 = .ok (.iload_n 2, 1) := by decide +kernel
theorem dX6_addDelivered_22 : decode cX6_addDelivered 22 = .ok (.invokevirtual 100, 3) := by decide +kernel
theorem dX6_addDelivered_25 : decode cX6_addDelivered 25 = .ok (.istore 4, 2) := by decide +kernel
theorem dX6_addDelivered_27 : decode cX6_addDelivered 27 = .ok (.iload_n 3, 1) := by decide +kernel
theorem dX6_addDelivered_28 : decode cX6_addDelivered 28 = .ok (.iload 4, 2) := by decide +kernel
theorem dX6_addDelivered_30 : decode cX6_addDelivered 30 = .ok (.if_icmp .gt 26, 3) := by decide +kernel
theorem dX6_addDelivered_33 : decode cX6_addDelivered 33 = .ok (.iload_n 3, 1) := by decide +kernel
theorem dX6_addDelivered_34 : decode cX6_addDelivered 34 = .ok (.sipush 7200, 3) := by decide +kernel
theorem dX6_addDelivered_37 : decode cX6_addDelivered 37 = .ok (.if_icmp .gt 19, 3) := by decide +kernel
theorem dX6_addDelivered_40 : decode cX6_addDelivered 40 = .ok (.aload_n 0, 1) := by decide +kernel
theorem dX6_addDelivered_41 : decode cX6_addDelivered 41 = .ok (.getfield 36, 3) := by decide +kernel
theorem dX6_addDelivered_44 : decode cX6_addDelivered 44 = .ok (.iload_n 3, 1) := by decide +kernel
theorem dX6_addDelivered_45 : decode cX6_addDelivered 45 = .ok (.dup2, 1) := by decide +kernel
theorem dX6_addDelivered_46 : decode cX6_addDelivered 46 = .ok (.iaload, 1) := by decide +kernel
theorem dX6_addDelivered_47 : decode cX6_addDelivered 47 = .ok (.iload_n 2, 1) := by decide +kernel
theorem dX6_addDelivered_48 : decode cX6_addDelivered 48 = .ok (.iadd, 1) := by decide +kernel
theorem dX6_addDelivered_49 : decode cX6_addDelivered 49 = .ok (.iastore, 1) := by decide +kernel
theorem dX6_addDelivered_50 : decode cX6_addDelivered 50 = .ok (.iinc 3 1, 3) := by decide +kernel
theorem dX6_addDelivered_53 : decode cX6_addDelivered 53 = .ok (.goto (-26), 3) := by decide +kernel
theorem dX6_addDelivered_56 : decode cX6_addDelivered 56 = .ok (.iinc 2 (-1), 3) := by decide +kernel
theorem dX6_addDelivered_59 : decode cX6_addDelivered 59 = .ok (.goto (-51), 3) := by decide +kernel
theorem dX6_addDelivered_62 : decode cX6_addDelivered 62 = .ok (.return_, 1) := by decide +kernel
theorem dX6_layOutArray_0 : decode cX6_layOutArray 0 = .ok (.iconst 0, 1) := by decide +kernel
theorem dX6_layOutArray_1 : decode cX6_layOutArray 1 = .ok (.istore_n 1, 1) := by decide +kernel
theorem dX6_layOutArray_2 : decode cX6_layOutArray 2 = .ok (.iload_n 1, 1) := by decide +kernel
theorem dX6_layOutArray_3 : decode cX6_layOutArray 3 = .ok (.sipush 7200, 3) := by decide +kernel
theorem dX6_layOutArray_6 : decode cX6_layOutArray 6 = .ok (.if_icmp .gt 16, 3) := by decide +kernel
theorem dX6_layOutArray_9 : decode cX6_layOutArray 9 = .ok (.aload_n 0, 1) := by decide +kernel
theorem dX6_layOutArray_10 : decode cX6_layOutArray 10 = .ok (.getfield 36, 3) := by decide +kernel
theorem dX6_layOutArray_13 : decode cX6_layOutArray 13 = .ok (.iload_n 1, 1) := by decide +kernel
theorem dX6_layOutArray_14 : decode cX6_layOutArray 14 = .ok (.iconst 0, 1) := by decide +kernel
theorem dX6_layOutArray_15 : decode cX6_layOutArray 15 = .ok (.iastore, 1) := by decide +kernel
theorem dX6_layOutArray_16 : decode cX6_layOutArray 16 = .ok (.iinc 1 1, 3) := by decide +kernel
theorem dX6_layOutArray_19 : decode cX6_layOutArray 19 = .ok (.goto (-17), 3) := by decide +kernel
theorem dX6_layOutArray_22 : decode cX6_layOutArray 22 = .ok (.iconst 0, 1) := by decide +kernel
theorem dX6_layOutArray_23 : decode cX6_layOutArray 23 = .ok (.istore_n 1, 1) := by decide +kernel
theorem dX6_layOutArray_24 : decode cX6_layOutArray 24 = .ok (.iload_n 1, 1) := by decide +kernel
theorem dX6_layOutArray_25 : decode cX6_layOutArray 25 = .ok (.aload_n 0, 1) := by decide +kernel
theorem dX6_layOutArray_26 : decode cX6_layOutArray 26 = .ok (.getfield 59, 3) := by decide +kernel
theorem dX6_layOutArray_29 : decode cX6_layOutArray 29 = .ok (.if_icmp .ge 14, 3) := by decide +kernel
theorem dX6_layOutArray_32 : decode cX6_layOutArray 32 = .ok (.aload_n 0, 1) := by decide +kernel
theorem dX6_layOutArray_33 : decode cX6_layOutArray 33 = .ok (.iload_n 1, 1) := by decide +kernel
theorem dX6_layOutArray_34 : decode cX6_layOutArray 34 = .ok (.invokevirtual 125, 3) := by decide +kernel
theorem dX6_layOutArray_37 : decode cX6_layOutArray 37 = .ok (.iinc 1 1, 3) := by decide +kernel
theorem dX6_layOutArray_40 : decode cX6_layOutArray 40 = .ok (.goto (-16), 3) := by decide +kernel
theorem dX6_layOutArray_43 : decode cX6_layOutArray 43 = .ok (.return_, 1) := by decide +kernel
theorem dX6_arrayCurrent_0 : decode cX6_arrayCurrent 0 = .ok (.iload_n 1, 1) := by decide +kernel
theorem dX6_arrayCurrent_1 : decode cX6_arrayCurrent 1 = .ok (.iconst 0, 1) := by decide +kernel
theorem dX6_arrayCurrent_2 : decode cX6_arrayCurrent 2 = .ok (.sipush 7200, 3) := by decide +kernel
theorem dX6_arrayCurrent_5 : decode cX6_arrayCurrent 5 = .ok (.invokestatic 55, 3) := by decide +kernel
theorem dX6_arrayCurrent_8 : decode cX6_arrayCurrent 8 = .ok (.ifCond .ne 7, 3) := by decide +kernel
theorem dX6_arrayCurrent_11 : decode cX6_arrayCurrent 11 = .ok (.sipush (-1003), 3) := by decide +kernel
theorem dX6_arrayCurrent_14 : decode cX6_arrayCurrent 14 = .ok (.ireturn, 1) := by decide +kernel
theorem dX6_arrayCurrent_15 : decode cX6_arrayCurrent 15 = .ok (.aload_n 0, 1) := by decide +kernel
theorem dX6_arrayCurrent_16 : decode cX6_arrayCurrent 16 = .ok (.invokevirtual 128, 3) := by decide +kernel
theorem dX6_arrayCurrent_19 : decode cX6_arrayCurrent 19 = .ok (.aload_n 0, 1) := by decide +kernel
theorem dX6_arrayCurrent_20 : decode cX6_arrayCurrent 20 = .ok (.getfield 36, 3) := by decide +kernel
theorem dX6_arrayCurrent_23 : decode cX6_arrayCurrent 23 = .ok (.iload_n 1, 1) := by decide +kernel
theorem dX6_arrayCurrent_24 : decode cX6_arrayCurrent 24 = .ok (.iaload, 1) := by decide +kernel
theorem dX6_arrayCurrent_25 : decode cX6_arrayCurrent 25 = .ok (.ireturn, 1) := by decide +kernel
theorem dX6_bestArrayVoltage_0 : decode cX6_bestArrayVoltage 0 = .ok (.aload_n 0, 1) := by decide +kernel
theorem dX6_bestArrayVoltage_1 : decode cX6_bestArrayVoltage 1 = .ok (.invokevirtual 128, 3) := by decide +kernel
theorem dX6_bestArrayVoltage_4 : decode cX6_bestArrayVoltage 4 = .ok (.iconst 0, 1) := by decide +kernel
theorem dX6_bestArrayVoltage_5 : decode cX6_bestArrayVoltage 5 = .ok (.istore_n 1, 1) := by decide +kernel
theorem dX6_bestArrayVoltage_6 : decode cX6_bestArrayVoltage 6 = .ok (.iconst 1, 1) := by decide +kernel
theorem dX6_bestArrayVoltage_7 : decode cX6_bestArrayVoltage 7 = .ok (.istore_n 2, 1) := by decide +kernel
theorem dX6_bestArrayVoltage_8 : decode cX6_bestArrayVoltage 8 = .ok (.iload_n 2, 1) := by decide +kernel
theorem dX6_bestArrayVoltage_9 : decode cX6_bestArrayVoltage 9 = .ok (.sipush 7200, 3) := by decide +kernel
theorem dX6_bestArrayVoltage_12 : decode cX6_bestArrayVoltage 12 = .ok (.if_icmp .gt 39, 3) := by decide +kernel
theorem dX6_bestArrayVoltage_15 : decode cX6_bestArrayVoltage 15 = .ok (.iload_n 2, 1) := by decide +kernel
theorem dX6_bestArrayVoltage_16 : decode cX6_bestArrayVoltage 16 = .ok (.i2l, 1) := by decide +kernel
theorem dX6_bestArrayVoltage_17 : decode cX6_bestArrayVoltage 17 = .ok (.aload_n 0, 1) := by decide +kernel
theorem dX6_bestArrayVoltage_18 : decode cX6_bestArrayVoltage 18 = .ok (.getfield 36, 3) := by decide +kernel
theorem dX6_bestArrayVoltage_21 : decode cX6_bestArrayVoltage 21 = .ok (.iload_n 2, 1) := by decide +kernel
theorem dX6_bestArrayVoltage_22 : decode cX6_bestArrayVoltage 22 = .ok (.iaload, 1) := by decide +kernel
theorem dX6_bestArrayVoltage_23 : decode cX6_bestArrayVoltage 23 = .ok (.i2l, 1) := by decide +kernel
theorem dX6_bestArrayVoltage_24 : decode cX6_bestArrayVoltage 24 = .ok (.lmul, 1) := by decide +kernel
theorem dX6_bestArrayVoltage_25 : decode cX6_bestArrayVoltage 25 = .ok (.iload_n 1, 1) := by decide +kernel
theorem dX6_bestArrayVoltage_26 : decode cX6_bestArrayVoltage 26 = .ok (.i2l, 1) := by decide +kernel
theorem dX6_bestArrayVoltage_27 : decode cX6_bestArrayVoltage 27 = .ok (.aload_n 0, 1) := by decide +kernel
theorem dX6_bestArrayVoltage_28 : decode cX6_bestArrayVoltage 28 = .ok (.getfield 36, 3) := by decide +kernel
theorem dX6_bestArrayVoltage_31 : decode cX6_bestArrayVoltage 31 = .ok (.iload_n 1, 1) := by decide +kernel
theorem dX6_bestArrayVoltage_32 : decode cX6_bestArrayVoltage 32 = .ok (.iaload, 1) := by decide +kernel
theorem dX6_bestArrayVoltage_33 : decode cX6_bestArrayVoltage 33 = .ok (.i2l, 1) := by decide +kernel
theorem dX6_bestArrayVoltage_34 : decode cX6_bestArrayVoltage 34 = .ok (.lmul, 1) := by decide +kernel
theorem dX6_bestArrayVoltage_35 : decode cX6_bestArrayVoltage 35 = .ok (.lcmp, 1) := by decide +kernel
theorem dX6_bestArrayVoltage_36 : decode cX6_bestArrayVoltage 36 = .ok (.ifCond .le 7, 3) := by decide +kernel
theorem dX6_bestArrayVoltage_39 : decode cX6_bestArrayVoltage 39 = .ok (.iload_n 2, 1) := by decide +kernel
theorem dX6_bestArrayVoltage_40 : decode cX6_bestArrayVoltage 40 = .ok (.goto 4, 3) := by decide +kernel
theorem dX6_bestArrayVoltage_43 : decode cX6_bestArrayVoltage 43 = .ok (.iload_n 1, 1) := by decide +kernel
theorem dX6_bestArrayVoltage_44 : decode cX6_bestArrayVoltage 44 = .ok (.istore_n 1, 1) := by decide +kernel
theorem dX6_bestArrayVoltage_45 : decode cX6_bestArrayVoltage 45 = .ok (.iinc 2 1, 3) := by decide +kernel
theorem dX6_bestArrayVoltage_48 : decode cX6_bestArrayVoltage 48 = .ok (.goto (-40), 3) := by decide +kernel
theorem dX6_bestArrayVoltage_51 : decode cX6_bestArrayVoltage 51 = .ok (.iload_n 1, 1) := by decide +kernel
theorem dX6_bestArrayVoltage_52 : decode cX6_bestArrayVoltage 52 = .ok (.ireturn, 1) := by decide +kernel
theorem dX6_totalNow_0 : decode cX6_totalNow 0 = .ok (.lconst 0, 1) := by decide +kernel
theorem dX6_totalNow_1 : decode cX6_totalNow 1 = .ok (.lstore_n 1, 1) := by decide +kernel
theorem dX6_totalNow_2 : decode cX6_totalNow 2 = .ok (.iconst 0, 1) := by decide +kernel
theorem dX6_totalNow_3 : decode cX6_totalNow 3 = .ok (.istore_n 3, 1) := by decide +kernel
theorem dX6_totalNow_4 : decode cX6_totalNow 4 = .ok (.iload_n 3, 1) := by decide +kernel
theorem dX6_totalNow_5 : decode cX6_totalNow 5 = .ok (.aload_n 0, 1) := by decide +kernel
theorem dX6_totalNow_6 : decode cX6_totalNow 6 = .ok (.getfield 59, 3) := by decide +kernel
theorem dX6_totalNow_9 : decode cX6_totalNow 9 = .ok (.if_icmp .ge 17, 3) := by decide +kernel
theorem dX6_totalNow_12 : decode cX6_totalNow 12 = .ok (.lload_n 1, 1) := by decide +kernel
theorem dX6_totalNow_13 : decode cX6_totalNow 13 = .ok (.aload_n 0, 1) := by decide +kernel
theorem dX6_totalNow_14 : decode cX6_totalNow 14 = .ok (.iload_n 3, 1) := by decide +kernel
theorem dX6_totalNow_15 : decode cX6_totalNow 15 = .ok (.invokevirtual 122, 3) := by decide +kernel
theorem dX6_totalNow_18 : decode cX6_totalNow 18 = .ok (.ladd, 1) := by decide +kernel
theorem dX6_totalNow_19 : decode cX6_totalNow 19 = .ok (.lstore_n 1, 1) := by decide +kernel
theorem dX6_totalNow_20 : decode cX6_totalNow 20 = .ok (.iinc 3 1, 3) := by decide +kernel
theorem dX6_totalNow_23 : decode cX6_totalNow 23 = .ok (.goto (-19), 3) := by decide +kernel
theorem dX6_totalNow_26 : decode cX6_totalNow 26 = .ok (.lload_n 1, 1) := by decide +kernel
theorem dX6_totalNow_27 : decode cX6_totalNow 27 = .ok (.lreturn, 1) := by decide +kernel
theorem dX6_totalBestPower_0 : decode cX6_totalBestPower 0 = .ok (.aload_n 0, 1) := by decide +kernel
theorem dX6_totalBestPower_1 : decode cX6_totalBestPower 1 = .ok (.invokevirtual 131, 3) := by decide +kernel
theorem dX6_totalBestPower_4 : decode cX6_totalBestPower 4 = .ok (.lreturn, 1) := by decide +kernel
theorem dX6_mismatchLoss_0 : decode cX6_mismatchLoss 0 = .ok (.lconst 0, 1) := by decide +kernel
theorem dX6_mismatchLoss_1 : decode cX6_mismatchLoss 1 = .ok (.lstore_n 1, 1) := by decide +kernel
theorem dX6_mismatchLoss_2 : decode cX6_mismatchLoss 2 = .ok (.iconst 0, 1) := by decide +kernel
theorem dX6_mismatchLoss_3 : decode cX6_mismatchLoss 3 = .ok (.istore_n 3, 1) := by decide +kernel
theorem dX6_mismatchLoss_4 : decode cX6_mismatchLoss 4 = .ok (.iload_n 3, 1) := by decide +kernel
theorem dX6_mismatchLoss_5 : decode cX6_mismatchLoss 5 = .ok (.aload_n 0, 1) := by decide +kernel
theorem dX6_mismatchLoss_6 : decode cX6_mismatchLoss 6 = .ok (.getfield 52, 3) := by decide +kernel
theorem dX6_mismatchLoss_9 : decode cX6_mismatchLoss 9 = .ok (.if_icmp .ge 17, 3) := by decide +kernel
theorem dX6_mismatchLoss_12 : decode cX6_mismatchLoss 12 = .ok (.lload_n 1, 1) := by decide +kernel
theorem dX6_mismatchLoss_13 : decode cX6_mismatchLoss 13 = .ok (.aload_n 0, 1) := by decide +kernel
theorem dX6_mismatchLoss_14 : decode cX6_mismatchLoss 14 = .ok (.iload_n 3, 1) := by decide +kernel
theorem dX6_mismatchLoss_15 : decode cX6_mismatchLoss 15 = .ok (.invokevirtual 94, 3) := by decide +kernel
theorem dX6_mismatchLoss_18 : decode cX6_mismatchLoss 18 = .ok (.ladd, 1) := by decide +kernel
theorem dX6_mismatchLoss_19 : decode cX6_mismatchLoss 19 = .ok (.lstore_n 1, 1) := by decide +kernel
theorem dX6_mismatchLoss_20 : decode cX6_mismatchLoss 20 = .ok (.iinc 3 1, 3) := by decide +kernel
theorem dX6_mismatchLoss_23 : decode cX6_mismatchLoss 23 = .ok (.goto (-19), 3) := by decide +kernel
theorem dX6_mismatchLoss_26 : decode cX6_mismatchLoss 26 = .ok (.lload_n 1, 1) := by decide +kernel
theorem dX6_mismatchLoss_27 : decode cX6_mismatchLoss 27 = .ok (.aload_n 0, 1) := by decide +kernel
theorem dX6_mismatchLoss_28 : decode cX6_mismatchLoss 28 = .ok (.invokevirtual 131, 3) := by decide +kernel
theorem dX6_mismatchLoss_31 : decode cX6_mismatchLoss 31 = .ok (.lsub, 1) := by decide +kernel
theorem dX6_mismatchLoss_32 : decode cX6_mismatchLoss 32 = .ok (.lreturn, 1) := by decide +kernel
theorem dX6_findBestSwap_0 : decode cX6_findBestSwap 0 = .ok (.aload_n 0, 1) := by decide +kernel
theorem dX6_findBestSwap_1 : decode cX6_findBestSwap 1 = .ok (.lconst 0, 1) := by decide +kernel
theorem dX6_findBestSwap_2 : decode cX6_findBestSwap 2 = .ok (.putfield 135, 3) := by decide +kernel
theorem dX6_findBestSwap_5 : decode cX6_findBestSwap 5 = .ok (.aload_n 0, 1) := by decide +kernel
theorem dX6_findBestSwap_6 : decode cX6_findBestSwap 6 = .ok (.sipush (-1005), 3) := by decide +kernel
theorem dX6_findBestSwap_9 : decode cX6_findBestSwap 9 = .ok (.putfield 139, 3) := by decide +kernel
theorem dX6_findBestSwap_12 : decode cX6_findBestSwap 12 = .ok (.aload_n 0, 1) := by decide +kernel
theorem dX6_findBestSwap_13 : decode cX6_findBestSwap 13 = .ok (.sipush (-1005), 3) := by decide +kernel
theorem dX6_findBestSwap_16 : decode cX6_findBestSwap 16 = .ok (.putfield 142, 3) := by decide +kernel
theorem dX6_findBestSwap_19 : decode cX6_findBestSwap 19 = .ok (.iconst 0, 1) := by decide +kernel
theorem dX6_findBestSwap_20 : decode cX6_findBestSwap 20 = .ok (.istore_n 1, 1) := by decide +kernel
theorem dX6_findBestSwap_21 : decode cX6_findBestSwap 21 = .ok (.iload_n 1, 1) := by decide +kernel
theorem dX6_findBestSwap_22 : decode cX6_findBestSwap 22 = .ok (.aload_n 0, 1) := by decide +kernel
theorem dX6_findBestSwap_23 : decode cX6_findBestSwap 23 = .ok (.getfield 59, 3) := by decide +kernel
theorem dX6_findBestSwap_26 : decode cX6_findBestSwap 26 = .ok (.if_icmp .ge 20, 3) := by decide +kernel
theorem dX6_findBestSwap_29 : decode cX6_findBestSwap 29 = .ok (.aload_n 0, 1) := by decide +kernel
theorem dX6_findBestSwap_30 : decode cX6_findBestSwap 30 = .ok (.getfield 39, 3) := by decide +kernel
theorem dX6_findBestSwap_33 : decode cX6_findBestSwap 33 = .ok (.iload_n 1, 1) := by decide +kernel
theorem dX6_findBestSwap_34 : decode cX6_findBestSwap 34 = .ok (.aload_n 0, 1) := by decide +kernel
theorem dX6_findBestSwap_35 : decode cX6_findBestSwap 35 = .ok (.iload_n 1, 1) := by decide +kernel
theorem dX6_findBestSwap_36 : decode cX6_findBestSwap 36 = .ok (.invokevirtual 122, 3) := by decide +kernel
theorem dX6_findBestSwap_39 : decode cX6_findBestSwap 39 = .ok (.lastore, 1) := by decide +kernel
theorem dX6_findBestSwap_40 : decode cX6_findBestSwap 40 = .ok (.iinc 1 1, 3) := by decide +kernel
theorem dX6_findBestSwap_43 : decode cX6_findBestSwap 43 = .ok (.goto (-22), 3) := by decide +kernel
theorem dX6_findBestSwap_46 : decode cX6_findBestSwap 46 = .ok (.iconst 0, 1) := by decide +kernel
theorem dX6_findBestSwap_47 : decode cX6_findBestSwap 47 = .ok (.istore_n 1, 1) := by decide +kernel
theorem dX6_findBestSwap_48 : decode cX6_findBestSwap 48 = .ok (.iload_n 1, 1) := by decide +kernel
theorem dX6_findBestSwap_49 : decode cX6_findBestSwap 49 = .ok (.aload_n 0, 1) := by decide +kernel
theorem dX6_findBestSwap_50 : decode cX6_findBestSwap 50 = .ok (.getfield 52, 3) := by decide +kernel
theorem dX6_findBestSwap_53 : decode cX6_findBestSwap 53 = .ok (.if_icmp .ge 160, 3) := by decide +kernel
theorem dX6_findBestSwap_56 : decode cX6_findBestSwap 56 = .ok (.iload_n 1, 1) := by decide +kernel
theorem dX6_findBestSwap_57 : decode cX6_findBestSwap 57 = .ok (.iconst 1, 1) := by decide +kernel
theorem dX6_findBestSwap_58 : decode cX6_findBestSwap 58 = .ok (.iadd, 1) := by decide +kernel
theorem dX6_findBestSwap_59 : decode cX6_findBestSwap 59 = .ok (.istore_n 2, 1) := by decide +kernel
theorem dX6_findBestSwap_60 : decode cX6_findBestSwap 60 = .ok (.iload_n 2, 1) := by decide +kernel
theorem dX6_findBestSwap_61 : decode cX6_findBestSwap 61 = .ok (.aload_n 0, 1) := by decide +kernel
theorem dX6_findBestSwap_62 : decode cX6_findBestSwap 62 = .ok (.getfield 52, 3) := by decide +kernel
theorem dX6_findBestSwap_65 : decode cX6_findBestSwap 65 = .ok (.if_icmp .ge 142, 3) := by decide +kernel
theorem dX6_findBestSwap_68 : decode cX6_findBestSwap 68 = .ok (.aload_n 0, 1) := by decide +kernel
theorem dX6_findBestSwap_69 : decode cX6_findBestSwap 69 = .ok (.iload_n 1, 1) := by decide +kernel
theorem dX6_findBestSwap_70 : decode cX6_findBestSwap 70 = .ok (.invokevirtual 73, 3) := by decide +kernel
theorem dX6_findBestSwap_73 : decode cX6_findBestSwap 73 = .ok (.bipush 12, 2) := by decide +kernel
theorem dX6_findBestSwap_75 : decode cX6_findBestSwap 75 = .ok (.idiv, 1) := by decide +kernel
theorem dX6_findBestSwap_76 : decode cX6_findBestSwap 76 = .ok (.istore_n 3, 1) := by decide +kernel
theorem dX6_findBestSwap_77 : decode cX6_findBestSwap 77 = .ok (.aload_n 0, 1) := by decide +kernel
theorem dX6_findBestSwap_78 : decode cX6_findBestSwap 78 = .ok (.iload_n 2, 1) := by decide +kernel
theorem dX6_findBestSwap_79 : decode cX6_findBestSwap 79 = .ok (.invokevirtual 73, 3) := by decide +kernel
theorem dX6_findBestSwap_82 : decode cX6_findBestSwap 82 = .ok (.bipush 12, 2) := by decide +kernel
theorem dX6_findBestSwap_84 : decode cX6_findBestSwap 84 = .ok (.idiv, 1) := by decide +kernel
theorem dX6_findBestSwap_85 : decode cX6_findBestSwap 85 = .ok (.istore 4, 2) := by decide +kernel
theorem dX6_findBestSwap_87 : decode cX6_findBestSwap 87 = .ok (.iload_n 3, 1) := by decide +kernel
theorem dX6_findBestSwap_88 : decode cX6_findBestSwap 88 = .ok (.iload 4, 2) := by decide +kernel
theorem dX6_findBestSwap_90 : decode cX6_findBestSwap 90 = .ok (.if_icmp .eq 111, 3) := by decide +kernel
theorem dX6_findBestSwap_93 : decode cX6_findBestSwap 93 = .ok (.aload_n 0, 1) := by decide +kernel
theorem dX6_findBestSwap_94 : decode cX6_findBestSwap 94 = .ok (.iload_n 1, 1) := by decide +kernel
theorem dX6_findBestSwap_95 : decode cX6_findBestSwap 95 = .ok (.iload_n 2, 1) := by decide +kernel
theorem dX6_findBestSwap_96 : decode cX6_findBestSwap 96 = .ok (.invokevirtual 81, 3) := by decide +kernel
theorem dX6_findBestSwap_99 : decode cX6_findBestSwap 99 = .ok (.aload_n 0, 1) := by decide +kernel
theorem dX6_findBestSwap_100 : decode cX6_findBestSwap 100 = .ok (.iload_n 3, 1) := by decide +kernel
theorem dX6_findBestSwap_101 : decode cX6_findBestSwap 101 = .ok (.invokevirtual 122, 3) := by decide +kernel
theorem dX6_findBestSwap_104 : decode cX6_findBestSwap 104 = .ok (.aload_n 0, 1) := by decide +kernel
theorem dX6_findBestSwap_105 : decode cX6_findBestSwap 105 = .ok (.iload 4, 2) := by decide +kernel
theorem dX6_findBestSwap_107 : decode cX6_findBestSwap 107 = .ok (.invokevirtual 122, 3) := by decide +kernel
theorem dX6_findBestSwap_110 : decode cX6_findBestSwap 110 = .ok (.ladd, 1) := by decide +kernel
theorem dX6_findBestSwap_111 : decode cX6_findBestSwap 111 = .ok (.aload_n 0, 1) := by decide +kernel
theorem dX6_findBestSwap_112 : decode cX6_findBestSwap 112 = .ok (.getfield 39, 3) := by decide +kernel
theorem dX6_findBestSwap_115 : decode cX6_findBestSwap 115 = .ok (.iload_n 3, 1) := by decide +kernel
theorem dX6_findBestSwap_116 : decode cX6_findBestSwap 116 = .ok (.laload, 1) := by decide +kernel
theorem dX6_findBestSwap_117 : decode cX6_findBestSwap 117 = .ok (.lsub, 1) := by decide +kernel
theorem dX6_findBestSwap_118 : decode cX6_findBestSwap 118 = .ok (.aload_n 0, 1) := by decide +kernel
theorem dX6_findBestSwap_119 : decode cX6_findBestSwap 119 = .ok (.getfield 39, 3) := by decide +kernel
theorem dX6_findBestSwap_122 : decode cX6_findBestSwap 122 = .ok (.iload 4, 2) := by decide +kernel
theorem dX6_findBestSwap_124 : decode cX6_findBestSwap 124 = .ok (.laload, 1) := by decide +kernel
theorem dX6_findBestSwap_125 : decode cX6_findBestSwap 125 = .ok (.lsub, 1) := by decide +kernel
theorem dX6_findBestSwap_126 : decode cX6_findBestSwap 126 = .ok (.lstore 5, 2) := by decide +kernel
theorem dX6_findBestSwap_128 : decode cX6_findBestSwap 128 = .ok (.aload_n 0, 1) := by decide +kernel
theorem dX6_findBestSwap_129 : decode cX6_findBestSwap 129 = .ok (.iload_n 1, 1) := by decide +kernel
theorem dX6_findBestSwap_130 : decode cX6_findBestSwap 130 = .ok (.iload_n 2, 1) := by decide +kernel
theorem dX6_findBestSwap_131 : decode cX6_findBestSwap 131 = .ok (.invokevirtual 81, 3) := by decide +kernel
theorem dX6_findBestSwap_134 : decode cX6_findBestSwap 134 = .ok (.aload_n 0, 1) := by decide +kernel
theorem dX6_findBestSwap_135 : decode cX6_findBestSwap 135 = .ok (.lload 5, 2) := by decide +kernel
theorem dX6_findBestSwap_137 : decode cX6_findBestSwap 137 = .ok (.aload_n 0, 1) := by decide +kernel
theorem dX6_findBestSwap_138 : decode cX6_findBestSwap 138 = .ok (.getfield 135, 3) := by decide +kernel
theorem dX6_findBestSwap_141 : decode cX6_findBestSwap 141 = .ok (.lcmp, 1) := by decide +kernel
theorem dX6_findBestSwap_142 : decode cX6_findBestSwap 142 = .ok (.ifCond .le 7, 3) := by decide +kernel
theorem dX6_findBestSwap_145 : decode cX6_findBestSwap 145 = .ok (.iload_n 1, 1) := by decide +kernel
theorem dX6_findBestSwap_146 : decode cX6_findBestSwap 146 = .ok (.goto 7, 3) := by decide +kernel
theorem dX6_findBestSwap_149 : decode cX6_findBestSwap 149 = .ok (.aload_n 0, 1) := by decide +kernel
theorem dX6_findBestSwap_150 : decode cX6_findBestSwap 150 = .ok (.getfield 139, 3) := by decide +kernel
theorem dX6_findBestSwap_153 : decode cX6_findBestSwap 153 = .ok (.putfield 139, 3) := by decide +kernel
theorem dX6_findBestSwap_156 : decode cX6_findBestSwap 156 = .ok (.aload_n 0, 1) := by decide +kernel
theorem dX6_findBestSwap_157 : decode cX6_findBestSwap 157 = .ok (.lload 5, 2) := by decide +kernel
theorem dX6_findBestSwap_159 : decode cX6_findBestSwap 159 = .ok (.aload_n 0, 1) := by decide +kernel
theorem dX6_findBestSwap_160 : decode cX6_findBestSwap 160 = .ok (.getfield 135, 3) := by decide +kernel
theorem dX6_findBestSwap_163 : decode cX6_findBestSwap 163 = .ok (.lcmp, 1) := by decide +kernel
theorem dX6_findBestSwap_164 : decode cX6_findBestSwap 164 = .ok (.ifCond .le 7, 3) := by decide +kernel
theorem dX6_findBestSwap_167 : decode cX6_findBestSwap 167 = .ok (.iload_n 2, 1) := by decide +kernel
theorem dX6_findBestSwap_168 : decode cX6_findBestSwap 168 = .ok (.goto 7, 3) := by decide +kernel
theorem dX6_findBestSwap_171 : decode cX6_findBestSwap 171 = .ok (.aload_n 0, 1) := by decide +kernel
theorem dX6_findBestSwap_172 : decode cX6_findBestSwap 172 = .ok (.getfield 142, 3) := by decide +kernel
theorem dX6_findBestSwap_175 : decode cX6_findBestSwap 175 = .ok (.putfield 142, 3) := by decide +kernel
theorem dX6_findBestSwap_178 : decode cX6_findBestSwap 178 = .ok (.aload_n 0, 1) := by decide +kernel
theorem dX6_findBestSwap_179 : decode cX6_findBestSwap 179 = .ok (.lload 5, 2) := by decide +kernel
theorem dX6_findBestSwap_181 : decode cX6_findBestSwap 181 = .ok (.aload_n 0, 1) := by decide +kernel
theorem dX6_findBestSwap_182 : decode cX6_findBestSwap 182 = .ok (.getfield 135, 3) := by decide +kernel
theorem dX6_findBestSwap_185 : decode cX6_findBestSwap 185 = .ok (.lcmp, 1) := by decide +kernel
theorem dX6_findBestSwap_186 : decode cX6_findBestSwap 186 = .ok (.ifCond .le 8, 3) := by decide +kernel
theorem dX6_findBestSwap_189 : decode cX6_findBestSwap 189 = .ok (.lload 5, 2) := by decide +kernel
theorem dX6_findBestSwap_191 : decode cX6_findBestSwap 191 = .ok (.goto 7, 3) := by decide +kernel
theorem dX6_findBestSwap_194 : decode cX6_findBestSwap 194 = .ok (.aload_n 0, 1) := by decide +kernel
theorem dX6_findBestSwap_195 : decode cX6_findBestSwap 195 = .ok (.getfield 135, 3) := by decide +kernel
theorem dX6_findBestSwap_198 : decode cX6_findBestSwap 198 = .ok (.putfield 135, 3) := by decide +kernel
theorem dX6_findBestSwap_201 : decode cX6_findBestSwap 201 = .ok (.iinc 2 1, 3) := by decide +kernel
theorem dX6_findBestSwap_204 : decode cX6_findBestSwap 204 = .ok (.goto (-144), 3) := by decide +kernel
theorem dX6_findBestSwap_207 : decode cX6_findBestSwap 207 = .ok (.iinc 1 1, 3) := by decide +kernel
theorem dX6_findBestSwap_210 : decode cX6_findBestSwap 210 = .ok (.goto (-162), 3) := by decide +kernel
theorem dX6_findBestSwap_213 : decode cX6_findBestSwap 213 = .ok (.return_, 1) := by decide +kernel
theorem dX6_bestSwapGain_0 : decode cX6_bestSwapGain 0 = .ok (.aload_n 0, 1) := by decide +kernel
theorem dX6_bestSwapGain_1 : decode cX6_bestSwapGain 1 = .ok (.invokevirtual 145, 3) := by decide +kernel
theorem dX6_bestSwapGain_4 : decode cX6_bestSwapGain 4 = .ok (.aload_n 0, 1) := by decide +kernel
theorem dX6_bestSwapGain_5 : decode cX6_bestSwapGain 5 = .ok (.getfield 135, 3) := by decide +kernel
theorem dX6_bestSwapGain_8 : decode cX6_bestSwapGain 8 = .ok (.lreturn, 1) := by decide +kernel
theorem dX6_bestSwapLower_0 : decode cX6_bestSwapLower 0 = .ok (.aload_n 0, 1) := by decide +kernel
theorem dX6_bestSwapLower_1 : decode cX6_bestSwapLower 1 = .ok (.invokevirtual 145, 3) := by decide +kernel
theorem dX6_bestSwapLower_4 : decode cX6_bestSwapLower 4 = .ok (.aload_n 0, 1) := by decide +kernel
theorem dX6_bestSwapLower_5 : decode cX6_bestSwapLower 5 = .ok (.getfield 139, 3) := by decide +kernel
theorem dX6_bestSwapLower_8 : decode cX6_bestSwapLower 8 = .ok (.ireturn, 1) := by decide +kernel
theorem dX6_bestSwapHigher_0 : decode cX6_bestSwapHigher 0 = .ok (.aload_n 0, 1) := by decide +kernel
theorem dX6_bestSwapHigher_1 : decode cX6_bestSwapHigher 1 = .ok (.invokevirtual 145, 3) := by decide +kernel
theorem dX6_bestSwapHigher_4 : decode cX6_bestSwapHigher 4 = .ok (.aload_n 0, 1) := by decide +kernel
theorem dX6_bestSwapHigher_5 : decode cX6_bestSwapHigher 5 = .ok (.getfield 142, 3) := by decide +kernel
theorem dX6_bestSwapHigher_8 : decode cX6_bestSwapHigher 8 = .ok (.ireturn, 1) := by decide +kernel
theorem dX6_regroup_0 : decode cX6_regroup 0 = .ok (.iconst 0, 1) := by decide +kernel
theorem dX6_regroup_1 : decode cX6_regroup 1 = .ok (.istore_n 1, 1) := by decide +kernel
theorem dX6_regroup_2 : decode cX6_regroup 2 = .ok (.iload_n 1, 1) := by decide +kernel
theorem dX6_regroup_3 : decode cX6_regroup 3 = .ok (.aload_n 0, 1) := by decide +kernel
theorem dX6_regroup_4 : decode cX6_regroup 4 = .ok (.getfield 52, 3) := by decide +kernel
theorem dX6_regroup_7 : decode cX6_regroup 7 = .ok (.if_icmp .ge 76, 3) := by decide +kernel
theorem dX6_regroup_10 : decode cX6_regroup 10 = .ok (.aload_n 0, 1) := by decide +kernel
theorem dX6_regroup_11 : decode cX6_regroup 11 = .ok (.getfield 45, 3) := by decide +kernel
theorem dX6_regroup_14 : decode cX6_regroup 14 = .ok (.iload_n 1, 1) := by decide +kernel
theorem dX6_regroup_15 : decode cX6_regroup 15 = .ok (.aload_n 0, 1) := by decide +kernel
theorem dX6_regroup_16 : decode cX6_regroup 16 = .ok (.iload_n 1, 1) := by decide +kernel
theorem dX6_regroup_17 : decode cX6_regroup 17 = .ok (.invokevirtual 73, 3) := by decide +kernel
theorem dX6_regroup_20 : decode cX6_regroup 20 = .ok (.bipush 12, 2) := by decide +kernel
theorem dX6_regroup_22 : decode cX6_regroup 22 = .ok (.idiv, 1) := by decide +kernel
theorem dX6_regroup_23 : decode cX6_regroup 23 = .ok (.iastore, 1) := by decide +kernel
theorem dX6_regroup_24 : decode cX6_regroup 24 = .ok (.iload_n 1, 1) := by decide +kernel
theorem dX6_regroup_25 : decode cX6_regroup 25 = .ok (.istore_n 2, 1) := by decide +kernel
theorem dX6_regroup_26 : decode cX6_regroup 26 = .ok (.iload_n 2, 1) := by decide +kernel
theorem dX6_regroup_27 : decode cX6_regroup 27 = .ok (.ifCond .le 43, 3) := by decide +kernel
theorem dX6_regroup_30 : decode cX6_regroup 30 = .ok (.aload_n 0, 1) := by decide +kernel
theorem dX6_regroup_31 : decode cX6_regroup 31 = .ok (.aload_n 0, 1) := by decide +kernel
theorem dX6_regroup_32 : decode cX6_regroup 32 = .ok (.getfield 42, 3) := by decide +kernel
theorem dX6_regroup_35 : decode cX6_regroup 35 = .ok (.iload_n 2, 1) := by decide +kernel
theorem dX6_regroup_36 : decode cX6_regroup 36 = .ok (.iconst 1, 1) := by decide +kernel
theorem dX6_regroup_37 : decode cX6_regroup 37 = .ok (.isub, 1) := by decide +kernel
theorem dX6_regroup_38 : decode cX6_regroup 38 = .ok (.iaload, 1) := by decide +kernel
theorem dX6_regroup_39 : decode cX6_regroup 39 = .ok (.invokevirtual 84, 3) := by decide +kernel
theorem dX6_regroup_42 : decode cX6_regroup 42 = .ok (.aload_n 0, 1) := by decide +kernel
theorem dX6_regroup_43 : decode cX6_regroup 43 = .ok (.iload_n 1, 1) := by decide +kernel
theorem dX6_regroup_44 : decode cX6_regroup 44 = .ok (.invokevirtual 84, 3) := by decide +kernel
theorem dX6_regroup_47 : decode cX6_regroup 47 = .ok (.if_icmp .ge 23, 3) := by decide +kernel
theorem dX6_regroup_50 : decode cX6_regroup 50 = .ok (.aload_n 0, 1) := by decide +kernel
theorem dX6_regroup_51 : decode cX6_regroup 51 = .ok (.getfield 42, 3) := by decide +kernel
theorem dX6_regroup_54 : decode cX6_regroup 54 = .ok (.iload_n 2, 1) := by decide +kernel
theorem dX6_regroup_55 : decode cX6_regroup 55 = .ok (.aload_n 0, 1) := by decide +kernel
theorem dX6_regroup_56 : decode cX6_regroup 56 = .ok (.getfield 42, 3) := by decide +kernel
theorem dX6_regroup_59 : decode cX6_regroup 59 = .ok (.iload_n 2, 1) := by decide +kernel
theorem dX6_regroup_60 : decode cX6_regroup 60 = .ok (.iconst 1, 1) := by decide +kernel
theorem dX6_regroup_61 : decode cX6_regroup 61 = .ok (.isub, 1) := by decide +kernel
theorem dX6_regroup_62 : decode cX6_regroup 62 = .ok (.iaload, 1) := by decide +kernel
theorem dX6_regroup_63 : decode cX6_regroup 63 = .ok (.iastore, 1) := by decide +kernel
theorem dX6_regroup_64 : decode cX6_regroup 64 = .ok (.iinc 2 (-1), 3) := by decide +kernel
theorem dX6_regroup_67 : decode cX6_regroup 67 = .ok (.goto (-41), 3) := by decide +kernel
theorem dX6_regroup_70 : decode cX6_regroup 70 = .ok (.aload_n 0, 1) := by decide +kernel
theorem dX6_regroup_71 : decode cX6_regroup 71 = .ok (.getfield 42, 3) := by decide +kernel
theorem dX6_regroup_74 : decode cX6_regroup 74 = .ok (.iload_n 2, 1) := by decide +kernel
theorem dX6_regroup_75 : decode cX6_regroup 75 = .ok (.iload_n 1, 1) := by decide +kernel
theorem dX6_regroup_76 : decode cX6_regroup 76 = .ok (.iastore, 1) := by decide +kernel
theorem dX6_regroup_77 : decode cX6_regroup 77 = .ok (.iinc 1 1, 3) := by decide +kernel
theorem dX6_regroup_80 : decode cX6_regroup 80 = .ok (.goto (-78), 3) := by decide +kernel
theorem dX6_regroup_83 : decode cX6_regroup 83 = .ok (.iconst 0, 1) := by decide +kernel
theorem dX6_regroup_84 : decode cX6_regroup 84 = .ok (.istore_n 1, 1) := by decide +kernel
theorem dX6_regroup_85 : decode cX6_regroup 85 = .ok (.iconst 0, 1) := by decide +kernel
theorem dX6_regroup_86 : decode cX6_regroup 86 = .ok (.istore_n 2, 1) := by decide +kernel
theorem dX6_regroup_87 : decode cX6_regroup 87 = .ok (.iload_n 2, 1) := by decide +kernel
theorem dX6_regroup_88 : decode cX6_regroup 88 = .ok (.aload_n 0, 1) := by decide +kernel
theorem dX6_regroup_89 : decode cX6_regroup 89 = .ok (.getfield 59, 3) := by decide +kernel
theorem dX6_regroup_92 : decode cX6_regroup 92 = .ok (.if_icmp .ge 47, 3) := by decide +kernel
theorem dX6_regroup_95 : decode cX6_regroup 95 = .ok (.iconst 0, 1) := by decide +kernel
theorem dX6_regroup_96 : decode cX6_regroup 96 = .ok (.istore_n 3, 1) := by decide +kernel
theorem dX6_regroup_97 : decode cX6_regroup 97 = .ok (.iload_n 3, 1) := by decide +kernel
theorem dX6_regroup_98 : decode cX6_regroup 98 = .ok (.aload_n 0, 1) := by decide +kernel
theorem dX6_regroup_99 : decode cX6_regroup 99 = .ok (.getfield 26, 3) := by decide +kernel
theorem dX6_regroup_102 : decode cX6_regroup 102 = .ok (.iload_n 2, 1) := by decide +kernel
theorem dX6_regroup_103 : decode cX6_regroup 103 = .ok (.iaload, 1) := by decide +kernel
theorem dX6_regroup_104 : decode cX6_regroup 104 = .ok (.if_icmp .ge 29, 3) := by decide +kernel
theorem dX6_regroup_107 : decode cX6_regroup 107 = .ok (.aload_n 0, 1) := by decide +kernel
theorem dX6_regroup_108 : decode cX6_regroup 108 = .ok (.getfield 29, 3) := by decide +kernel
theorem dX6_regroup_111 : decode cX6_regroup 111 = .ok (.bipush 12, 2) := by decide +kernel
theorem dX6_regroup_113 : decode cX6_regroup 113 = .ok (.iload_n 2, 1) := by decide +kernel
theorem dX6_regroup_114 : decode cX6_regroup 114 = .ok (.imul, 1) := by decide +kernel
theorem dX6_regroup_115 : decode cX6_regroup 115 = .ok (.iload_n 3, 1) := by decide +kernel
theorem dX6_regroup_116 : decode cX6_regroup 116 = .ok (.iadd, 1) := by decide +kernel
theorem dX6_regroup_117 : decode cX6_regroup 117 = .ok (.aload_n 0, 1) := by decide +kernel
theorem dX6_regroup_118 : decode cX6_regroup 118 = .ok (.getfield 42, 3) := by decide +kernel
theorem dX6_regroup_121 : decode cX6_regroup 121 = .ok (.iload_n 1, 1) := by decide +kernel
theorem dX6_regroup_122 : decode cX6_regroup 122 = .ok (.iaload, 1) := by decide +kernel
theorem dX6_regroup_123 : decode cX6_regroup 123 = .ok (.iastore, 1) := by decide +kernel
theorem dX6_regroup_124 : decode cX6_regroup 124 = .ok (.iinc 1 1, 3) := by decide +kernel
theorem dX6_regroup_127 : decode cX6_regroup 127 = .ok (.iinc 3 1, 3) := by decide +kernel
theorem dX6_regroup_130 : decode cX6_regroup 130 = .ok (.goto (-33), 3) := by decide +kernel
theorem dX6_regroup_133 : decode cX6_regroup 133 = .ok (.iinc 2 1, 3) := by decide +kernel
theorem dX6_regroup_136 : decode cX6_regroup 136 = .ok (.goto (-49), 3) := by decide +kernel
theorem dX6_regroup_139 : decode cX6_regroup 139 = .ok (.iconst 0, 1) := by decide +kernel
theorem dX6_regroup_140 : decode cX6_regroup 140 = .ok (.istore_n 2, 1) := by decide +kernel
theorem dX6_regroup_141 : decode cX6_regroup 141 = .ok (.iconst 0, 1) := by decide +kernel
theorem dX6_regroup_142 : decode cX6_regroup 142 = .ok (.istore_n 3, 1) := by decide +kernel
theorem dX6_regroup_143 : decode cX6_regroup 143 = .ok (.iload_n 3, 1) := by decide +kernel
theorem dX6_regroup_144 : decode cX6_regroup 144 = .ok (.aload_n 0, 1) := by decide +kernel
theorem dX6_regroup_145 : decode cX6_regroup 145 = .ok (.getfield 52, 3) := by decide +kernel
theorem dX6_regroup_148 : decode cX6_regroup 148 = .ok (.if_icmp .ge 34, 3) := by decide +kernel
theorem dX6_regroup_151 : decode cX6_regroup 151 = .ok (.iload_n 2, 1) := by decide +kernel
theorem dX6_regroup_152 : decode cX6_regroup 152 = .ok (.aload_n 0, 1) := by decide +kernel
theorem dX6_regroup_153 : decode cX6_regroup 153 = .ok (.iload_n 3, 1) := by decide +kernel
theorem dX6_regroup_154 : decode cX6_regroup 154 = .ok (.invokevirtual 73, 3) := by decide +kernel
theorem dX6_regroup_157 : decode cX6_regroup 157 = .ok (.bipush 12, 2) := by decide +kernel
theorem dX6_regroup_159 : decode cX6_regroup 159 = .ok (.idiv, 1) := by decide +kernel
theorem dX6_regroup_160 : decode cX6_regroup 160 = .ok (.aload_n 0, 1) := by decide +kernel
theorem dX6_regroup_161 : decode cX6_regroup 161 = .ok (.getfield 45, 3) := by decide +kernel
theorem dX6_regroup_164 : decode cX6_regroup 164 = .ok (.iload_n 3, 1) := by decide +kernel
theorem dX6_regroup_165 : decode cX6_regroup 165 = .ok (.iaload, 1) := by decide +kernel
theorem dX6_regroup_166 : decode cX6_regroup 166 = .ok (.if_icmp .ne 7, 3) := by decide +kernel
theorem dX6_regroup_169 : decode cX6_regroup 169 = .ok (.iconst 0, 1) := by decide +kernel
theorem dX6_regroup_170 : decode cX6_regroup 170 = .ok (.goto 4, 3) := by decide +kernel
theorem dX6_regroup_173 : decode cX6_regroup 173 = .ok (.iconst 1, 1) := by decide +kernel
theorem dX6_regroup_174 : decode cX6_regroup 174 = .ok (.iadd, 1) := by decide +kernel
theorem dX6_regroup_175 : decode cX6_regroup 175 = .ok (.istore_n 2, 1) := by decide +kernel
theorem dX6_regroup_176 : decode cX6_regroup 176 = .ok (.iinc 3 1, 3) := by decide +kernel
theorem dX6_regroup_179 : decode cX6_regroup 179 = .ok (.goto (-36), 3) := by decide +kernel
theorem dX6_regroup_182 : decode cX6_regroup 182 = .ok (.iload_n 2, 1) := by decide +kernel
theorem dX6_regroup_183 : decode cX6_regroup 183 = .ok (.ireturn, 1) := by decide +kernel
end
section
theorem dL_law_0 : decode cL_law 0 = .ok (.new 7, 3) := by decide +kernel
theorem dL_law_3 : decode cL_law 3 = .ok (.dup, 1) := by decide +kernel
theorem dL_law_4 : decode cL_law 4 = .ok (.invokespecial 9, 3) := by decide +kernel
theorem dL_law_7 : decode cL_law 7 = .ok (.astore_n 1, 1) := by decide +kernel
theorem dL_law_8 : decode cL_law 8 = .ok (.new 10, 3) := by decide +kernel
theorem dL_law_11 : decode cL_law 11 = .ok (.dup, 1) := by decide +kernel
theorem dL_law_12 : decode cL_law 12 = .ok (.invokespecial 12, 3) := by decide +kernel
theorem dL_law_15 : decode cL_law 15 = .ok (.astore_n 2, 1) := by decide +kernel
theorem dL_law_16 : decode cL_law 16 = .ok (.iconst 0, 1) := by decide +kernel
theorem dL_law_17 : decode cL_law 17 = .ok (.istore_n 3, 1) := by decide +kernel
theorem dL_law_18 : decode cL_law 18 = .ok (.iload_n 3, 1) := by decide +kernel
theorem dL_law_19 : decode cL_law 19 = .ok (.aload_n 0, 1) := by decide +kernel
theorem dL_law_20 : decode cL_law 20 = .ok (.arraylength, 1) := by decide +kernel
theorem dL_law_21 : decode cL_law 21 = .ok (.iconst 5, 1) := by decide +kernel
theorem dL_law_22 : decode cL_law 22 = .ok (.isub, 1) := by decide +kernel
theorem dL_law_23 : decode cL_law 23 = .ok (.if_icmp .gt 1027, 3) := by decide +kernel
theorem dL_law_26 : decode cL_law 26 = .ok (.aload_n 0, 1) := by decide +kernel
theorem dL_law_27 : decode cL_law 27 = .ok (.iload_n 3, 1) := by decide +kernel
theorem dL_law_28 : decode cL_law 28 = .ok (.iaload, 1) := by decide +kernel
theorem dL_law_29 : decode cL_law 29 = .ok (.bipush 31, 2) := by decide +kernel
theorem dL_law_31 : decode cL_law 31 = .ok (.iand, 1) := by decide +kernel
theorem dL_law_32 : decode cL_law 32 = .ok (.tableswitch 1012 0 31 #[144, 157, 200, 233, 276, 309, 358, 381, 414, 447, 470, 503, 526, 559, 583, 606, 639, 673, 706, 729, 762, 785, 809, 862, 895, 918, 931, 945, 959, 973, 986, 999], 144) := by decide +kernel
theorem dL_law_176 : decode cL_law 176 = .ok (.aload_n 1, 1) := by decide +kernel
theorem dL_law_177 : decode cL_law 177 = .ok (.invokevirtual 13, 3) := by decide +kernel
theorem dL_law_180 : decode cL_law 180 = .ok (.aload_n 2, 1) := by decide +kernel
theorem dL_law_181 : decode cL_law 181 = .ok (.invokevirtual 17, 3) := by decide +kernel
theorem dL_law_184 : decode cL_law 184 = .ok (.if_icmp .eq 860, 3) := by decide +kernel
theorem dL_law_187 : decode cL_law 187 = .ok (.iconst 0, 1) := by decide +kernel
theorem dL_law_188 : decode cL_law 188 = .ok (.ireturn, 1) := by decide +kernel
theorem dL_law_189 : decode cL_law 189 = .ok (.aload_n 1, 1) := by decide +kernel
theorem dL_law_190 : decode cL_law 190 = .ok (.aload_n 0, 1) := by decide +kernel
theorem dL_law_191 : decode cL_law 191 = .ok (.iload_n 3, 1) := by decide +kernel
theorem dL_law_192 : decode cL_law 192 = .ok (.iconst 1, 1) := by decide +kernel
theorem dL_law_193 : decode cL_law 193 = .ok (.iadd, 1) := by decide +kernel
theorem dL_law_194 : decode cL_law 194 = .ok (.iaload, 1) := by decide +kernel
theorem dL_law_195 : decode cL_law 195 = .ok (.aload_n 0, 1) := by decide +kernel
theorem dL_law_196 : decode cL_law 196 = .ok (.iload_n 3, 1) := by decide +kernel
theorem dL_law_197 : decode cL_law 197 = .ok (.iconst 2, 1) := by decide +kernel
theorem dL_law_198 : decode cL_law 198 = .ok (.iadd, 1) := by decide +kernel
theorem dL_law_199 : decode cL_law 199 = .ok (.iaload, 1) := by decide +kernel
theorem dL_law_200 : decode cL_law 200 = .ok (.aload_n 0, 1) := by decide +kernel
theorem dL_law_201 : decode cL_law 201 = .ok (.iload_n 3, 1) := by decide +kernel
theorem dL_law_202 : decode cL_law 202 = .ok (.iconst 3, 1) := by decide +kernel
theorem dL_law_203 : decode cL_law 203 = .ok (.iadd, 1) := by decide +kernel
theorem dL_law_204 : decode cL_law 204 = .ok (.iaload, 1) := by decide +kernel
theorem dL_law_205 : decode cL_law 205 = .ok (.invokevirtual 18, 3) := by decide +kernel
theorem dL_law_208 : decode cL_law 208 = .ok (.aload_n 2, 1) := by decide +kernel
theorem dL_law_209 : decode cL_law 209 = .ok (.aload_n 0, 1) := by decide +kernel
theorem dL_law_210 : decode cL_law 210 = .ok (.iload_n 3, 1) := by decide +kernel
theorem dL_law_211 : decode cL_law 211 = .ok (.iconst 1, 1) := by decide +kernel
theorem dL_law_212 : decode cL_law 212 = .ok (.iadd, 1) := by decide +kernel
theorem dL_law_213 : decode cL_law 213 = .ok (.iaload, 1) := by decide +kernel
theorem dL_law_214 : decode cL_law 214 = .ok (.aload_n 0, 1) := by decide +kernel
theorem dL_law_215 : decode cL_law 215 = .ok (.iload_n 3, 1) := by decide +kernel
theorem dL_law_216 : decode cL_law 216 = .ok (.iconst 2, 1) := by decide +kernel
theorem dL_law_217 : decode cL_law 217 = .ok (.iadd, 1) := by decide +kernel
theorem dL_law_218 : decode cL_law 218 = .ok (.iaload, 1) := by decide +kernel
theorem dL_law_219 : decode cL_law 219 = .ok (.aload_n 0, 1) := by decide +kernel
theorem dL_law_220 : decode cL_law 220 = .ok (.iload_n 3, 1) := by decide +kernel
theorem dL_law_221 : decode cL_law 221 = .ok (.iconst 3, 1) := by decide +kernel
theorem dL_law_222 : decode cL_law 222 = .ok (.iadd, 1) := by decide +kernel
theorem dL_law_223 : decode cL_law 223 = .ok (.iaload, 1) := by decide +kernel
theorem dL_law_224 : decode cL_law 224 = .ok (.invokevirtual 22, 3) := by decide +kernel
theorem dL_law_227 : decode cL_law 227 = .ok (.if_icmp .eq 817, 3) := by decide +kernel
theorem dL_law_230 : decode cL_law 230 = .ok (.iconst 0, 1) := by decide +kernel
theorem dL_law_231 : decode cL_law 231 = .ok (.ireturn, 1) := by decide +kernel
theorem dL_law_232 : decode cL_law 232 = .ok (.aload_n 1, 1) := by decide +kernel
theorem dL_law_233 : decode cL_law 233 = .ok (.aload_n 0, 1) := by decide +kernel
theorem dL_law_234 : decode cL_law 234 = .ok (.iload_n 3, 1) := by decide +kernel
theorem dL_law_235 : decode cL_law 235 = .ok (.iconst 1, 1) := by decide +kernel
theorem dL_law_236 : decode cL_law 236 = .ok (.iadd, 1) := by decide +kernel
theorem dL_law_237 : decode cL_law 237 = .ok (.iaload, 1) := by decide +kernel
theorem dL_law_238 : decode cL_law 238 = .ok (.aload_n 0, 1) := by decide +kernel
theorem dL_law_239 : decode cL_law 239 = .ok (.iload_n 3, 1) := by decide +kernel
theorem dL_law_240 : decode cL_law 240 = .ok (.iconst 2, 1) := by decide +kernel
theorem dL_law_241 : decode cL_law 241 = .ok (.iadd, 1) := by decide +kernel
theorem dL_law_242 : decode cL_law 242 = .ok (.iaload, 1) := by decide +kernel
theorem dL_law_243 : decode cL_law 243 = .ok (.invokevirtual 23, 3) := by decide +kernel
theorem dL_law_246 : decode cL_law 246 = .ok (.aload_n 2, 1) := by decide +kernel
theorem dL_law_247 : decode cL_law 247 = .ok (.aload_n 0, 1) := by decide +kernel
theorem dL_law_248 : decode cL_law 248 = .ok (.iload_n 3, 1) := by decide +kernel
theorem dL_law_249 : decode cL_law 249 = .ok (.iconst 1, 1) := by decide +kernel
theorem dL_law_250 : decode cL_law 250 = .ok (.iadd, 1) := by decide +kernel
theorem dL_law_251 : decode cL_law 251 = .ok (.iaload, 1) := by decide +kernel
theorem dL_law_252 : decode cL_law 252 = .ok (.aload_n 0, 1) := by decide +kernel
theorem dL_law_253 : decode cL_law 253 = .ok (.iload_n 3, 1) := by decide +kernel
theorem dL_law_254 : decode cL_law 254 = .ok (.iconst 2, 1) := by decide +kernel
theorem dL_law_255 : decode cL_law 255 = .ok (.iadd, 1) := by decide +kernel
theorem dL_law_256 : decode cL_law 256 = .ok (.iaload, 1) := by decide +kernel
theorem dL_law_257 : decode cL_law 257 = .ok (.invokevirtual 27, 3) := by decide +kernel
theorem dL_law_260 : decode cL_law 260 = .ok (.if_icmp .eq 784, 3) := by decide +kernel
theorem dL_law_263 : decode cL_law 263 = .ok (.iconst 0, 1) := by decide +kernel
theorem dL_law_264 : decode cL_law 264 = .ok (.ireturn, 1) := by decide +kernel
theorem dL_law_265 : decode cL_law 265 = .ok (.aload_n 1, 1) := by decide +kernel
theorem dL_law_266 : decode cL_law 266 = .ok (.aload_n 0, 1) := by decide +kernel
theorem dL_law_267 : decode cL_law 267 = .ok (.iload_n 3, 1) := by decide +kernel
theorem dL_law_268 : decode cL_law 268 = .ok (.iconst 1, 1) := by decide +kernel
theorem dL_law_269 : decode cL_law 269 = .ok (.iadd, 1) := by decide +kernel
theorem dL_law_270 : decode cL_law 270 = .ok (.iaload, 1) := by decide +kernel
theorem dL_law_271 : decode cL_law 271 = .ok (.aload_n 0, 1) := by decide +kernel
theorem dL_law_272 : decode cL_law 272 = .ok (.iload_n 3, 1) := by decide +kernel
theorem dL_law_273 : decode cL_law 273 = .ok (.iconst 2, 1) := by decide +kernel
theorem dL_law_274 : decode cL_law 274 = .ok (.iadd, 1) := by decide +kernel
theorem dL_law_275 : decode cL_law 275 = .ok (.iaload, 1) := by decide +kernel
theorem dL_law_276 : decode cL_law 276 = .ok (.aload_n 0, 1) := by decide +kernel
theorem dL_law_277 : decode cL_law 277 = .ok (.iload_n 3, 1) := by decide +kernel
theorem dL_law_278 : decode cL_law 278 = .ok (.iconst 3, 1) := by decide +kernel
theorem dL_law_279 : decode cL_law 279 = .ok (.iadd, 1) := by decide +kernel
theorem dL_law_280 : decode cL_law 280 = .ok (.iaload, 1) := by decide +kernel
theorem dL_law_281 : decode cL_law 281 = .ok (.invokevirtual 28, 3) := by decide +kernel
theorem dL_law_284 : decode cL_law 284 = .ok (.aload_n 2, 1) := by decide +kernel
theorem dL_law_285 : decode cL_law 285 = .ok (.aload_n 0, 1) := by decide +kernel
theorem dL_law_286 : decode cL_law 286 = .ok (.iload_n 3, 1) := by decide +kernel
theorem dL_law_287 : decode cL_law 287 = .ok (.iconst 1, 1) := by decide +kernel
theorem dL_law_288 : decode cL_law 288 = .ok (.iadd, 1) := by decide +kernel
theorem dL_law_289 : decode cL_law 289 = .ok (.iaload, 1) := by decide +kernel
theorem dL_law_290 : decode cL_law 290 = .ok (.aload_n 0, 1) := by decide +kernel
theorem dL_law_291 : decode cL_law 291 = .ok (.iload_n 3, 1) := by decide +kernel
theorem dL_law_292 : decode cL_law 292 = .ok (.iconst 2, 1) := by decide +kernel
theorem dL_law_293 : decode cL_law 293 = .ok (.iadd, 1) := by decide +kernel
theorem dL_law_294 : decode cL_law 294 = .ok (.iaload, 1) := by decide +kernel
theorem dL_law_295 : decode cL_law 295 = .ok (.aload_n 0, 1) := by decide +kernel
theorem dL_law_296 : decode cL_law 296 = .ok (.iload_n 3, 1) := by decide +kernel
theorem dL_law_297 : decode cL_law 297 = .ok (.iconst 3, 1) := by decide +kernel
theorem dL_law_298 : decode cL_law 298 = .ok (.iadd, 1) := by decide +kernel
theorem dL_law_299 : decode cL_law 299 = .ok (.iaload, 1) := by decide +kernel
theorem dL_law_300 : decode cL_law 300 = .ok (.invokevirtual 31, 3) := by decide +kernel
theorem dL_law_303 : decode cL_law 303 = .ok (.if_icmp .eq 741, 3) := by decide +kernel
theorem dL_law_306 : decode cL_law 306 = .ok (.iconst 0, 1) := by decide +kernel
theorem dL_law_307 : decode cL_law 307 = .ok (.ireturn, 1) := by decide +kernel
theorem dL_law_308 : decode cL_law 308 = .ok (.aload_n 1, 1) := by decide +kernel
theorem dL_law_309 : decode cL_law 309 = .ok (.aload_n 0, 1) := by decide +kernel
theorem dL_law_310 : decode cL_law 310 = .ok (.iload_n 3, 1) := by decide +kernel
theorem dL_law_311 : decode cL_law 311 = .ok (.iconst 1, 1) := by decide +kernel
theorem dL_law_312 : decode cL_law 312 = .ok (.iadd, 1) := by decide +kernel
theorem dL_law_313 : decode cL_law 313 = .ok (.iaload, 1) := by decide +kernel
theorem dL_law_314 : decode cL_law 314 = .ok (.aload_n 0, 1) := by decide +kernel
theorem dL_law_315 : decode cL_law 315 = .ok (.iload_n 3, 1) := by decide +kernel
theorem dL_law_316 : decode cL_law 316 = .ok (.iconst 2, 1) := by decide +kernel
theorem dL_law_317 : decode cL_law 317 = .ok (.iadd, 1) := by decide +kernel
theorem dL_law_318 : decode cL_law 318 = .ok (.iaload, 1) := by decide +kernel
theorem dL_law_319 : decode cL_law 319 = .ok (.invokevirtual 32, 3) := by decide +kernel
theorem dL_law_322 : decode cL_law 322 = .ok (.aload_n 2, 1) := by decide +kernel
theorem dL_law_323 : decode cL_law 323 = .ok (.aload_n 0, 1) := by decide +kernel
theorem dL_law_324 : decode cL_law 324 = .ok (.iload_n 3, 1) := by decide +kernel
theorem dL_law_325 : decode cL_law 325 = .ok (.iconst 1, 1) := by decide +kernel
theorem dL_law_326 : decode cL_law 326 = .ok (.iadd, 1) := by decide +kernel
theorem dL_law_327 : decode cL_law 327 = .ok (.iaload, 1) := by decide +kernel
theorem dL_law_328 : decode cL_law 328 = .ok (.aload_n 0, 1) := by decide +kernel
theorem dL_law_329 : decode cL_law 329 = .ok (.iload_n 3, 1) := by decide +kernel
theorem dL_law_330 : decode cL_law 330 = .ok (.iconst 2, 1) := by decide +kernel
theorem dL_law_331 : decode cL_law 331 = .ok (.iadd, 1) := by decide +kernel
theorem dL_law_332 : decode cL_law 332 = .ok (.iaload, 1) := by decide +kernel
theorem dL_law_333 : decode cL_law 333 = .ok (.invokevirtual 35, 3) := by decide +kernel
theorem dL_law_336 : decode cL_law 336 = .ok (.if_icmp .eq 708, 3) := by decide +kernel
theorem dL_law_339 : decode cL_law 339 = .ok (.iconst 0, 1) := by decide +kernel
theorem dL_law_340 : decode cL_law 340 = .ok (.ireturn, 1) := by decide +kernel
theorem dL_law_341 : decode cL_law 341 = .ok (.aload_n 1, 1) := by decide +kernel
theorem dL_law_342 : decode cL_law 342 = .ok (.aload_n 0, 1) := by decide +kernel
theorem dL_law_343 : decode cL_law 343 = .ok (.iload_n 3, 1) := by decide +kernel
theorem dL_law_344 : decode cL_law 344 = .ok (.iconst 1, 1) := by decide +kernel
theorem dL_law_345 : decode cL_law 345 = .ok (.iadd, 1) := by decide +kernel
theorem dL_law_346 : decode cL_law 346 = .ok (.iaload, 1) := by decide +kernel
theorem dL_law_347 : decode cL_law 347 = .ok (.aload_n 0, 1) := by decide +kernel
theorem dL_law_348 : decode cL_law 348 = .ok (.iload_n 3, 1) := by decide +kernel
theorem dL_law_349 : decode cL_law 349 = .ok (.iconst 2, 1) := by decide +kernel
theorem dL_law_350 : decode cL_law 350 = .ok (.iadd, 1) := by decide +kernel
theorem dL_law_351 : decode cL_law 351 = .ok (.iaload, 1) := by decide +kernel
theorem dL_law_352 : decode cL_law 352 = .ok (.ifCond .eq 7, 3) := by decide +kernel
theorem dL_law_355 : decode cL_law 355 = .ok (.iconst 1, 1) := by decide +kernel
theorem dL_law_356 : decode cL_law 356 = .ok (.goto 4, 3) := by decide +kernel
theorem dL_law_359 : decode cL_law 359 = .ok (.iconst 0, 1) := by decide +kernel
theorem dL_law_360 : decode cL_law 360 = .ok (.invokevirtual 36, 3) := by decide +kernel
theorem dL_law_363 : decode cL_law 363 = .ok (.aload_n 2, 1) := by decide +kernel
theorem dL_law_364 : decode cL_law 364 = .ok (.aload_n 0, 1) := by decide +kernel
theorem dL_law_365 : decode cL_law 365 = .ok (.iload_n 3, 1) := by decide +kernel
theorem dL_law_366 : decode cL_law 366 = .ok (.iconst 1, 1) := by decide +kernel
theorem dL_law_367 : decode cL_law 367 = .ok (.iadd, 1) := by decide +kernel
theorem dL_law_368 : decode cL_law 368 = .ok (.iaload, 1) := by decide +kernel
theorem dL_law_369 : decode cL_law 369 = .ok (.aload_n 0, 1) := by decide +kernel
theorem dL_law_370 : decode cL_law 370 = .ok (.iload_n 3, 1) := by decide +kernel
theorem dL_law_371 : decode cL_law 371 = .ok (.iconst 2, 1) := by decide +kernel
theorem dL_law_372 : decode cL_law 372 = .ok (.iadd, 1) := by decide +kernel
theorem dL_law_373 : decode cL_law 373 = .ok (.iaload, 1) := by decide +kernel
theorem dL_law_374 : decode cL_law 374 = .ok (.ifCond .eq 7, 3) := by decide +kernel
theorem dL_law_377 : decode cL_law 377 = .ok (.iconst 1, 1) := by decide +kernel
theorem dL_law_378 : decode cL_law 378 = .ok (.goto 4, 3) := by decide +kernel
theorem dL_law_381 : decode cL_law 381 = .ok (.iconst 0, 1) := by decide +kernel
theorem dL_law_382 : decode cL_law 382 = .ok (.invokevirtual 40, 3) := by decide +kernel
theorem dL_law_385 : decode cL_law 385 = .ok (.if_icmp .eq 659, 3) := by decide +kernel
theorem dL_law_388 : decode cL_law 388 = .ok (.iconst 0, 1) := by decide +kernel
theorem dL_law_389 : decode cL_law 389 = .ok (.ireturn, 1) := by decide +kernel
theorem dL_law_390 : decode cL_law 390 = .ok (.aload_n 1, 1) := by decide +kernel
theorem dL_law_391 : decode cL_law 391 = .ok (.aload_n 0, 1) := by decide +kernel
theorem dL_law_392 : decode cL_law 392 = .ok (.iload_n 3, 1) := by decide +kernel
theorem dL_law_393 : decode cL_law 393 = .ok (.iconst 1, 1) := by decide +kernel
theorem dL_law_394 : decode cL_law 394 = .ok (.iadd, 1) := by decide +kernel
theorem dL_law_395 : decode cL_law 395 = .ok (.iaload, 1) := by decide +kernel
theorem dL_law_396 : decode cL_law 396 = .ok (.invokevirtual 41, 3) := by decide +kernel
theorem dL_law_399 : decode cL_law 399 = .ok (.aload_n 2, 1) := by decide +kernel
theorem dL_law_400 : decode cL_law 400 = .ok (.aload_n 0, 1) := by decide +kernel
theorem dL_law_401 : decode cL_law 401 = .ok (.iload_n 3, 1) := by decide +kernel
theorem dL_law_402 : decode cL_law 402 = .ok (.iconst 1, 1) := by decide +kernel
theorem dL_law_403 : decode cL_law 403 = .ok (.iadd, 1) := by decide +kernel
theorem dL_law_404 : decode cL_law 404 = .ok (.iaload, 1) := by decide +kernel
theorem dL_law_405 : decode cL_law 405 = .ok (.invokevirtual 45, 3) := by decide +kernel
theorem dL_law_408 : decode cL_law 408 = .ok (.if_icmp .eq 636, 3) := by decide +kernel
theorem dL_law_411 : decode cL_law 411 = .ok (.iconst 0, 1) := by decide +kernel
theorem dL_law_412 : decode cL_law 412 = .ok (.ireturn, 1) := by decide +kernel
theorem dL_law_413 : decode cL_law 413 = .ok (.aload_n 1, 1) := by decide +kernel
theorem dL_law_414 : decode cL_law 414 = .ok (.aload_n 0, 1) := by decide +kernel
theorem dL_law_415 : decode cL_law 415 = .ok (.iload_n 3, 1) := by decide +kernel
theorem dL_law_416 : decode cL_law 416 = .ok (.iconst 1, 1) := by decide +kernel
theorem dL_law_417 : decode cL_law 417 = .ok (.iadd, 1) := by decide +kernel
theorem dL_law_418 : decode cL_law 418 = .ok (.iaload, 1) := by decide +kernel
theorem dL_law_419 : decode cL_law 419 = .ok (.aload_n 0, 1) := by decide +kernel
theorem dL_law_420 : decode cL_law 420 = .ok (.iload_n 3, 1) := by decide +kernel
theorem dL_law_421 : decode cL_law 421 = .ok (.iconst 2, 1) := by decide +kernel
theorem dL_law_422 : decode cL_law 422 = .ok (.iadd, 1) := by decide +kernel
theorem dL_law_423 : decode cL_law 423 = .ok (.iaload, 1) := by decide +kernel
theorem dL_law_424 : decode cL_law 424 = .ok (.invokevirtual 46, 3) := by decide +kernel
theorem dL_law_427 : decode cL_law 427 = .ok (.aload_n 2, 1) := by decide +kernel
theorem dL_law_428 : decode cL_law 428 = .ok (.aload_n 0, 1) := by decide +kernel
theorem dL_law_429 : decode cL_law 429 = .ok (.iload_n 3, 1) := by decide +kernel
theorem dL_law_430 : decode cL_law 430 = .ok (.iconst 1, 1) := by decide +kernel
theorem dL_law_431 : decode cL_law 431 = .ok (.iadd, 1) := by decide +kernel
theorem dL_law_432 : decode cL_law 432 = .ok (.iaload, 1) := by decide +kernel
theorem dL_law_433 : decode cL_law 433 = .ok (.aload_n 0, 1) := by decide +kernel
theorem dL_law_434 : decode cL_law 434 = .ok (.iload_n 3, 1) := by decide +kernel
theorem dL_law_435 : decode cL_law 435 = .ok (.iconst 2, 1) := by decide +kernel
theorem dL_law_436 : decode cL_law 436 = .ok (.iadd, 1) := by decide +kernel
theorem dL_law_437 : decode cL_law 437 = .ok (.iaload, 1) := by decide +kernel
theorem dL_law_438 : decode cL_law 438 = .ok (.invokevirtual 49, 3) := by decide +kernel
theorem dL_law_441 : decode cL_law 441 = .ok (.if_icmp .eq 603, 3) := by decide +kernel
theorem dL_law_444 : decode cL_law 444 = .ok (.iconst 0, 1) := by decide +kernel
theorem dL_law_445 : decode cL_law 445 = .ok (.ireturn, 1) := by decide +kernel
theorem dL_law_446 : decode cL_law 446 = .ok (.aload_n 1, 1) := by decide +kernel
theorem dL_law_447 : decode cL_law 447 = .ok (.aload_n 0, 1) := by decide +kernel
theorem dL_law_448 : decode cL_law 448 = .ok (.iload_n 3, 1) := by decide +kernel
theorem dL_law_449 : decode cL_law 449 = .ok (.iconst 1, 1) := by decide +kernel
theorem dL_law_450 : decode cL_law 450 = .ok (.iadd, 1) := by decide +kernel
theorem dL_law_451 : decode cL_law 451 = .ok (.iaload, 1) := by decide +kernel
theorem dL_law_452 : decode cL_law 452 = .ok (.aload_n 0, 1) := by decide +kernel
theorem dL_law_453 : decode cL_law 453 = .ok (.iload_n 3, 1) := by decide +kernel
theorem dL_law_454 : decode cL_law 454 = .ok (.iconst 2, 1) := by decide +kernel
theorem dL_law_455 : decode cL_law 455 = .ok (.iadd, 1) := by decide +kernel
theorem dL_law_456 : decode cL_law 456 = .ok (.iaload, 1) := by decide +kernel
theorem dL_law_457 : decode cL_law 457 = .ok (.invokevirtual 50, 3) := by decide +kernel
theorem dL_law_460 : decode cL_law 460 = .ok (.aload_n 2, 1) := by decide +kernel
theorem dL_law_461 : decode cL_law 461 = .ok (.aload_n 0, 1) := by decide +kernel
theorem dL_law_462 : decode cL_law 462 = .ok (.iload_n 3, 1) := by decide +kernel
theorem dL_law_463 : decode cL_law 463 = .ok (.iconst 1, 1) := by decide +kernel
theorem dL_law_464 : decode cL_law 464 = .ok (.iadd, 1) := by decide +kernel
theorem dL_law_465 : decode cL_law 465 = .ok (.iaload, 1) := by decide +kernel
theorem dL_law_466 : decode cL_law 466 = .ok (.aload_n 0, 1) := by decide +kernel
theorem dL_law_467 : decode cL_law 467 = .ok (.iload_n 3, 1) := by decide +kernel
theorem dL_law_468 : decode cL_law 468 = .ok (.iconst 2, 1) := by decide +kernel
theorem dL_law_469 : decode cL_law 469 = .ok (.iadd, 1) := by decide +kernel
theorem dL_law_470 : decode cL_law 470 = .ok (.iaload, 1) := by decide +kernel
theorem dL_law_471 : decode cL_law 471 = .ok (.invokevirtual 53, 3) := by decide +kernel
theorem dL_law_474 : decode cL_law 474 = .ok (.if_icmp .eq 570, 3) := by decide +kernel
theorem dL_law_477 : decode cL_law 477 = .ok (.iconst 0, 1) := by decide +kernel
theorem dL_law_478 : decode cL_law 478 = .ok (.ireturn, 1) := by decide +kernel
theorem dL_law_479 : decode cL_law 479 = .ok (.aload_n 1, 1) := by decide +kernel
theorem dL_law_480 : decode cL_law 480 = .ok (.aload_n 0, 1) := by decide +kernel
theorem dL_law_481 : decode cL_law 481 = .ok (.iload_n 3, 1) := by decide +kernel
theorem dL_law_482 : decode cL_law 482 = .ok (.iconst 1, 1) := by decide +kernel
theorem dL_law_483 : decode cL_law 483 = .ok (.iadd, 1) := by decide +kernel
theorem dL_law_484 : decode cL_law 484 = .ok (.iaload, 1) := by decide +kernel
theorem dL_law_485 : decode cL_law 485 = .ok (.invokevirtual 54, 3) := by decide +kernel
theorem dL_law_488 : decode cL_law 488 = .ok (.aload_n 2, 1) := by decide +kernel
theorem dL_law_489 : decode cL_law 489 = .ok (.aload_n 0, 1) := by decide +kernel
theorem dL_law_490 : decode cL_law 490 = .ok (.iload_n 3, 1) := by decide +kernel
theorem dL_law_491 : decode cL_law 491 = .ok (.iconst 1, 1) := by decide +kernel
theorem dL_law_492 : decode cL_law 492 = .ok (.iadd, 1) := by decide +kernel
theorem dL_law_493 : decode cL_law 493 = .ok (.iaload, 1) := by decide +kernel
theorem dL_law_494 : decode cL_law 494 = .ok (.invokevirtual 57, 3) := by decide +kernel
theorem dL_law_497 : decode cL_law 497 = .ok (.if_icmp .eq 547, 3) := by decide +kernel
theorem dL_law_500 : decode cL_law 500 = .ok (.iconst 0, 1) := by decide +kernel
theorem dL_law_501 : decode cL_law 501 = .ok (.ireturn, 1) := by decide +kernel
theorem dL_law_502 : decode cL_law 502 = .ok (.aload_n 1, 1) := by decide +kernel
theorem dL_law_503 : decode cL_law 503 = .ok (.aload_n 0, 1) := by decide +kernel
theorem dL_law_504 : decode cL_law 504 = .ok (.iload_n 3, 1) := by decide +kernel
theorem dL_law_505 : decode cL_law 505 = .ok (.iconst 1, 1) := by decide +kernel
theorem dL_law_506 : decode cL_law 506 = .ok (.iadd, 1) := by decide +kernel
theorem dL_law_507 : decode cL_law 507 = .ok (.iaload, 1) := by decide +kernel
theorem dL_law_508 : decode cL_law 508 = .ok (.aload_n 0, 1) := by decide +kernel
theorem dL_law_509 : decode cL_law 509 = .ok (.iload_n 3, 1) := by decide +kernel
theorem dL_law_510 : decode cL_law 510 = .ok (.iconst 2, 1) := by decide +kernel
theorem dL_law_511 : decode cL_law 511 = .ok (.iadd, 1) := by decide +kernel
theorem dL_law_512 : decode cL_law 512 = .ok (.iaload, 1) := by decide +kernel
theorem dL_law_513 : decode cL_law 513 = .ok (.invokevirtual 58, 3) := by decide +kernel
theorem dL_law_516 : decode cL_law 516 = .ok (.aload_n 2, 1) := by decide +kernel
theorem dL_law_517 : decode cL_law 517 = .ok (.aload_n 0, 1) := by decide +kernel
theorem dL_law_518 : decode cL_law 518 = .ok (.iload_n 3, 1) := by decide +kernel
theorem dL_law_519 : decode cL_law 519 = .ok (.iconst 1, 1) := by decide +kernel
theorem dL_law_520 : decode cL_law 520 = .ok (.iadd, 1) := by decide +kernel
theorem dL_law_521 : decode cL_law 521 = .ok (.iaload, 1) := by decide +kernel
theorem dL_law_522 : decode cL_law 522 = .ok (.aload_n 0, 1) := by decide +kernel
theorem dL_law_523 : decode cL_law 523 = .ok (.iload_n 3, 1) := by decide +kernel
theorem dL_law_524 : decode cL_law 524 = .ok (.iconst 2, 1) := by decide +kernel
theorem dL_law_525 : decode cL_law 525 = .ok (.iadd, 1) := by decide +kernel
theorem dL_law_526 : decode cL_law 526 = .ok (.iaload, 1) := by decide +kernel
theorem dL_law_527 : decode cL_law 527 = .ok (.invokevirtual 61, 3) := by decide +kernel
theorem dL_law_530 : decode cL_law 530 = .ok (.if_icmp .eq 514, 3) := by decide +kernel
theorem dL_law_533 : decode cL_law 533 = .ok (.iconst 0, 1) := by decide +kernel
theorem dL_law_534 : decode cL_law 534 = .ok (.ireturn, 1) := by decide +kernel
theorem dL_law_535 : decode cL_law 535 = .ok (.aload_n 1, 1) := by decide +kernel
theorem dL_law_536 : decode cL_law 536 = .ok (.aload_n 0, 1) := by decide +kernel
theorem dL_law_537 : decode cL_law 537 = .ok (.iload_n 3, 1) := by decide +kernel
theorem dL_law_538 : decode cL_law 538 = .ok (.iconst 1, 1) := by decide +kernel
theorem dL_law_539 : decode cL_law 539 = .ok (.iadd, 1) := by decide +kernel
theorem dL_law_540 : decode cL_law 540 = .ok (.iaload, 1) := by decide +kernel
theorem dL_law_541 : decode cL_law 541 = .ok (.invokevirtual 62, 3) := by decide +kernel
theorem dL_law_544 : decode cL_law 544 = .ok (.aload_n 2, 1) := by decide +kernel
theorem dL_law_545 : decode cL_law 545 = .ok (.aload_n 0, 1) := by decide +kernel
theorem dL_law_546 : decode cL_law 546 = .ok (.iload_n 3, 1) := by decide +kernel
theorem dL_law_547 : decode cL_law 547 = .ok (.iconst 1, 1) := by decide +kernel
theorem dL_law_548 : decode cL_law 548 = .ok (.iadd, 1) := by decide +kernel
theorem dL_law_549 : decode cL_law 549 = .ok (.iaload, 1) := by decide +kernel
theorem dL_law_550 : decode cL_law 550 = .ok (.invokevirtual 65, 3) := by decide +kernel
theorem dL_law_553 : decode cL_law 553 = .ok (.if_icmp .eq 491, 3) := by decide +kernel
theorem dL_law_556 : decode cL_law 556 = .ok (.iconst 0, 1) := by decide +kernel
theorem dL_law_557 : decode cL_law 557 = .ok (.ireturn, 1) := by decide +kernel
theorem dL_law_558 : decode cL_law 558 = .ok (.aload_n 1, 1) := by decide +kernel
theorem dL_law_559 : decode cL_law 559 = .ok (.aload_n 0, 1) := by decide +kernel
theorem dL_law_560 : decode cL_law 560 = .ok (.iload_n 3, 1) := by decide +kernel
theorem dL_law_561 : decode cL_law 561 = .ok (.iconst 1, 1) := by decide +kernel
theorem dL_law_562 : decode cL_law 562 = .ok (.iadd, 1) := by decide +kernel
theorem dL_law_563 : decode cL_law 563 = .ok (.iaload, 1) := by decide +kernel
theorem dL_law_564 : decode cL_law 564 = .ok (.aload_n 0, 1) := by decide +kernel
theorem dL_law_565 : decode cL_law 565 = .ok (.iload_n 3, 1) := by decide +kernel
theorem dL_law_566 : decode cL_law 566 = .ok (.iconst 2, 1) := by decide +kernel
theorem dL_law_567 : decode cL_law 567 = .ok (.iadd, 1) := by decide +kernel
theorem dL_law_568 : decode cL_law 568 = .ok (.iaload, 1) := by decide +kernel
theorem dL_law_569 : decode cL_law 569 = .ok (.invokevirtual 66, 3) := by decide +kernel
theorem dL_law_572 : decode cL_law 572 = .ok (.aload_n 2, 1) := by decide +kernel
theorem dL_law_573 : decode cL_law 573 = .ok (.aload_n 0, 1) := by decide +kernel
theorem dL_law_574 : decode cL_law 574 = .ok (.iload_n 3, 1) := by decide +kernel
theorem dL_law_575 : decode cL_law 575 = .ok (.iconst 1, 1) := by decide +kernel
theorem dL_law_576 : decode cL_law 576 = .ok (.iadd, 1) := by decide +kernel
theorem dL_law_577 : decode cL_law 577 = .ok (.iaload, 1) := by decide +kernel
theorem dL_law_578 : decode cL_law 578 = .ok (.aload_n 0, 1) := by decide +kernel
theorem dL_law_579 : decode cL_law 579 = .ok (.iload_n 3, 1) := by decide +kernel
theorem dL_law_580 : decode cL_law 580 = .ok (.iconst 2, 1) := by decide +kernel
theorem dL_law_581 : decode cL_law 581 = .ok (.iadd, 1) := by decide +kernel
theorem dL_law_582 : decode cL_law 582 = .ok (.iaload, 1) := by decide +kernel
theorem dL_law_583 : decode cL_law 583 = .ok (.invokevirtual 69, 3) := by decide +kernel
theorem dL_law_586 : decode cL_law 586 = .ok (.if_icmp .eq 458, 3) := by decide +kernel
theorem dL_law_589 : decode cL_law 589 = .ok (.iconst 0, 1) := by decide +kernel
theorem dL_law_590 : decode cL_law 590 = .ok (.ireturn, 1) := by decide +kernel
theorem dL_law_591 : decode cL_law 591 = .ok (.aload_n 1, 1) := by decide +kernel
theorem dL_law_592 : decode cL_law 592 = .ok (.aload_n 0, 1) := by decide +kernel
theorem dL_law_593 : decode cL_law 593 = .ok (.iload_n 3, 1) := by decide +kernel
theorem dL_law_594 : decode cL_law 594 = .ok (.iconst 1, 1) := by decide +kernel
theorem dL_law_595 : decode cL_law 595 = .ok (.iadd, 1) := by decide +kernel
theorem dL_law_596 : decode cL_law 596 = .ok (.iaload, 1) := by decide +kernel
theorem dL_law_597 : decode cL_law 597 = .ok (.invokevirtual 70, 3) := by decide +kernel
theorem dL_law_600 : decode cL_law 600 = .ok (.aload_n 2, 1) := by decide +kernel
theorem dL_law_601 : decode cL_law 601 = .ok (.aload_n 0, 1) := by decide +kernel
theorem dL_law_602 : decode cL_law 602 = .ok (.iload_n 3, 1) := by decide +kernel
theorem dL_law_603 : decode cL_law 603 = .ok (.iconst 1, 1) := by decide +kernel
theorem dL_law_604 : decode cL_law 604 = .ok (.iadd, 1) := by decide +kernel
theorem dL_law_605 : decode cL_law 605 = .ok (.iaload, 1) := by decide +kernel
theorem dL_law_606 : decode cL_law 606 = .ok (.invokevirtual 74, 3) := by decide +kernel
theorem dL_law_609 : decode cL_law 609 = .ok (.lcmp, 1) := by decide +kernel
theorem dL_law_610 : decode cL_law 610 = .ok (.ifCond .eq 434, 3) := by decide +kernel
theorem dL_law_613 : decode cL_law 613 = .ok (.iconst 0, 1) := by decide +kernel
theorem dL_law_614 : decode cL_law 614 = .ok (.ireturn, 1) := by decide +kernel
theorem dL_law_615 : decode cL_law 615 = .ok (.aload_n 1, 1) := by decide +kernel
theorem dL_law_616 : decode cL_law 616 = .ok (.aload_n 0, 1) := by decide +kernel
theorem dL_law_617 : decode cL_law 617 = .ok (.iload_n 3, 1) := by decide +kernel
theorem dL_law_618 : decode cL_law 618 = .ok (.iconst 1, 1) := by decide +kernel
theorem dL_law_619 : decode cL_law 619 = .ok (.iadd, 1) := by decide +kernel
theorem dL_law_620 : decode cL_law 620 = .ok (.iaload, 1) := by decide +kernel
theorem dL_law_621 : decode cL_law 621 = .ok (.invokevirtual 75, 3) := by decide +kernel
theorem dL_law_624 : decode cL_law 624 = .ok (.aload_n 2, 1) := by decide +kernel
theorem dL_law_625 : decode cL_law 625 = .ok (.aload_n 0, 1) := by decide +kernel
theorem dL_law_626 : decode cL_law 626 = .ok (.iload_n 3, 1) := by decide +kernel
theorem dL_law_627 : decode cL_law 627 = .ok (.iconst 1, 1) := by decide +kernel
theorem dL_law_628 : decode cL_law 628 = .ok (.iadd, 1) := by decide +kernel
theorem dL_law_629 : decode cL_law 629 = .ok (.iaload, 1) := by decide +kernel
theorem dL_law_630 : decode cL_law 630 = .ok (.invokevirtual 78, 3) := by decide +kernel
theorem dL_law_633 : decode cL_law 633 = .ok (.if_icmp .eq 411, 3) := by decide +kernel
theorem dL_law_636 : decode cL_law 636 = .ok (.iconst 0, 1) := by decide +kernel
theorem dL_law_637 : decode cL_law 637 = .ok (.ireturn, 1) := by decide +kernel
theorem dL_law_638 : decode cL_law 638 = .ok (.aload_n 1, 1) := by decide +kernel
theorem dL_law_639 : decode cL_law 639 = .ok (.aload_n 0, 1) := by decide +kernel
theorem dL_law_640 : decode cL_law 640 = .ok (.iload_n 3, 1) := by decide +kernel
theorem dL_law_641 : decode cL_law 641 = .ok (.iconst 1, 1) := by decide +kernel
theorem dL_law_642 : decode cL_law 642 = .ok (.iadd, 1) := by decide +kernel
theorem dL_law_643 : decode cL_law 643 = .ok (.iaload, 1) := by decide +kernel
theorem dL_law_644 : decode cL_law 644 = .ok (.aload_n 0, 1) := by decide +kernel
theorem dL_law_645 : decode cL_law 645 = .ok (.iload_n 3, 1) := by decide +kernel
theorem dL_law_646 : decode cL_law 646 = .ok (.iconst 2, 1) := by decide +kernel
theorem dL_law_647 : decode cL_law 647 = .ok (.iadd, 1) := by decide +kernel
theorem dL_law_648 : decode cL_law 648 = .ok (.iaload, 1) := by decide +kernel
theorem dL_law_649 : decode cL_law 649 = .ok (.invokevirtual 79, 3) := by decide +kernel
theorem dL_law_652 : decode cL_law 652 = .ok (.aload_n 2, 1) := by decide +kernel
theorem dL_law_653 : decode cL_law 653 = .ok (.aload_n 0, 1) := by decide +kernel
theorem dL_law_654 : decode cL_law 654 = .ok (.iload_n 3, 1) := by decide +kernel
theorem dL_law_655 : decode cL_law 655 = .ok (.iconst 1, 1) := by decide +kernel
theorem dL_law_656 : decode cL_law 656 = .ok (.iadd, 1) := by decide +kernel
theorem dL_law_657 : decode cL_law 657 = .ok (.iaload, 1) := by decide +kernel
theorem dL_law_658 : decode cL_law 658 = .ok (.aload_n 0, 1) := by decide +kernel
theorem dL_law_659 : decode cL_law 659 = .ok (.iload_n 3, 1) := by decide +kernel
theorem dL_law_660 : decode cL_law 660 = .ok (.iconst 2, 1) := by decide +kernel
theorem dL_law_661 : decode cL_law 661 = .ok (.iadd, 1) := by decide +kernel
theorem dL_law_662 : decode cL_law 662 = .ok (.iaload, 1) := by decide +kernel
theorem dL_law_663 : decode cL_law 663 = .ok (.invokevirtual 82, 3) := by decide +kernel
theorem dL_law_666 : decode cL_law 666 = .ok (.if_icmp .eq 378, 3) := by decide +kernel
theorem dL_law_669 : decode cL_law 669 = .ok (.iconst 0, 1) := by decide +kernel
theorem dL_law_670 : decode cL_law 670 = .ok (.ireturn, 1) := by decide +kernel
theorem dL_law_671 : decode cL_law 671 = .ok (.aload_n 1, 1) := by decide +kernel
theorem dL_law_672 : decode cL_law 672 = .ok (.aload_n 0, 1) := by decide +kernel
theorem dL_law_673 : decode cL_law 673 = .ok (.iload_n 3, 1) := by decide +kernel
theorem dL_law_674 : decode cL_law 674 = .ok (.iconst 1, 1) := by decide +kernel
theorem dL_law_675 : decode cL_law 675 = .ok (.iadd, 1) := by decide +kernel
theorem dL_law_676 : decode cL_law 676 = .ok (.iaload, 1) := by decide +kernel
theorem dL_law_677 : decode cL_law 677 = .ok (.aload_n 0, 1) := by decide +kernel
theorem dL_law_678 : decode cL_law 678 = .ok (.iload_n 3, 1) := by decide +kernel
theorem dL_law_679 : decode cL_law 679 = .ok (.iconst 2, 1) := by decide +kernel
theorem dL_law_680 : decode cL_law 680 = .ok (.iadd, 1) := by decide +kernel
theorem dL_law_681 : decode cL_law 681 = .ok (.iaload, 1) := by decide +kernel
theorem dL_law_682 : decode cL_law 682 = .ok (.invokevirtual 83, 3) := by decide +kernel
theorem dL_law_685 : decode cL_law 685 = .ok (.aload_n 2, 1) := by decide +kernel
theorem dL_law_686 : decode cL_law 686 = .ok (.aload_n 0, 1) := by decide +kernel
theorem dL_law_687 : decode cL_law 687 = .ok (.iload_n 3, 1) := by decide +kernel
theorem dL_law_688 : decode cL_law 688 = .ok (.iconst 1, 1) := by decide +kernel
theorem dL_law_689 : decode cL_law 689 = .ok (.iadd, 1) := by decide +kernel
theorem dL_law_690 : decode cL_law 690 = .ok (.iaload, 1) := by decide +kernel
theorem dL_law_691 : decode cL_law 691 = .ok (.aload_n 0, 1) := by decide +kernel
theorem dL_law_692 : decode cL_law 692 = .ok (.iload_n 3, 1) := by decide +kernel
theorem dL_law_693 : decode cL_law 693 = .ok (.iconst 2, 1) := by decide +kernel
theorem dL_law_694 : decode cL_law 694 = .ok (.iadd, 1) := by decide +kernel
theorem dL_law_695 : decode cL_law 695 = .ok (.iaload, 1) := by decide +kernel
theorem dL_law_696 : decode cL_law 696 = .ok (.invokevirtual 87, 3) := by decide +kernel
theorem dL_law_699 : decode cL_law 699 = .ok (.lcmp, 1) := by decide +kernel
theorem dL_law_700 : decode cL_law 700 = .ok (.ifCond .eq 344, 3) := by decide +kernel
theorem dL_law_703 : decode cL_law 703 = .ok (.iconst 0, 1) := by decide +kernel
theorem dL_law_704 : decode cL_law 704 = .ok (.ireturn, 1) := by decide +kernel
theorem dL_law_705 : decode cL_law 705 = .ok (.aload_n 1, 1) := by decide +kernel
theorem dL_law_706 : decode cL_law 706 = .ok (.aload_n 0, 1) := by decide +kernel
theorem dL_law_707 : decode cL_law 707 = .ok (.iload_n 3, 1) := by decide +kernel
theorem dL_law_708 : decode cL_law 708 = .ok (.iconst 1, 1) := by decide +kernel
theorem dL_law_709 : decode cL_law 709 = .ok (.iadd, 1) := by decide +kernel
theorem dL_law_710 : decode cL_law 710 = .ok (.iaload, 1) := by decide +kernel
theorem dL_law_711 : decode cL_law 711 = .ok (.aload_n 0, 1) := by decide +kernel
theorem dL_law_712 : decode cL_law 712 = .ok (.iload_n 3, 1) := by decide +kernel
theorem dL_law_713 : decode cL_law 713 = .ok (.iconst 2, 1) := by decide +kernel
theorem dL_law_714 : decode cL_law 714 = .ok (.iadd, 1) := by decide +kernel
theorem dL_law_715 : decode cL_law 715 = .ok (.iaload, 1) := by decide +kernel
theorem dL_law_716 : decode cL_law 716 = .ok (.invokevirtual 88, 3) := by decide +kernel
theorem dL_law_719 : decode cL_law 719 = .ok (.aload_n 2, 1) := by decide +kernel
theorem dL_law_720 : decode cL_law 720 = .ok (.aload_n 0, 1) := by decide +kernel
theorem dL_law_721 : decode cL_law 721 = .ok (.iload_n 3, 1) := by decide +kernel
theorem dL_law_722 : decode cL_law 722 = .ok (.iconst 1, 1) := by decide +kernel
theorem dL_law_723 : decode cL_law 723 = .ok (.iadd, 1) := by decide +kernel
theorem dL_law_724 : decode cL_law 724 = .ok (.iaload, 1) := by decide +kernel
theorem dL_law_725 : decode cL_law 725 = .ok (.aload_n 0, 1) := by decide +kernel
theorem dL_law_726 : decode cL_law 726 = .ok (.iload_n 3, 1) := by decide +kernel
theorem dL_law_727 : decode cL_law 727 = .ok (.iconst 2, 1) := by decide +kernel
theorem dL_law_728 : decode cL_law 728 = .ok (.iadd, 1) := by decide +kernel
theorem dL_law_729 : decode cL_law 729 = .ok (.iaload, 1) := by decide +kernel
theorem dL_law_730 : decode cL_law 730 = .ok (.invokevirtual 91, 3) := by decide +kernel
theorem dL_law_733 : decode cL_law 733 = .ok (.if_icmp .eq 311, 3) := by decide +kernel
theorem dL_law_736 : decode cL_law 736 = .ok (.iconst 0, 1) := by decide +kernel
theorem dL_law_737 : decode cL_law 737 = .ok (.ireturn, 1) := by decide +kernel
theorem dL_law_738 : decode cL_law 738 = .ok (.aload_n 1, 1) := by decide +kernel
theorem dL_law_739 : decode cL_law 739 = .ok (.aload_n 0, 1) := by decide +kernel
theorem dL_law_740 : decode cL_law 740 = .ok (.iload_n 3, 1) := by decide +kernel
theorem dL_law_741 : decode cL_law 741 = .ok (.iconst 1, 1) := by decide +kernel
theorem dL_law_742 : decode cL_law 742 = .ok (.iadd, 1) := by decide +kernel
theorem dL_law_743 : decode cL_law 743 = .ok (.iaload, 1) := by decide +kernel
theorem dL_law_744 : decode cL_law 744 = .ok (.invokevirtual 92, 3) := by decide +kernel
theorem dL_law_747 : decode cL_law 747 = .ok (.aload_n 2, 1) := by decide +kernel
theorem dL_law_748 : decode cL_law 748 = .ok (.aload_n 0, 1) := by decide +kernel
theorem dL_law_749 : decode cL_law 749 = .ok (.iload_n 3, 1) := by decide +kernel
theorem dL_law_750 : decode cL_law 750 = .ok (.iconst 1, 1) := by decide +kernel
theorem dL_law_751 : decode cL_law 751 = .ok (.iadd, 1) := by decide +kernel
theorem dL_law_752 : decode cL_law 752 = .ok (.iaload, 1) := by decide +kernel
theorem dL_law_753 : decode cL_law 753 = .ok (.invokevirtual 95, 3) := by decide +kernel
theorem dL_law_756 : decode cL_law 756 = .ok (.if_icmp .eq 288, 3) := by decide +kernel
theorem dL_law_759 : decode cL_law 759 = .ok (.iconst 0, 1) := by decide +kernel
theorem dL_law_760 : decode cL_law 760 = .ok (.ireturn, 1) := by decide +kernel
theorem dL_law_761 : decode cL_law 761 = .ok (.aload_n 1, 1) := by decide +kernel
theorem dL_law_762 : decode cL_law 762 = .ok (.aload_n 0, 1) := by decide +kernel
theorem dL_law_763 : decode cL_law 763 = .ok (.iload_n 3, 1) := by decide +kernel
theorem dL_law_764 : decode cL_law 764 = .ok (.iconst 1, 1) := by decide +kernel
theorem dL_law_765 : decode cL_law 765 = .ok (.iadd, 1) := by decide +kernel
theorem dL_law_766 : decode cL_law 766 = .ok (.iaload, 1) := by decide +kernel
theorem dL_law_767 : decode cL_law 767 = .ok (.aload_n 0, 1) := by decide +kernel
theorem dL_law_768 : decode cL_law 768 = .ok (.iload_n 3, 1) := by decide +kernel
theorem dL_law_769 : decode cL_law 769 = .ok (.iconst 2, 1) := by decide +kernel
theorem dL_law_770 : decode cL_law 770 = .ok (.iadd, 1) := by decide +kernel
theorem dL_law_771 : decode cL_law 771 = .ok (.iaload, 1) := by decide +kernel
theorem dL_law_772 : decode cL_law 772 = .ok (.invokevirtual 96, 3) := by decide +kernel
theorem dL_law_775 : decode cL_law 775 = .ok (.aload_n 2, 1) := by decide +kernel
theorem dL_law_776 : decode cL_law 776 = .ok (.aload_n 0, 1) := by decide +kernel
theorem dL_law_777 : decode cL_law 777 = .ok (.iload_n 3, 1) := by decide +kernel
theorem dL_law_778 : decode cL_law 778 = .ok (.iconst 1, 1) := by decide +kernel
theorem dL_law_779 : decode cL_law 779 = .ok (.iadd, 1) := by decide +kernel
theorem dL_law_780 : decode cL_law 780 = .ok (.iaload, 1) := by decide +kernel
theorem dL_law_781 : decode cL_law 781 = .ok (.aload_n 0, 1) := by decide +kernel
theorem dL_law_782 : decode cL_law 782 = .ok (.iload_n 3, 1) := by decide +kernel
theorem dL_law_783 : decode cL_law 783 = .ok (.iconst 2, 1) := by decide +kernel
theorem dL_law_784 : decode cL_law 784 = .ok (.iadd, 1) := by decide +kernel
theorem dL_law_785 : decode cL_law 785 = .ok (.iaload, 1) := by decide +kernel
theorem dL_law_786 : decode cL_law 786 = .ok (.invokevirtual 99, 3) := by decide +kernel
theorem dL_law_789 : decode cL_law 789 = .ok (.if_icmp .eq 255, 3) := by decide +kernel
theorem dL_law_792 : decode cL_law 792 = .ok (.iconst 0, 1) := by decide +kernel
theorem dL_law_793 : decode cL_law 793 = .ok (.ireturn, 1) := by decide +kernel
theorem dL_law_794 : decode cL_law 794 = .ok (.aload_n 1, 1) := by decide +kernel
theorem dL_law_795 : decode cL_law 795 = .ok (.aload_n 0, 1) := by decide +kernel
theorem dL_law_796 : decode cL_law 796 = .ok (.iload_n 3, 1) := by decide +kernel
theorem dL_law_797 : decode cL_law 797 = .ok (.iconst 1, 1) := by decide +kernel
theorem dL_law_798 : decode cL_law 798 = .ok (.iadd, 1) := by decide +kernel
theorem dL_law_799 : decode cL_law 799 = .ok (.iaload, 1) := by decide +kernel
theorem dL_law_800 : decode cL_law 800 = .ok (.invokevirtual 100, 3) := by decide +kernel
theorem dL_law_803 : decode cL_law 803 = .ok (.aload_n 2, 1) := by decide +kernel
theorem dL_law_804 : decode cL_law 804 = .ok (.aload_n 0, 1) := by decide +kernel
theorem dL_law_805 : decode cL_law 805 = .ok (.iload_n 3, 1) := by decide +kernel
theorem dL_law_806 : decode cL_law 806 = .ok (.iconst 1, 1) := by decide +kernel
theorem dL_law_807 : decode cL_law 807 = .ok (.iadd, 1) := by decide +kernel
theorem dL_law_808 : decode cL_law 808 = .ok (.iaload, 1) := by decide +kernel
theorem dL_law_809 : decode cL_law 809 = .ok (.invokevirtual 103, 3) := by decide +kernel
theorem dL_law_812 : decode cL_law 812 = .ok (.if_icmp .eq 232, 3) := by decide +kernel
theorem dL_law_815 : decode cL_law 815 = .ok (.iconst 0, 1) := by decide +kernel
theorem dL_law_816 : decode cL_law 816 = .ok (.ireturn, 1) := by decide +kernel
theorem dL_law_817 : decode cL_law 817 = .ok (.aload_n 1, 1) := by decide +kernel
theorem dL_law_818 : decode cL_law 818 = .ok (.aload_n 0, 1) := by decide +kernel
theorem dL_law_819 : decode cL_law 819 = .ok (.iload_n 3, 1) := by decide +kernel
theorem dL_law_820 : decode cL_law 820 = .ok (.iconst 1, 1) := by decide +kernel
theorem dL_law_821 : decode cL_law 821 = .ok (.iadd, 1) := by decide +kernel
theorem dL_law_822 : decode cL_law 822 = .ok (.iaload, 1) := by decide +kernel
theorem dL_law_823 : decode cL_law 823 = .ok (.invokevirtual 104, 3) := by decide +kernel
theorem dL_law_826 : decode cL_law 826 = .ok (.aload_n 2, 1) := by decide +kernel
theorem dL_law_827 : decode cL_law 827 = .ok (.aload_n 0, 1) := by decide +kernel
theorem dL_law_828 : decode cL_law 828 = .ok (.iload_n 3, 1) := by decide +kernel
theorem dL_law_829 : decode cL_law 829 = .ok (.iconst 1, 1) := by decide +kernel
theorem dL_law_830 : decode cL_law 830 = .ok (.iadd, 1) := by decide +kernel
theorem dL_law_831 : decode cL_law 831 = .ok (.iaload, 1) := by decide +kernel
theorem dL_law_832 : decode cL_law 832 = .ok (.invokevirtual 107, 3) := by decide +kernel
theorem dL_law_835 : decode cL_law 835 = .ok (.lcmp, 1) := by decide +kernel
theorem dL_law_836 : decode cL_law 836 = .ok (.ifCond .eq 208, 3) := by decide +kernel
theorem dL_law_839 : decode cL_law 839 = .ok (.iconst 0, 1) := by decide +kernel
theorem dL_law_840 : decode cL_law 840 = .ok (.ireturn, 1) := by decide +kernel
theorem dL_law_841 : decode cL_law 841 = .ok (.aload_n 1, 1) := by decide +kernel
theorem dL_law_842 : decode cL_law 842 = .ok (.aload_n 0, 1) := by decide +kernel
theorem dL_law_843 : decode cL_law 843 = .ok (.iload_n 3, 1) := by decide +kernel
theorem dL_law_844 : decode cL_law 844 = .ok (.iconst 1, 1) := by decide +kernel
theorem dL_law_845 : decode cL_law 845 = .ok (.iadd, 1) := by decide +kernel
theorem dL_law_846 : decode cL_law 846 = .ok (.iaload, 1) := by decide +kernel
theorem dL_law_847 : decode cL_law 847 = .ok (.aload_n 0, 1) := by decide +kernel
theorem dL_law_848 : decode cL_law 848 = .ok (.iload_n 3, 1) := by decide +kernel
theorem dL_law_849 : decode cL_law 849 = .ok (.iconst 2, 1) := by decide +kernel
theorem dL_law_850 : decode cL_law 850 = .ok (.iadd, 1) := by decide +kernel
theorem dL_law_851 : decode cL_law 851 = .ok (.iaload, 1) := by decide +kernel
theorem dL_law_852 : decode cL_law 852 = .ok (.aload_n 0, 1) := by decide +kernel
theorem dL_law_853 : decode cL_law 853 = .ok (.iload_n 3, 1) := by decide +kernel
theorem dL_law_854 : decode cL_law 854 = .ok (.iconst 3, 1) := by decide +kernel
theorem dL_law_855 : decode cL_law 855 = .ok (.iadd, 1) := by decide +kernel
theorem dL_law_856 : decode cL_law 856 = .ok (.iaload, 1) := by decide +kernel
theorem dL_law_857 : decode cL_law 857 = .ok (.aload_n 0, 1) := by decide +kernel
theorem dL_law_858 : decode cL_law 858 = .ok (.iload_n 3, 1) := by decide +kernel
theorem dL_law_859 : decode cL_law 859 = .ok (.iconst 4, 1) := by decide +kernel
theorem dL_law_860 : decode cL_law 860 = .ok (.iadd, 1) := by decide +kernel
theorem dL_law_861 : decode cL_law 861 = .ok (.iaload, 1) := by decide +kernel
theorem dL_law_862 : decode cL_law 862 = .ok (.invokevirtual 108, 3) := by decide +kernel
theorem dL_law_865 : decode cL_law 865 = .ok (.aload_n 2, 1) := by decide +kernel
theorem dL_law_866 : decode cL_law 866 = .ok (.aload_n 0, 1) := by decide +kernel
theorem dL_law_867 : decode cL_law 867 = .ok (.iload_n 3, 1) := by decide +kernel
theorem dL_law_868 : decode cL_law 868 = .ok (.iconst 1, 1) := by decide +kernel
theorem dL_law_869 : decode cL_law 869 = .ok (.iadd, 1) := by decide +kernel
theorem dL_law_870 : decode cL_law 870 = .ok (.iaload, 1) := by decide +kernel
theorem dL_law_871 : decode cL_law 871 = .ok (.aload_n 0, 1) := by decide +kernel
theorem dL_law_872 : decode cL_law 872 = .ok (.iload_n 3, 1) := by decide +kernel
theorem dL_law_873 : decode cL_law 873 = .ok (.iconst 2, 1) := by decide +kernel
theorem dL_law_874 : decode cL_law 874 = .ok (.iadd, 1) := by decide +kernel
theorem dL_law_875 : decode cL_law 875 = .ok (.iaload, 1) := by decide +kernel
theorem dL_law_876 : decode cL_law 876 = .ok (.aload_n 0, 1) := by decide +kernel
theorem dL_law_877 : decode cL_law 877 = .ok (.iload_n 3, 1) := by decide +kernel
theorem dL_law_878 : decode cL_law 878 = .ok (.iconst 3, 1) := by decide +kernel
theorem dL_law_879 : decode cL_law 879 = .ok (.iadd, 1) := by decide +kernel
theorem dL_law_880 : decode cL_law 880 = .ok (.iaload, 1) := by decide +kernel
theorem dL_law_881 : decode cL_law 881 = .ok (.aload_n 0, 1) := by decide +kernel
theorem dL_law_882 : decode cL_law 882 = .ok (.iload_n 3, 1) := by decide +kernel
theorem dL_law_883 : decode cL_law 883 = .ok (.iconst 4, 1) := by decide +kernel
theorem dL_law_884 : decode cL_law 884 = .ok (.iadd, 1) := by decide +kernel
theorem dL_law_885 : decode cL_law 885 = .ok (.iaload, 1) := by decide +kernel
theorem dL_law_886 : decode cL_law 886 = .ok (.invokevirtual 112, 3) := by decide +kernel
theorem dL_law_889 : decode cL_law 889 = .ok (.if_icmp .eq 155, 3) := by decide +kernel
theorem dL_law_892 : decode cL_law 892 = .ok (.iconst 0, 1) := by decide +kernel
theorem dL_law_893 : decode cL_law 893 = .ok (.ireturn, 1) := by decide +kernel
theorem dL_law_894 : decode cL_law 894 = .ok (.aload_n 1, 1) := by decide +kernel
theorem dL_law_895 : decode cL_law 895 = .ok (.aload_n 0, 1) := by decide +kernel
theorem dL_law_896 : decode cL_law 896 = .ok (.iload_n 3, 1) := by decide +kernel
theorem dL_law_897 : decode cL_law 897 = .ok (.iconst 1, 1) := by decide +kernel
theorem dL_law_898 : decode cL_law 898 = .ok (.iadd, 1) := by decide +kernel
theorem dL_law_899 : decode cL_law 899 = .ok (.iaload, 1) := by decide +kernel
theorem dL_law_900 : decode cL_law 900 = .ok (.aload_n 0, 1) := by decide +kernel
theorem dL_law_901 : decode cL_law 901 = .ok (.iload_n 3, 1) := by decide +kernel
theorem dL_law_902 : decode cL_law 902 = .ok (.iconst 2, 1) := by decide +kernel
theorem dL_law_903 : decode cL_law 903 = .ok (.iadd, 1) := by decide +kernel
theorem dL_law_904 : decode cL_law 904 = .ok (.iaload, 1) := by decide +kernel
theorem dL_law_905 : decode cL_law 905 = .ok (.invokevirtual 113, 3) := by decide +kernel
theorem dL_law_908 : decode cL_law 908 = .ok (.aload_n 2, 1) := by decide +kernel
theorem dL_law_909 : decode cL_law 909 = .ok (.aload_n 0, 1) := by decide +kernel
theorem dL_law_910 : decode cL_law 910 = .ok (.iload_n 3, 1) := by decide +kernel
theorem dL_law_911 : decode cL_law 911 = .ok (.iconst 1, 1) := by decide +kernel
theorem dL_law_912 : decode cL_law 912 = .ok (.iadd, 1) := by decide +kernel
theorem dL_law_913 : decode cL_law 913 = .ok (.iaload, 1) := by decide +kernel
theorem dL_law_914 : decode cL_law 914 = .ok (.aload_n 0, 1) := by decide +kernel
theorem dL_law_915 : decode cL_law 915 = .ok (.iload_n 3, 1) := by decide +kernel
theorem dL_law_916 : decode cL_law 916 = .ok (.iconst 2, 1) := by decide +kernel
theorem dL_law_917 : decode cL_law 917 = .ok (.iadd, 1) := by decide +kernel
theorem dL_law_918 : decode cL_law 918 = .ok (.iaload, 1) := by decide +kernel
theorem dL_law_919 : decode cL_law 919 = .ok (.invokevirtual 116, 3) := by decide +kernel
theorem dL_law_922 : decode cL_law 922 = .ok (.if_icmp .eq 122, 3) := by decide +kernel
theorem dL_law_925 : decode cL_law 925 = .ok (.iconst 0, 1) := by decide +kernel
theorem dL_law_926 : decode cL_law 926 = .ok (.ireturn, 1) := by decide +kernel
theorem dL_law_927 : decode cL_law 927 = .ok (.aload_n 1, 1) := by decide +kernel
theorem dL_law_928 : decode cL_law 928 = .ok (.aload_n 0, 1) := by decide +kernel
theorem dL_law_929 : decode cL_law 929 = .ok (.iload_n 3, 1) := by decide +kernel
theorem dL_law_930 : decode cL_law 930 = .ok (.iconst 1, 1) := by decide +kernel
theorem dL_law_931 : decode cL_law 931 = .ok (.iadd, 1) := by decide +kernel
theorem dL_law_932 : decode cL_law 932 = .ok (.iaload, 1) := by decide +kernel
theorem dL_law_933 : decode cL_law 933 = .ok (.invokevirtual 117, 3) := by decide +kernel
theorem dL_law_936 : decode cL_law 936 = .ok (.aload_n 2, 1) := by decide +kernel
theorem dL_law_937 : decode cL_law 937 = .ok (.aload_n 0, 1) := by decide +kernel
theorem dL_law_938 : decode cL_law 938 = .ok (.iload_n 3, 1) := by decide +kernel
theorem dL_law_939 : decode cL_law 939 = .ok (.iconst 1, 1) := by decide +kernel
theorem dL_law_940 : decode cL_law 940 = .ok (.iadd, 1) := by decide +kernel
theorem dL_law_941 : decode cL_law 941 = .ok (.iaload, 1) := by decide +kernel
theorem dL_law_942 : decode cL_law 942 = .ok (.invokevirtual 120, 3) := by decide +kernel
theorem dL_law_945 : decode cL_law 945 = .ok (.if_icmp .eq 99, 3) := by decide +kernel
theorem dL_law_948 : decode cL_law 948 = .ok (.iconst 0, 1) := by decide +kernel
theorem dL_law_949 : decode cL_law 949 = .ok (.ireturn, 1) := by decide +kernel
theorem dL_law_950 : decode cL_law 950 = .ok (.aload_n 1, 1) := by decide +kernel
theorem dL_law_951 : decode cL_law 951 = .ok (.invokevirtual 121, 3) := by decide +kernel
theorem dL_law_954 : decode cL_law 954 = .ok (.aload_n 2, 1) := by decide +kernel
theorem dL_law_955 : decode cL_law 955 = .ok (.invokevirtual 124, 3) := by decide +kernel
theorem dL_law_958 : decode cL_law 958 = .ok (.if_icmp .eq 86, 3) := by decide +kernel
theorem dL_law_961 : decode cL_law 961 = .ok (.iconst 0, 1) := by decide +kernel
theorem dL_law_962 : decode cL_law 962 = .ok (.ireturn, 1) := by decide +kernel
theorem dL_law_963 : decode cL_law 963 = .ok (.aload_n 1, 1) := by decide +kernel
theorem dL_law_964 : decode cL_law 964 = .ok (.invokevirtual 125, 3) := by decide +kernel
theorem dL_law_967 : decode cL_law 967 = .ok (.aload_n 2, 1) := by decide +kernel
theorem dL_law_968 : decode cL_law 968 = .ok (.invokevirtual 129, 3) := by decide +kernel
theorem dL_law_971 : decode cL_law 971 = .ok (.lcmp, 1) := by decide +kernel
theorem dL_law_972 : decode cL_law 972 = .ok (.ifCond .eq 72, 3) := by decide +kernel
theorem dL_law_975 : decode cL_law 975 = .ok (.iconst 0, 1) := by decide +kernel
theorem dL_law_976 : decode cL_law 976 = .ok (.ireturn, 1) := by decide +kernel
theorem dL_law_977 : decode cL_law 977 = .ok (.aload_n 1, 1) := by decide +kernel
theorem dL_law_978 : decode cL_law 978 = .ok (.invokevirtual 130, 3) := by decide +kernel
theorem dL_law_981 : decode cL_law 981 = .ok (.aload_n 2, 1) := by decide +kernel
theorem dL_law_982 : decode cL_law 982 = .ok (.invokevirtual 133, 3) := by decide +kernel
theorem dL_law_985 : decode cL_law 985 = .ok (.lcmp, 1) := by decide +kernel
theorem dL_law_986 : decode cL_law 986 = .ok (.ifCond .eq 58, 3) := by decide +kernel
theorem dL_law_989 : decode cL_law 989 = .ok (.iconst 0, 1) := by decide +kernel
theorem dL_law_990 : decode cL_law 990 = .ok (.ireturn, 1) := by decide +kernel
theorem dL_law_991 : decode cL_law 991 = .ok (.aload_n 1, 1) := by decide +kernel
theorem dL_law_992 : decode cL_law 992 = .ok (.invokevirtual 134, 3) := by decide +kernel
theorem dL_law_995 : decode cL_law 995 = .ok (.aload_n 2, 1) := by decide +kernel
theorem dL_law_996 : decode cL_law 996 = .ok (.invokevirtual 137, 3) := by decide +kernel
theorem dL_law_999 : decode cL_law 999 = .ok (.lcmp, 1) := by decide +kernel
theorem dL_law_1000 : decode cL_law 1000 = .ok (.ifCond .eq 44, 3) := by decide +kernel
theorem dL_law_1003 : decode cL_law 1003 = .ok (.iconst 0, 1) := by decide +kernel
theorem dL_law_1004 : decode cL_law 1004 = .ok (.ireturn, 1) := by decide +kernel
theorem dL_law_1005 : decode cL_law 1005 = .ok (.aload_n 1, 1) := by decide +kernel
theorem dL_law_1006 : decode cL_law 1006 = .ok (.invokevirtual 138, 3) := by decide +kernel
theorem dL_law_1009 : decode cL_law 1009 = .ok (.aload_n 2, 1) := by decide +kernel
theorem dL_law_1010 : decode cL_law 1010 = .ok (.invokevirtual 141, 3) := by decide +kernel
theorem dL_law_1013 : decode cL_law 1013 = .ok (.if_icmp .eq 31, 3) := by decide +kernel
theorem dL_law_1016 : decode cL_law 1016 = .ok (.iconst 0, 1) := by decide +kernel
theorem dL_law_1017 : decode cL_law 1017 = .ok (.ireturn, 1) := by decide +kernel
theorem dL_law_1018 : decode cL_law 1018 = .ok (.aload_n 1, 1) := by decide +kernel
theorem dL_law_1019 : decode cL_law 1019 = .ok (.invokevirtual 142, 3) := by decide +kernel
theorem dL_law_1022 : decode cL_law 1022 = .ok (.aload_n 2, 1) := by decide +kernel
theorem dL_law_1023 : decode cL_law 1023 = .ok (.invokevirtual 145, 3) := by decide +kernel
theorem dL_law_1026 : decode cL_law 1026 = .ok (.if_icmp .eq 18, 3) := by decide +kernel
theorem dL_law_1029 : decode cL_law 1029 = .ok (.iconst 0, 1) := by decide +kernel
theorem dL_law_1030 : decode cL_law 1030 = .ok (.ireturn, 1) := by decide +kernel
theorem dL_law_1031 : decode cL_law 1031 = .ok (.aload_n 1, 1) := by decide +kernel
theorem dL_law_1032 : decode cL_law 1032 = .ok (.invokevirtual 146, 3) := by decide +kernel
theorem dL_law_1035 : decode cL_law 1035 = .ok (.aload_n 2, 1) := by decide +kernel
theorem dL_law_1036 : decode cL_law 1036 = .ok (.invokevirtual 149, 3) := by decide +kernel
theorem dL_law_1039 : decode cL_law 1039 = .ok (.if_icmp .eq 5, 3) := by decide +kernel
theorem dL_law_1042 : decode cL_law 1042 = .ok (.iconst 0, 1) := by decide +kernel
theorem dL_law_1043 : decode cL_law 1043 = .ok (.ireturn, 1) := by decide +kernel
theorem dL_law_1044 : decode cL_law 1044 = .ok (.iinc 3 5, 3) := by decide +kernel
theorem dL_law_1047 : decode cL_law 1047 = .ok (.goto (-1029), 3) := by decide +kernel
theorem dL_law_1050 : decode cL_law 1050 = .ok (.iconst 1, 1) := by decide +kernel
theorem dL_law_1051 : decode cL_law 1051 = .ok (.ireturn, 1) := by decide +kernel
end
section
/-! numbers: a Java int or long as the image of a whole number -/
def zI (z : Int) : Int32 := Int32.ofInt z
def zJ (z : Int) : Int64 := Int64.ofInt z
theorem zI_toInt {a : Int} (h1 : -2147483648 ≤ a) (h2 : a ≤ 2147483647) : (zI a).toInt = a := Int32.toInt_ofInt_of_le (by omega) (by omega)
theorem zJ_toInt {a : Int} (h1 : -9223372036854775808 ≤ a) (h2 : a ≤ 9223372036854775807) : (zJ a).toInt = a := Int64.toInt_ofInt_of_le (by omega) (by omega)
theorem zI_add (a b : Int) : zI a + zI b = zI (a + b) := (Int32.ofInt_add ..).symm
theorem zI_sub (a b : Int) : zI a - zI b = zI (a - b) := (Int32.ofInt_sub ..).symm
theorem zI_mul (a b : Int) : zI a * zI b = zI (a * b) := (Int32.ofInt_mul ..).symm
theorem zI_neg (a : Int) : - zI a = zI (-a) := (Int32.ofInt_neg ..).symm
theorem zJ_add (a b : Int) : zJ a + zJ b = zJ (a + b) := (Int64.ofInt_add ..).symm
theorem zJ_sub (a b : Int) : zJ a - zJ b = zJ (a - b) := (Int64.ofInt_sub ..).symm
theorem zJ_mul (a b : Int) : zJ a * zJ b = zJ (a * b) := (Int64.ofInt_mul ..).symm
theorem zI_le {a b : Int} (ha : -2147483648 ≤ a ∧ a ≤ 2147483647) (hb : -2147483648 ≤ b ∧ b ≤ 2147483647) : zI a ≤ zI b ↔ a ≤ b := by
  rw [Int32.le_iff_toInt_le, zI_toInt ha.1 ha.2, zI_toInt hb.1 hb.2]
theorem zI_lt {a b : Int} (ha : -2147483648 ≤ a ∧ a ≤ 2147483647) (hb : -2147483648 ≤ b ∧ b ≤ 2147483647) : zI a < zI b ↔ a < b := by
  rw [Int32.lt_iff_toInt_lt, zI_toInt ha.1 ha.2, zI_toInt hb.1 hb.2]
theorem zI_inj {a b : Int} (ha : -2147483648 ≤ a ∧ a ≤ 2147483647) (hb : -2147483648 ≤ b ∧ b ≤ 2147483647) : zI a = zI b ↔ a = b := by
  rw [← Int32.toInt_inj, zI_toInt ha.1 ha.2, zI_toInt hb.1 hb.2]
theorem zJ_lt {a b : Int} (ha : -9223372036854775808 ≤ a ∧ a ≤ 9223372036854775807) (hb : -9223372036854775808 ≤ b ∧ b ≤ 9223372036854775807) : zJ a < zJ b ↔ a < b := by
  rw [Int64.lt_iff_toInt_lt, zJ_toInt ha.1 ha.2, zJ_toInt hb.1 hb.2]
theorem zJ_inj {a b : Int} (ha : -9223372036854775808 ≤ a ∧ a ≤ 9223372036854775807) (hb : -9223372036854775808 ≤ b ∧ b ≤ 9223372036854775807) : zJ a = zJ b ↔ a = b := by
  rw [← Int64.toInt_inj, zJ_toInt ha.1 ha.2, zJ_toInt hb.1 hb.2]
theorem zI_div {a b : Int} (ha : 0 ≤ a ∧ a ≤ 2147483647) (hb : 0 < b ∧ b ≤ 2147483647) : zI a / zI b = zI (a / b) := by
  have e : a / b = a.tdiv b := (Int.tdiv_eq_ediv_of_nonneg ha.1).symm
  rw [e]
  exact (Int32.ofInt_tdiv (by show (-2147483648 : Int) ≤ a; omega) (by show a ≤ (2147483647 : Int); omega) (by show (-2147483648 : Int) ≤ b; omega) (by show b ≤ (2147483647 : Int); omega)).symm
theorem zJ_div {a b : Int} (ha : 0 ≤ a ∧ a ≤ 9223372036854775807) (hb : 0 < b ∧ b ≤ 9223372036854775807) : zJ a / zJ b = zJ (a / b) := by
  have e : a / b = a.tdiv b := (Int.tdiv_eq_ediv_of_nonneg ha.1).symm
  rw [e]
  exact (Int64.ofInt_tdiv (by show (-9223372036854775808 : Int) ≤ a; omega) (by show a ≤ (9223372036854775807 : Int); omega) (by show (-9223372036854775808 : Int) ≤ b; omega) (by show b ≤ (9223372036854775807 : Int); omega)).symm
theorem zI_0 : (0 : Int32) = zI 0 := rfl
theorem zI_ne0 {a : Int} (ha : -2147483648 ≤ a ∧ a ≤ 2147483647) (h : a ≠ 0) : ¬ zI a = 0 := by
  rw [zI_0, zI_inj ha ⟨by omega, by omega⟩]; exact h
theorem zJ_ne0 {a : Int} (ha : -9223372036854775808 ≤ a ∧ a ≤ 9223372036854775807) (h : a ≠ 0) : ¬ zJ a = 0 := by
  rw [show (0 : Int64) = zJ 0 from rfl, zJ_inj ha ⟨by omega, by omega⟩]; exact h
theorem zI_clamp {a : Int} (h1 : 0 ≤ a) (h2 : a ≤ 2147483647) : (zI a).toNatClampNeg = a.toNat := by
  show (zI a).toInt.toNat = a.toNat
  rw [zI_toInt (by omega) h2]
theorem zI_in {a : Int} {n : Nat} (h1 : 0 ≤ a) (h2 : a < n) (h3 : a ≤ 2147483647) : vp_in (zI a) n := by
  intro h
  rcases h with h | h
  · rw [zI_0, zI_lt ⟨by omega, by omega⟩ ⟨by omega, by omega⟩] at h; omega
  · rw [zI_clamp h1 h3] at h; omega
theorem zI_i2l {a : Int} (h1 : -2147483648 ≤ a) (h2 : a ≤ 2147483647) : (zI a).toInt64 = zJ a := Int32.toInt64_ofInt (by show (-2147483648 : Int) ≤ a; omega) (by show a ≤ (2147483647 : Int); omega)
theorem zJ_l2i (a : Int) : (zJ a).toInt32 = zI a := Int64.toInt32_ofInt
theorem zI_max {a b : Int} (ha : -2147483648 ≤ a ∧ a ≤ 2147483647) (hb : -2147483648 ≤ b ∧ b ≤ 2147483647) : (if zI a < zI b then zI b else zI a) = zI (max a b) := by
  by_cases h : a < b
  · rw [if_pos ((zI_lt ha hb).mpr h)]; congr 1; omega
  · rw [if_neg (fun q => h ((zI_lt ha hb).mp q))]; congr 1; omega
theorem zI_ex (x : Int32) : ∃ z : Int, (-2147483648 ≤ z ∧ z ≤ 2147483647) ∧ x = zI z := ⟨x.toInt, ⟨by have := x.le_toInt; omega, by have := x.toInt_lt; omega⟩, (Int32.ofInt_toInt x).symm⟩
/-- a row of whole numbers, changed at one place -/
def zup (F : Int → Int) (i v : Int) : Int → Int := fun j => if j = i then v else F j
theorem zup_s (F : Int → Int) (i v : Int) : zup F i v i = v := if_pos rfl
theorem zup_n (F : Int → Int) {i j : Int} (v : Int) (h : j ≠ i) : zup F i v j = F j := if_neg h
/-- a table of rows, changed at one place of one row -/
def up (σ : Nat → Int → Int) (f : Nat) (i v : Int) : Nat → Int → Int := fun g => if g = f then zup (σ f) i v else σ g
theorem up_r (σ : Nat → Int → Int) (f : Nat) (i v : Int) : up σ f i v f = zup (σ f) i v := if_pos rfl
theorem up_o (σ : Nat → Int → Int) {f g : Nat} (i v : Int) (h : g ≠ f) : up σ f i v g = σ g := if_neg h
theorem zup_row32 (F : Int → Int) {i : Int} (h : 0 ≤ i) (v : Int) : upd (fun k : Nat => zI (F k)) i.toNat (zI v) = fun k : Nat => zI (zup F i v k) := by
  funext k
  unfold upd zup
  by_cases hk : k = i.toNat
  · have : (k : Int) = i := by omega
    rw [if_pos hk, if_pos this]
  · have : ¬ (k : Int) = i := by omega
    rw [if_neg hk, if_neg this]
theorem zup_row64 (F : Int → Int) {i : Int} (h : 0 ≤ i) (v : Int) : vp_updL (fun k : Nat => zJ (F k)) i.toNat (zJ v) = fun k : Nat => zJ (zup F i v k) := by
  funext k
  unfold vp_updL zup
  by_cases hk : k = i.toNat
  · have : (k : Int) = i := by omega
    rw [if_pos hk, if_pos this]
  · have : ¬ (k : Int) = i := by omega
    rw [if_neg hk, if_neg this]
end
section
/-! a method's walk with its whole machine tucked away: world, place, locals, stack -/
def gT (cy : Nat → ClassId) : List (ClassId × FieldType) := [(cy 0, .int), (cy 1, .long), (cy 2, .boolean), (cy 3, .object "PvArray$PvModule"), (cy 4, .object "PvArray$PvString")]
def gtb : List Cond := lw_tbl.filter goodWord
def gisN : Cond → Bool
  | .fieldLinkNest .. => true
  | .methodLinkNest .. => true
  | .declares _ => true
  | _ => false
def gnt : List Cond := lw_tbl.filter gisN
def gK (D : va_G) (cy : Nat → ClassId) (U : State) : Prop := va_K D vwCl (gT cy) U ∧ ∀ x ∈ gnt, va_Nw x U
theorem gisN_warm {x : Cond} (hx : gisN x = true) {s U : State} (hW : s.WarmedH U.vm) (h : va_Nw x s) : va_Nw x U := by
  cases x with
  | fieldLinkNest a i b n d hh => exact va_Nw.warmF hW h
  | methodLinkNest a i y hh => exact va_Nw.warmM hW h
  | declares y => exact va_Nw.warmD hW h
  | _ => cases hx
theorem gisN_same {x : Cond} (hx : gisN x = true) {s U : State} (hW : s.vm = U.vm) (h : va_Nw x s) : va_Nw x U := by
  cases x with
  | fieldLinkNest a i b n d hh => exact va_Nw.same rfl hW h
  | methodLinkNest a i y hh => exact va_Nw.same rfl hW h
  | declares y => exact va_Nw.same rfl hW h
  | _ => cases hx
theorem gK.warm {D : va_G} {cy : Nat → ClassId} {s U : State} (hW : s.WarmedH U.vm) (h : gK D cy s) : gK D cy U := ⟨va_K.moved hW.alike h.1, fun x hx => gisN_warm (List.mem_filter.mp hx).2 hW (h.2 x hx)⟩
theorem gK.same {D : va_G} {cy : Nat → ClassId} {s U : State} (hW : s.vm = U.vm) (h : gK D cy s) : gK D cy U := ⟨va_K.moved (by rw [hW]; exact Vm.Alike.refl U.vm) h.1, fun x hx => gisN_same (List.mem_filter.mp hx).2 hW (h.2 x hx)⟩
def gQ (D : va_G) (w0 : va_W) (Q : Option Value → va_W → Prop) : Array Value → State → Outcome → State → Prop := fun _ st oc t => ∃ (v : Option Value) (w' : va_W), oc = .returned v ∧ Q v w' ∧ va_P D vwCl w' t.heap ∧ va_D (va_A w0 st.heap.size) w' ∧ va_F (va_A w0 st.heap.size) st t
def gC (D : va_G) (cy : Nat → ClassId) (cc : ByteArray) (nL : Nat) (own : String) (ret : Option FieldType) (p : Program) (s : State) (m : MethodId) (args : Array Value) (meth : Method) (c : Code) : Prop :=
  p.tables.exec = Jvm.exec ∧ c.code = cc ∧ c.maxLocals = nL ∧ meth.sig.returnType = ret ∧ meth.locks = false ∧ s.vm.findClass own = some m.cls ∧ (∀ x ∈ gtb, x.before args s = true) ∧ gK D cy s
def GO (D : va_G) (cy : Nat → ClassId) (l : Launch) (R : Room) (cc : ByteArray) (nL : Nat) (own : String) (ret : Option FieldType) (w0 : va_W) (Q : Option Value → va_W → Prop) (w : va_W) (pc : Nat) (lv : List (Nat × Value)) (st : List Value) : Prop :=
  ∀ (p : Program) (e : Env) (s : State) (m : MethodId) (args : Array Value) (below : List Frame) (meth : Method) (c : Code) (H : Heap) (locs : List Loc) (ls : Array Slot),
    gC D cy cc nL own ret p s m args meth c → va_P D vwCl w H → va_D (va_A w0 s.heap.size) w → va_S (va_A w0 s.heap.size) s.heap H locs → lv_has ls nL lv →
    W p l e R s m args below meth c H locs 0 0 (MQ below (gQ D w0 Q) args s 0 0 (va_A w0 s.heap.size)) (F0 m pc ls st)
/-- a method's contract: from the world w0, with these arguments, it returns v and the world w' with Q v w' -/
def Con (D : va_G) (cy : Nat → ClassId) (l : Launch) (y : MethodName) (cc : ByteArray) (nL : Nat) (ret : Option FieldType) (rm : Room) (av : List Value) (w0 : va_W) (Q : Option Value → va_W → Prop) : Prop :=
  ∀ sz : Nat, Met l y (.code y cc nL ret :: gtb) rm (va_Pc av (fun U => U.heap.size = sz ∧ va_P D vwCl w0 U.heap ∧ gK D cy U ∧ va_D (fun _ => True) w0)) (gQ D w0 Q) 0 0 (va_A w0 sz)
theorem gD_weaken {A B : Nat → Prop} {w : va_W} (h : va_D A w) (hAB : ∀ q, A q → B q) : va_D B w := ⟨h.1, fun k q hk => hAB _ (h.2 k q hk)⟩
theorem Con.of {D : va_G} {cy : Nat → ClassId} {l : Launch} {y : MethodName} {cc : ByteArray} {nL : Nat} {ret : Option FieldType} {rm : Room} {av : List Value} {w0 : va_W} {Q : Option Value → va_W → Prop} {lv : List (Nat × Value)}
    (hy : plainName y.cls = true) (hn : (lg_sl av).length ≤ nL) (hlv : lv_args 0 av = lv) (k : GO D cy l rm cc nL y.cls ret w0 Q w0 0 lv []) : Con D cy l y cc nL ret rm av w0 Q := by
  intro sz
  refine Met.ofW (cc := cc) (maxL := nL) (ret := ret) hy rfl ?_
  intro p e s m args below meth c s₁ B hml hv
  obtain ⟨rfl, hsz, hP, hK, hD0⟩ := hv
  subst hsz
  have hts := atoms_spec (ws := .code y cc nL ret :: gtb) B.pre
  have hl := lv_entry av (n := nL) hn
  rw [lg_entry_eq]
  rw [hlv] at hl
  exact k p e s m _ below meth c s.heap [] _ ⟨B.exec, B.bytes, hml, B.returns, B.notSynchronized, findClass_of_methodNamed B.named, fun x hx => hts x (List.mem_cons_of_mem _ hx), hK⟩ hP hD0.self va_S.rf hl
section GOR
variable {D : va_G} {cy : Nat → ClassId} {l : Launch} {R : Room} {cc : ByteArray} {nL : Nat} {own : String} {ret : Option FieldType} {w0 : va_W} {Q : Option Value → va_W → Prop} {w : va_W} {pc : Nat} {lv lv' : List (Nat × Value)} {st : List Value}
theorem g_iconst {n : Int} (hd : decode cc pc = .ok (.iconst n, 1)) (k : GO D cy l R cc nL own ret w0 Q w (pc + 1) lv (.int (zI n) :: st)) : GO D cy l R cc nL own ret w0 Q w pc lv st := by
  intro p e s m args below meth c H locs ls C hP hD hS hl
  exact lv_iconst C.1 C.2.1 hd rfl (k p e s m args below meth c H locs ls C hP hD hS hl)
theorem g_bipush {n : Int} (hd : decode cc pc = .ok (.bipush n, 2)) (hn : -128 ≤ n ∧ n ≤ 127) (k : GO D cy l R cc nL own ret w0 Q w (pc + 2) lv (.int (zI n) :: st)) : GO D cy l R cc nL own ret w0 Q w pc lv st := by
  intro p e s m args below meth c H locs ls C hP hD hS hl
  exact lv_bipush C.1 C.2.1 hd (Int8.toInt32_ofInt (by show (-128 : Int) ≤ n; omega) (by show n ≤ (127 : Int); omega)) (k p e s m args below meth c H locs ls C hP hD hS hl)
theorem g_sipush {n : Int} (hd : decode cc pc = .ok (.sipush n, 3)) (hn : -32768 ≤ n ∧ n ≤ 32767) (k : GO D cy l R cc nL own ret w0 Q w (pc + 3) lv (.int (zI n) :: st)) : GO D cy l R cc nL own ret w0 Q w pc lv st := by
  intro p e s m args below meth c H locs ls C hP hD hS hl
  exact lv_sipush C.1 C.2.1 hd (Int16.toInt32_ofInt (by show (-32768 : Int) ≤ n; omega) (by show n ≤ (32767 : Int); omega)) (k p e s m args below meth c H locs ls C hP hD hS hl)
theorem g_lconst {n : Fin 2} {z : Int} (hd : decode cc pc = .ok (.lconst n, 1)) (hz : z = ((n : Nat) : Int)) (k : GO D cy l R cc nL own ret w0 Q w (pc + 1) lv (.long (zJ z) :: st)) : GO D cy l R cc nL own ret w0 Q w pc lv st := by
  intro p e s m args below meth c H locs ls C hP hD hS hl
  subst hz
  exact lv_lconst C.1 C.2.1 hd (by simp [zJ, Int64.ofInt_eq_ofNat]) (k p e s m args below meth c H locs ls C hP hD hS hl)
theorem g_iload_n {i : Fin 4} {x : Int32} (hd : decode cc pc = .ok (.iload_n i, 1)) (q : Nat) (hv : lv[q]? = some ((i : Nat), .int x)) (k : GO D cy l R cc nL own ret w0 Q w (pc + 1) lv (.int x :: st)) : GO D cy l R cc nL own ret w0 Q w pc lv st := by
  intro p e s m args below meth c H locs ls C hP hD hS hl
  exact lv_iload_n C.1 C.2.1 hd rfl (lv_at hl q hv) (k p e s m args below meth c H locs ls C hP hD hS hl)
theorem g_iload {i : Nat} {x : Int32} (hd : decode cc pc = .ok (.iload i, 2)) (q : Nat) (hv : lv[q]? = some (i, .int x)) (k : GO D cy l R cc nL own ret w0 Q w (pc + 2) lv (.int x :: st)) : GO D cy l R cc nL own ret w0 Q w pc lv st := by
  intro p e s m args below meth c H locs ls C hP hD hS hl
  exact lv_iload C.1 C.2.1 hd (lv_at hl q hv) (k p e s m args below meth c H locs ls C hP hD hS hl)
theorem g_lload_n {i : Fin 4} {x : Int64} (hd : decode cc pc = .ok (.lload_n i, 1)) (q : Nat) (hv : lv[q]? = some ((i : Nat), .long x)) (k : GO D cy l R cc nL own ret w0 Q w (pc + 1) lv (.long x :: st)) : GO D cy l R cc nL own ret w0 Q w pc lv st := by
  intro p e s m args below meth c H locs ls C hP hD hS hl
  exact lv_lload_n C.1 C.2.1 hd rfl (lv_at hl q hv) (k p e s m args below meth c H locs ls C hP hD hS hl)
theorem g_lload {i : Nat} {x : Int64} (hd : decode cc pc = .ok (.lload i, 2)) (q : Nat) (hv : lv[q]? = some (i, .long x)) (k : GO D cy l R cc nL own ret w0 Q w (pc + 2) lv (.long x :: st)) : GO D cy l R cc nL own ret w0 Q w pc lv st := by
  intro p e s m args below meth c H locs ls C hP hD hS hl
  exact lv_lload C.1 C.2.1 hd (lv_at hl q hv) (k p e s m args below meth c H locs ls C hP hD hS hl)
theorem g_aload_n {i : Fin 4} {x : Nat} (hd : decode cc pc = .ok (.aload_n i, 1)) (q : Nat) (hv : lv[q]? = some ((i : Nat), .ref x)) (k : GO D cy l R cc nL own ret w0 Q w (pc + 1) lv (.ref x :: st)) : GO D cy l R cc nL own ret w0 Q w pc lv st := by
  intro p e s m args below meth c H locs ls C hP hD hS hl
  exact lv_aload_n C.1 C.2.1 hd rfl (lv_at hl q hv) (k p e s m args below meth c H locs ls C hP hD hS hl)
theorem g_aload {i : Nat} {x : Nat} (hd : decode cc pc = .ok (.aload i, 2)) (q : Nat) (hv : lv[q]? = some (i, .ref x)) (k : GO D cy l R cc nL own ret w0 Q w (pc + 2) lv (.ref x :: st)) : GO D cy l R cc nL own ret w0 Q w pc lv st := by
  intro p e s m args below meth c H locs ls C hP hD hS hl
  exact lv_aload C.1 C.2.1 hd (lv_at hl q hv) (k p e s m args below meth c H locs ls C hP hD hS hl)
theorem g_istore_n {i : Fin 4} {x : Int32} (hd : decode cc pc = .ok (.istore_n i, 1)) (hn : (i : Nat) < nL) (hv : ((i : Nat), Value.int x) :: lv.filter (fun q => !(q.1 == (i : Nat)) && !(q.1 + 1 == (i : Nat) && q.2.category == 2)) = lv') (k : GO D cy l R cc nL own ret w0 Q w (pc + 1) lv' st) : GO D cy l R cc nL own ret w0 Q w pc lv (.int x :: st) := by
  intro p e s m args below meth c H locs ls C hP hD hS hl
  exact lv_istore_n C.1 C.2.1 hd rfl hl hn hv (fun ls' hl' => k p e s m args below meth c H locs ls' C hP hD hS hl')
theorem g_istore {i : Nat} {x : Int32} (hd : decode cc pc = .ok (.istore i, 2)) (hn : i < nL) (hv : (i, Value.int x) :: lv.filter (fun q => !(q.1 == i) && !(q.1 + 1 == i && q.2.category == 2)) = lv') (k : GO D cy l R cc nL own ret w0 Q w (pc + 2) lv' st) : GO D cy l R cc nL own ret w0 Q w pc lv (.int x :: st) := by
  intro p e s m args below meth c H locs ls C hP hD hS hl
  exact lv_istore C.1 C.2.1 hd hl hn hv (fun ls' hl' => k p e s m args below meth c H locs ls' C hP hD hS hl')
theorem g_lstore_n {i : Fin 4} {x : Int64} (hd : decode cc pc = .ok (.lstore_n i, 1)) (hn : (i : Nat) + 1 < nL) (hv : ((i : Nat), Value.long x) :: lv.filter (fun q => !(q.1 == (i : Nat)) && (!(q.1 == (i : Nat) + 1) && !(q.1 + 1 == (i : Nat) && q.2.category == 2))) = lv') (k : GO D cy l R cc nL own ret w0 Q w (pc + 1) lv' st) : GO D cy l R cc nL own ret w0 Q w pc lv (.long x :: st) := by
  intro p e s m args below meth c H locs ls C hP hD hS hl
  exact lv_lstore_n C.1 C.2.1 hd rfl hl hn hv (fun ls' hl' => k p e s m args below meth c H locs ls' C hP hD hS hl')
theorem g_lstore {i : Nat} {x : Int64} (hd : decode cc pc = .ok (.lstore i, 2)) (hn : i + 1 < nL) (hv : (i, Value.long x) :: lv.filter (fun q => !(q.1 == i) && (!(q.1 == i + 1) && !(q.1 + 1 == i && q.2.category == 2))) = lv') (k : GO D cy l R cc nL own ret w0 Q w (pc + 2) lv' st) : GO D cy l R cc nL own ret w0 Q w pc lv (.long x :: st) := by
  intro p e s m args below meth c H locs ls C hP hD hS hl
  exact lv_lstore C.1 C.2.1 hd hl hn hv (fun ls' hl' => k p e s m args below meth c H locs ls' C hP hD hS hl')
theorem g_astore_n {i : Fin 4} {x : Nat} (hd : decode cc pc = .ok (.astore_n i, 1)) (hn : (i : Nat) < nL) (hv : ((i : Nat), Value.ref x) :: lv.filter (fun q => !(q.1 == (i : Nat)) && !(q.1 + 1 == (i : Nat) && q.2.category == 2)) = lv') (k : GO D cy l R cc nL own ret w0 Q w (pc + 1) lv' st) : GO D cy l R cc nL own ret w0 Q w pc lv (.ref x :: st) := by
  intro p e s m args below meth c H locs ls C hP hD hS hl
  exact lv_astore_n C.1 C.2.1 hd rfl hl hn hv (fun ls' hl' => k p e s m args below meth c H locs ls' C hP hD hS hl')
theorem g_astore {i : Nat} {x : Nat} (hd : decode cc pc = .ok (.astore i, 2)) (hn : i < nL) (hv : (i, Value.ref x) :: lv.filter (fun q => !(q.1 == i) && !(q.1 + 1 == i && q.2.category == 2)) = lv') (k : GO D cy l R cc nL own ret w0 Q w (pc + 2) lv' st) : GO D cy l R cc nL own ret w0 Q w pc lv (.ref x :: st) := by
  intro p e s m args below meth c H locs ls C hP hD hS hl
  exact lv_astore C.1 C.2.1 hd hl hn hv (fun ls' hl' => k p e s m args below meth c H locs ls' C hP hD hS hl')
theorem g_iinc {i : Nat} {n z : Int} (hd : decode cc pc = .ok (.iinc i n, 3)) (hn : i < nL) (q : Nat) (hq : lv[q]? = some (i, .int (zI z))) (hv : (i, Value.int (zI (z + n))) :: lv.filter (fun q => !(q.1 == i) && !(q.1 + 1 == i && q.2.category == 2)) = lv') (k : GO D cy l R cc nL own ret w0 Q w (pc + 3) lv' st) : GO D cy l R cc nL own ret w0 Q w pc lv st := by
  intro p e s m args below meth c H locs ls C hP hD hS hl
  exact lv_iinc C.1 C.2.1 hd hl hq (zI_add z n) hn hv (fun ls' hl' => k p e s m args below meth c H locs ls' C hP hD hS hl')
/-- fewer locals, or in another order -/
theorem g_sub (ks : List Nat) (hv : lv_pick lv ks = lv') (k : GO D cy l R cc nL own ret w0 Q w pc lv' st) : GO D cy l R cc nL own ret w0 Q w pc lv st := by
  intro p e s m args below meth c H locs ls C hP hD hS hl
  exact k p e s m args below meth c H locs ls C hP hD hS (lv_sub hl ks hv)
theorem g_iadd {a b : Int} (hd : decode cc pc = .ok (.iadd, 1)) (k : GO D cy l R cc nL own ret w0 Q w (pc + 1) lv (.int (zI (a + b)) :: st)) : GO D cy l R cc nL own ret w0 Q w pc lv (.int (zI b) :: .int (zI a) :: st) := by
  intro p e s m args below meth c H locs ls C hP hD hS hl
  exact lv_iadd C.1 C.2.1 hd (by rw [zI_add]; exact k p e s m args below meth c H locs ls C hP hD hS hl)
theorem g_isub {a b : Int} (hd : decode cc pc = .ok (.isub, 1)) (k : GO D cy l R cc nL own ret w0 Q w (pc + 1) lv (.int (zI (a - b)) :: st)) : GO D cy l R cc nL own ret w0 Q w pc lv (.int (zI b) :: .int (zI a) :: st) := by
  intro p e s m args below meth c H locs ls C hP hD hS hl
  exact lv_isub C.1 C.2.1 hd (by rw [zI_sub]; exact k p e s m args below meth c H locs ls C hP hD hS hl)
theorem g_imul {a b : Int} (hd : decode cc pc = .ok (.imul, 1)) (k : GO D cy l R cc nL own ret w0 Q w (pc + 1) lv (.int (zI (a * b)) :: st)) : GO D cy l R cc nL own ret w0 Q w pc lv (.int (zI b) :: .int (zI a) :: st) := by
  intro p e s m args below meth c H locs ls C hP hD hS hl
  exact lv_imul C.1 C.2.1 hd (by rw [zI_mul]; exact k p e s m args below meth c H locs ls C hP hD hS hl)
theorem g_idiv {a b : Int} (hd : decode cc pc = .ok (.idiv, 1)) (ha : 0 ≤ a ∧ a ≤ 2147483647) (hb : 0 < b ∧ b ≤ 2147483647) (k : GO D cy l R cc nL own ret w0 Q w (pc + 1) lv (.int (zI (a / b)) :: st)) : GO D cy l R cc nL own ret w0 Q w pc lv (.int (zI b) :: .int (zI a) :: st) := by
  intro p e s m args below meth c H locs ls C hP hD hS hl
  exact lv_idiv C.1 C.2.1 hd (zI_ne0 ⟨by omega, by omega⟩ (by omega)) (by rw [zI_div ha hb]; exact k p e s m args below meth c H locs ls C hP hD hS hl)
theorem g_ineg {a : Int} (hd : decode cc pc = .ok (.ineg, 1)) (k : GO D cy l R cc nL own ret w0 Q w (pc + 1) lv (.int (zI (-a)) :: st)) : GO D cy l R cc nL own ret w0 Q w pc lv (.int (zI a) :: st) := by
  intro p e s m args below meth c H locs ls C hP hD hS hl
  exact lv_ineg C.1 C.2.1 hd (by rw [zI_neg]; exact k p e s m args below meth c H locs ls C hP hD hS hl)
theorem g_ior {a b : Int32} (hd : decode cc pc = .ok (.ior, 1)) (k : GO D cy l R cc nL own ret w0 Q w (pc + 1) lv (.int (a ||| b) :: st)) : GO D cy l R cc nL own ret w0 Q w pc lv (.int b :: .int a :: st) := by
  intro p e s m args below meth c H locs ls C hP hD hS hl
  exact lv_ior C.1 C.2.1 hd (k p e s m args below meth c H locs ls C hP hD hS hl)
theorem g_ladd {a b : Int} (hd : decode cc pc = .ok (.ladd, 1)) (k : GO D cy l R cc nL own ret w0 Q w (pc + 1) lv (.long (zJ (a + b)) :: st)) : GO D cy l R cc nL own ret w0 Q w pc lv (.long (zJ b) :: .long (zJ a) :: st) := by
  intro p e s m args below meth c H locs ls C hP hD hS hl
  exact lv_ladd C.1 C.2.1 hd (by rw [zJ_add]; exact k p e s m args below meth c H locs ls C hP hD hS hl)
theorem g_lsub {a b : Int} (hd : decode cc pc = .ok (.lsub, 1)) (k : GO D cy l R cc nL own ret w0 Q w (pc + 1) lv (.long (zJ (a - b)) :: st)) : GO D cy l R cc nL own ret w0 Q w pc lv (.long (zJ b) :: .long (zJ a) :: st) := by
  intro p e s m args below meth c H locs ls C hP hD hS hl
  exact lv_lsub C.1 C.2.1 hd (by rw [zJ_sub]; exact k p e s m args below meth c H locs ls C hP hD hS hl)
theorem g_lmul {a b : Int} (hd : decode cc pc = .ok (.lmul, 1)) (k : GO D cy l R cc nL own ret w0 Q w (pc + 1) lv (.long (zJ (a * b)) :: st)) : GO D cy l R cc nL own ret w0 Q w pc lv (.long (zJ b) :: .long (zJ a) :: st) := by
  intro p e s m args below meth c H locs ls C hP hD hS hl
  exact lv_lmul C.1 C.2.1 hd (by rw [zJ_mul]; exact k p e s m args below meth c H locs ls C hP hD hS hl)
theorem g_ldiv {a b : Int} (hd : decode cc pc = .ok (.ldiv, 1)) (ha : 0 ≤ a ∧ a ≤ 9223372036854775807) (hb : 0 < b ∧ b ≤ 9223372036854775807) (k : GO D cy l R cc nL own ret w0 Q w (pc + 1) lv (.long (zJ (a / b)) :: st)) : GO D cy l R cc nL own ret w0 Q w pc lv (.long (zJ b) :: .long (zJ a) :: st) := by
  intro p e s m args below meth c H locs ls C hP hD hS hl
  exact lv_ldiv C.1 C.2.1 hd (zJ_ne0 ⟨by omega, by omega⟩ (by omega)) (by rw [zJ_div ha hb]; exact k p e s m args below meth c H locs ls C hP hD hS hl)
theorem g_i2l {a : Int} (hd : decode cc pc = .ok (.i2l, 1)) (ha : -2147483648 ≤ a ∧ a ≤ 2147483647) (k : GO D cy l R cc nL own ret w0 Q w (pc + 1) lv (.long (zJ a) :: st)) : GO D cy l R cc nL own ret w0 Q w pc lv (.int (zI a) :: st) := by
  intro p e s m args below meth c H locs ls C hP hD hS hl
  exact lv_i2l C.1 C.2.1 hd (zI_i2l ha.1 ha.2) (k p e s m args below meth c H locs ls C hP hD hS hl)
theorem g_l2i {a : Int} (hd : decode cc pc = .ok (.l2i, 1)) (k : GO D cy l R cc nL own ret w0 Q w (pc + 1) lv (.int (zI a) :: st)) : GO D cy l R cc nL own ret w0 Q w pc lv (.long (zJ a) :: st) := by
  intro p e s m args below meth c H locs ls C hP hD hS hl
  exact lv_l2i C.1 C.2.1 hd (zJ_l2i a) (k p e s m args below meth c H locs ls C hP hD hS hl)
theorem g_dup {v : Value} (hd : decode cc pc = .ok (.dup, 1)) (hc : v.category = 1) (k : GO D cy l R cc nL own ret w0 Q w (pc + 1) lv (v :: v :: st)) : GO D cy l R cc nL own ret w0 Q w pc lv (v :: st) := by
  intro p e s m args below meth c H locs ls C hP hD hS hl
  exact lv_dup C.1 C.2.1 hd hc (k p e s m args below meth c H locs ls C hP hD hS hl)
theorem g_pop {v : Value} (hd : decode cc pc = .ok (.pop, 1)) (hc : v.category = 1) (k : GO D cy l R cc nL own ret w0 Q w (pc + 1) lv st) : GO D cy l R cc nL own ret w0 Q w pc lv (v :: st) := by
  intro p e s m args below meth c H locs ls C hP hD hS hl
  exact lv_pop C.1 C.2.1 hd hc (k p e s m args below meth c H locs ls C hP hD hS hl)
theorem g_dup2 {v u : Value} (hd : decode cc pc = .ok (.dup2, 1)) (hc : v.category = 1) (hc2 : u.category = 1) (k : GO D cy l R cc nL own ret w0 Q w (pc + 1) lv (v :: u :: v :: u :: st)) : GO D cy l R cc nL own ret w0 Q w pc lv (v :: u :: st) := by
  intro p e s m args below meth c H locs ls C hP hD hS hl
  exact lv_dup2_11 C.1 C.2.1 hd hc hc2 (k p e s m args below meth c H locs ls C hP hD hS hl)
theorem g_goto {off : Int} (tgt : Nat) (hd : decode cc pc = .ok (.goto off, 3)) (ht : (pc : Int) + off = (tgt : Int)) (k : GO D cy l R cc nL own ret w0 Q w tgt lv st) : GO D cy l R cc nL own ret w0 Q w pc lv st := by
  intro p e s m args below meth c H locs ls C hP hD hS hl
  exact lv_goto C.1 C.2.1 hd ht (k p e s m args below meth c H locs ls C hP hD hS hl)
theorem g_lcmp {a b : Int} (hd : decode cc pc = .ok (.lcmp, 1)) (ha : -9223372036854775808 ≤ a ∧ a ≤ 9223372036854775807) (hb : -9223372036854775808 ≤ b ∧ b ≤ 9223372036854775807) (k : GO D cy l R cc nL own ret w0 Q w (pc + 1) lv (.int (zI (if a < b then -1 else if a = b then 0 else 1)) :: st)) : GO D cy l R cc nL own ret w0 Q w pc lv (.long (zJ b) :: .long (zJ a) :: st) := by
  intro p e s m args below meth c H locs ls C hP hD hS hl
  refine W.lcmp C.1 C.2.1 hd ?_
  have e1 : lg_cmp (zJ a) (zJ b) = zI (if a < b then -1 else if a = b then 0 else 1) := by
    unfold lg_cmp
    simp only [zJ_lt ha hb, zJ_lt hb ha, zJ_inj ha hb, zJ_inj hb ha]
    by_cases h1 : a < b
    · have h2 : ¬ b < a := by omega
      have h3 : ¬ a = b := by omega
      simp [h1, h2, h3]; rfl
    · by_cases h3 : a = b
      · simp [h3]; rfl
      · have h2 : b < a := by omega
        simp [h1, h2, h3]; rfl
  rw [e1]
  exact k p e s m args below meth c H locs ls C hP hD hS hl
end GOR
end
section
section GOB
variable {D : va_G} {cy : Nat → ClassId} {l : Launch} {R : Room} {cc : ByteArray} {nL : Nat} {own : String} {ret : Option FieldType} {w0 : va_W} {Q : Option Value → va_W → Prop} {w : va_W} {pc : Nat} {lv lv' : List (Nat × Value)} {st : List Value}
theorem g_icmp_eq {a b off : Int} (tgt : Nat) (hd : decode cc pc = .ok (.if_icmp .eq off, 3)) (ht : (pc : Int) + off = (tgt : Int)) (ha : -2147483648 ≤ a ∧ a ≤ 2147483647) (hb : -2147483648 ≤ b ∧ b ≤ 2147483647) (kt : a = b → GO D cy l R cc nL own ret w0 Q w tgt lv st) (kf : ¬ a = b → GO D cy l R cc nL own ret w0 Q w (pc + 3) lv st) : GO D cy l R cc nL own ret w0 Q w pc lv (.int (zI b) :: .int (zI a) :: st) := by
  intro p e s m args below meth c H locs ls C hP hD hS hl
  exact lv_icmp_eq C.1 C.2.1 hd ht (fun h => kt ((zI_inj ha hb).mp h) p e s m args below meth c H locs ls C hP hD hS hl) (fun h => kf (fun q => h ((zI_inj ha hb).mpr q)) p e s m args below meth c H locs ls C hP hD hS hl)
theorem g_if_eq {a off : Int} (tgt : Nat) (hd : decode cc pc = .ok (.ifCond .eq off, 3)) (ht : (pc : Int) + off = (tgt : Int)) (ha : -2147483648 ≤ a ∧ a ≤ 2147483647) (kt : a = 0 → GO D cy l R cc nL own ret w0 Q w tgt lv st) (kf : ¬ a = 0 → GO D cy l R cc nL own ret w0 Q w (pc + 3) lv st) : GO D cy l R cc nL own ret w0 Q w pc lv (.int (zI a) :: st) := by
  intro p e s m args below meth c H locs ls C hP hD hS hl
  have hz : (-2147483648 : Int) ≤ 0 ∧ (0 : Int) ≤ 2147483647 := by omega
  exact lv_if_eq C.1 C.2.1 hd ht (fun h => kt ((zI_inj ha hz).mp h) p e s m args below meth c H locs ls C hP hD hS hl) (fun h => kf (fun q => h ((zI_inj ha hz).mpr q)) p e s m args below meth c H locs ls C hP hD hS hl)
theorem g_if_eqT {a off : Int} (tgt : Nat) (hd : decode cc pc = .ok (.ifCond .eq off, 3)) (ht : (pc : Int) + off = (tgt : Int)) (ha : -2147483648 ≤ a ∧ a ≤ 2147483647) (h : a = 0) (kt : GO D cy l R cc nL own ret w0 Q w tgt lv st) : GO D cy l R cc nL own ret w0 Q w pc lv (.int (zI a) :: st) := g_if_eq tgt hd ht ha (fun _ => kt) (fun q => absurd h (by omega))
theorem g_if_eqF {a off : Int} (tgt : Nat) (hd : decode cc pc = .ok (.ifCond .eq off, 3)) (ht : (pc : Int) + off = (tgt : Int)) (ha : -2147483648 ≤ a ∧ a ≤ 2147483647) (h : ¬ a = 0) (kf : GO D cy l R cc nL own ret w0 Q w (pc + 3) lv st) : GO D cy l R cc nL own ret w0 Q w pc lv (.int (zI a) :: st) := g_if_eq tgt hd ht ha (fun q => absurd h (by omega)) (fun _ => kf)
theorem g_lcmp_eq {a b off : Int} (tgt : Nat) (hd : decode cc pc = .ok (.lcmp, 1)) (hd2 : decode cc (pc + 1) = .ok (.ifCond .eq off, 3)) (ht : ((pc + 1 : Nat) : Int) + off = (tgt : Int)) (ha : -9223372036854775808 ≤ a ∧ a ≤ 9223372036854775807) (hb : -9223372036854775808 ≤ b ∧ b ≤ 9223372036854775807) (kt : a = b → GO D cy l R cc nL own ret w0 Q w tgt lv st) (kf : ¬ a = b → GO D cy l R cc nL own ret w0 Q w (pc + 4) lv st) : GO D cy l R cc nL own ret w0 Q w pc lv (.long (zJ b) :: .long (zJ a) :: st) := by
  refine g_lcmp hd ha hb ?_
  refine g_if_eq tgt hd2 ht (by split <;> (try split) <;> omega) (fun h => kt ?_) (fun h => kf ?_)
  · split at h <;> (try split at h) <;> omega
  · split at h <;> (try split at h) <;> omega
theorem g_icmp_ne {a b off : Int} (tgt : Nat) (hd : decode cc pc = .ok (.if_icmp .ne off, 3)) (ht : (pc : Int) + off = (tgt : Int)) (ha : -2147483648 ≤ a ∧ a ≤ 2147483647) (hb : -2147483648 ≤ b ∧ b ≤ 2147483647) (kt : ¬ a = b → GO D cy l R cc nL own ret w0 Q w tgt lv st) (kf : a = b → GO D cy l R cc nL own ret w0 Q w (pc + 3) lv st) : GO D cy l R cc nL own ret w0 Q w pc lv (.int (zI b) :: .int (zI a) :: st) := by
  intro p e s m args below meth c H locs ls C hP hD hS hl
  exact lv_icmp_ne C.1 C.2.1 hd ht (fun h => kt (fun q => h ((zI_inj ha hb).mpr q)) p e s m args below meth c H locs ls C hP hD hS hl) (fun h => kf ((zI_inj ha hb).mp h) p e s m args below meth c H locs ls C hP hD hS hl)
theorem g_if_ne {a off : Int} (tgt : Nat) (hd : decode cc pc = .ok (.ifCond .ne off, 3)) (ht : (pc : Int) + off = (tgt : Int)) (ha : -2147483648 ≤ a ∧ a ≤ 2147483647) (kt : ¬ a = 0 → GO D cy l R cc nL own ret w0 Q w tgt lv st) (kf : a = 0 → GO D cy l R cc nL own ret w0 Q w (pc + 3) lv st) : GO D cy l R cc nL own ret w0 Q w pc lv (.int (zI a) :: st) := by
  intro p e s m args below meth c H locs ls C hP hD hS hl
  have hz : (-2147483648 : Int) ≤ 0 ∧ (0 : Int) ≤ 2147483647 := by omega
  exact lv_if_ne C.1 C.2.1 hd ht (fun h => kt (fun q => h ((zI_inj ha hz).mpr q)) p e s m args below meth c H locs ls C hP hD hS hl) (fun h => kf ((zI_inj ha hz).mp h) p e s m args below meth c H locs ls C hP hD hS hl)
theorem g_if_neT {a off : Int} (tgt : Nat) (hd : decode cc pc = .ok (.ifCond .ne off, 3)) (ht : (pc : Int) + off = (tgt : Int)) (ha : -2147483648 ≤ a ∧ a ≤ 2147483647) (h : ¬ a = 0) (kt : GO D cy l R cc nL own ret w0 Q w tgt lv st) : GO D cy l R cc nL own ret w0 Q w pc lv (.int (zI a) :: st) := g_if_ne tgt hd ht ha (fun _ => kt) (fun q => absurd h (by omega))
theorem g_if_neF {a off : Int} (tgt : Nat) (hd : decode cc pc = .ok (.ifCond .ne off, 3)) (ht : (pc : Int) + off = (tgt : Int)) (ha : -2147483648 ≤ a ∧ a ≤ 2147483647) (h : a = 0) (kf : GO D cy l R cc nL own ret w0 Q w (pc + 3) lv st) : GO D cy l R cc nL own ret w0 Q w pc lv (.int (zI a) :: st) := g_if_ne tgt hd ht ha (fun q => absurd h (by omega)) (fun _ => kf)
theorem g_lcmp_ne {a b off : Int} (tgt : Nat) (hd : decode cc pc = .ok (.lcmp, 1)) (hd2 : decode cc (pc + 1) = .ok (.ifCond .ne off, 3)) (ht : ((pc + 1 : Nat) : Int) + off = (tgt : Int)) (ha : -9223372036854775808 ≤ a ∧ a ≤ 9223372036854775807) (hb : -9223372036854775808 ≤ b ∧ b ≤ 9223372036854775807) (kt : ¬ a = b → GO D cy l R cc nL own ret w0 Q w tgt lv st) (kf : a = b → GO D cy l R cc nL own ret w0 Q w (pc + 4) lv st) : GO D cy l R cc nL own ret w0 Q w pc lv (.long (zJ b) :: .long (zJ a) :: st) := by
  refine g_lcmp hd ha hb ?_
  refine g_if_ne tgt hd2 ht (by split <;> (try split) <;> omega) (fun h => kt ?_) (fun h => kf ?_)
  · split at h <;> (try split at h) <;> omega
  · split at h <;> (try split at h) <;> omega
theorem g_icmp_lt {a b off : Int} (tgt : Nat) (hd : decode cc pc = .ok (.if_icmp .lt off, 3)) (ht : (pc : Int) + off = (tgt : Int)) (ha : -2147483648 ≤ a ∧ a ≤ 2147483647) (hb : -2147483648 ≤ b ∧ b ≤ 2147483647) (kt : a < b → GO D cy l R cc nL own ret w0 Q w tgt lv st) (kf : b ≤ a → GO D cy l R cc nL own ret w0 Q w (pc + 3) lv st) : GO D cy l R cc nL own ret w0 Q w pc lv (.int (zI b) :: .int (zI a) :: st) := by
  intro p e s m args below meth c H locs ls C hP hD hS hl
  exact lv_icmp_lt C.1 C.2.1 hd ht (fun h => kt ((zI_lt ha hb).mp h) p e s m args below meth c H locs ls C hP hD hS hl) (fun h => kf (Int.not_lt.mp (fun q => h ((zI_lt ha hb).mpr q))) p e s m args below meth c H locs ls C hP hD hS hl)
theorem g_if_lt {a off : Int} (tgt : Nat) (hd : decode cc pc = .ok (.ifCond .lt off, 3)) (ht : (pc : Int) + off = (tgt : Int)) (ha : -2147483648 ≤ a ∧ a ≤ 2147483647) (kt : a < 0 → GO D cy l R cc nL own ret w0 Q w tgt lv st) (kf : 0 ≤ a → GO D cy l R cc nL own ret w0 Q w (pc + 3) lv st) : GO D cy l R cc nL own ret w0 Q w pc lv (.int (zI a) :: st) := by
  intro p e s m args below meth c H locs ls C hP hD hS hl
  have hz : (-2147483648 : Int) ≤ 0 ∧ (0 : Int) ≤ 2147483647 := by omega
  exact lv_if_lt C.1 C.2.1 hd ht (fun h => kt ((zI_lt ha hz).mp h) p e s m args below meth c H locs ls C hP hD hS hl) (fun h => kf (Int.not_lt.mp (fun q => h ((zI_lt ha hz).mpr q))) p e s m args below meth c H locs ls C hP hD hS hl)
theorem g_if_ltT {a off : Int} (tgt : Nat) (hd : decode cc pc = .ok (.ifCond .lt off, 3)) (ht : (pc : Int) + off = (tgt : Int)) (ha : -2147483648 ≤ a ∧ a ≤ 2147483647) (h : a < 0) (kt : GO D cy l R cc nL own ret w0 Q w tgt lv st) : GO D cy l R cc nL own ret w0 Q w pc lv (.int (zI a) :: st) := g_if_lt tgt hd ht ha (fun _ => kt) (fun q => absurd h (by omega))
theorem g_if_ltF {a off : Int} (tgt : Nat) (hd : decode cc pc = .ok (.ifCond .lt off, 3)) (ht : (pc : Int) + off = (tgt : Int)) (ha : -2147483648 ≤ a ∧ a ≤ 2147483647) (h : 0 ≤ a) (kf : GO D cy l R cc nL own ret w0 Q w (pc + 3) lv st) : GO D cy l R cc nL own ret w0 Q w pc lv (.int (zI a) :: st) := g_if_lt tgt hd ht ha (fun q => absurd h (by omega)) (fun _ => kf)
theorem g_lcmp_lt {a b off : Int} (tgt : Nat) (hd : decode cc pc = .ok (.lcmp, 1)) (hd2 : decode cc (pc + 1) = .ok (.ifCond .lt off, 3)) (ht : ((pc + 1 : Nat) : Int) + off = (tgt : Int)) (ha : -9223372036854775808 ≤ a ∧ a ≤ 9223372036854775807) (hb : -9223372036854775808 ≤ b ∧ b ≤ 9223372036854775807) (kt : a < b → GO D cy l R cc nL own ret w0 Q w tgt lv st) (kf : b ≤ a → GO D cy l R cc nL own ret w0 Q w (pc + 4) lv st) : GO D cy l R cc nL own ret w0 Q w pc lv (.long (zJ b) :: .long (zJ a) :: st) := by
  refine g_lcmp hd ha hb ?_
  refine g_if_lt tgt hd2 ht (by split <;> (try split) <;> omega) (fun h => kt ?_) (fun h => kf ?_)
  · split at h <;> (try split at h) <;> omega
  · split at h <;> (try split at h) <;> omega
theorem g_icmp_ge {a b off : Int} (tgt : Nat) (hd : decode cc pc = .ok (.if_icmp .ge off, 3)) (ht : (pc : Int) + off = (tgt : Int)) (ha : -2147483648 ≤ a ∧ a ≤ 2147483647) (hb : -2147483648 ≤ b ∧ b ≤ 2147483647) (kt : b ≤ a → GO D cy l R cc nL own ret w0 Q w tgt lv st) (kf : a < b → GO D cy l R cc nL own ret w0 Q w (pc + 3) lv st) : GO D cy l R cc nL own ret w0 Q w pc lv (.int (zI b) :: .int (zI a) :: st) := by
  intro p e s m args below meth c H locs ls C hP hD hS hl
  exact lv_icmp_ge C.1 C.2.1 hd ht (fun h => kt ((zI_le hb ha).mp h) p e s m args below meth c H locs ls C hP hD hS hl) (fun h => kf (Int.not_le.mp (fun q => h ((zI_le hb ha).mpr q))) p e s m args below meth c H locs ls C hP hD hS hl)
theorem g_if_ge {a off : Int} (tgt : Nat) (hd : decode cc pc = .ok (.ifCond .ge off, 3)) (ht : (pc : Int) + off = (tgt : Int)) (ha : -2147483648 ≤ a ∧ a ≤ 2147483647) (kt : 0 ≤ a → GO D cy l R cc nL own ret w0 Q w tgt lv st) (kf : a < 0 → GO D cy l R cc nL own ret w0 Q w (pc + 3) lv st) : GO D cy l R cc nL own ret w0 Q w pc lv (.int (zI a) :: st) := by
  intro p e s m args below meth c H locs ls C hP hD hS hl
  have hz : (-2147483648 : Int) ≤ 0 ∧ (0 : Int) ≤ 2147483647 := by omega
  exact lv_if_ge C.1 C.2.1 hd ht (fun h => kt ((zI_le hz ha).mp h) p e s m args below meth c H locs ls C hP hD hS hl) (fun h => kf (Int.not_le.mp (fun q => h ((zI_le hz ha).mpr q))) p e s m args below meth c H locs ls C hP hD hS hl)
theorem g_if_geT {a off : Int} (tgt : Nat) (hd : decode cc pc = .ok (.ifCond .ge off, 3)) (ht : (pc : Int) + off = (tgt : Int)) (ha : -2147483648 ≤ a ∧ a ≤ 2147483647) (h : 0 ≤ a) (kt : GO D cy l R cc nL own ret w0 Q w tgt lv st) : GO D cy l R cc nL own ret w0 Q w pc lv (.int (zI a) :: st) := g_if_ge tgt hd ht ha (fun _ => kt) (fun q => absurd h (by omega))
theorem g_if_geF {a off : Int} (tgt : Nat) (hd : decode cc pc = .ok (.ifCond .ge off, 3)) (ht : (pc : Int) + off = (tgt : Int)) (ha : -2147483648 ≤ a ∧ a ≤ 2147483647) (h : a < 0) (kf : GO D cy l R cc nL own ret w0 Q w (pc + 3) lv st) : GO D cy l R cc nL own ret w0 Q w pc lv (.int (zI a) :: st) := g_if_ge tgt hd ht ha (fun q => absurd h (by omega)) (fun _ => kf)
theorem g_lcmp_ge {a b off : Int} (tgt : Nat) (hd : decode cc pc = .ok (.lcmp, 1)) (hd2 : decode cc (pc + 1) = .ok (.ifCond .ge off, 3)) (ht : ((pc + 1 : Nat) : Int) + off = (tgt : Int)) (ha : -9223372036854775808 ≤ a ∧ a ≤ 9223372036854775807) (hb : -9223372036854775808 ≤ b ∧ b ≤ 9223372036854775807) (kt : b ≤ a → GO D cy l R cc nL own ret w0 Q w tgt lv st) (kf : a < b → GO D cy l R cc nL own ret w0 Q w (pc + 4) lv st) : GO D cy l R cc nL own ret w0 Q w pc lv (.long (zJ b) :: .long (zJ a) :: st) := by
  refine g_lcmp hd ha hb ?_
  refine g_if_ge tgt hd2 ht (by split <;> (try split) <;> omega) (fun h => kt ?_) (fun h => kf ?_)
  · split at h <;> (try split at h) <;> omega
  · split at h <;> (try split at h) <;> omega
theorem g_icmp_gt {a b off : Int} (tgt : Nat) (hd : decode cc pc = .ok (.if_icmp .gt off, 3)) (ht : (pc : Int) + off = (tgt : Int)) (ha : -2147483648 ≤ a ∧ a ≤ 2147483647) (hb : -2147483648 ≤ b ∧ b ≤ 2147483647) (kt : b < a → GO D cy l R cc nL own ret w0 Q w tgt lv st) (kf : a ≤ b → GO D cy l R cc nL own ret w0 Q w (pc + 3) lv st) : GO D cy l R cc nL own ret w0 Q w pc lv (.int (zI b) :: .int (zI a) :: st) := by
  intro p e s m args below meth c H locs ls C hP hD hS hl
  exact lv_icmp_gt C.1 C.2.1 hd ht (fun h => kt ((zI_lt hb ha).mp h) p e s m args below meth c H locs ls C hP hD hS hl) (fun h => kf (Int.not_lt.mp (fun q => h ((zI_lt hb ha).mpr q))) p e s m args below meth c H locs ls C hP hD hS hl)
theorem g_if_gt {a off : Int} (tgt : Nat) (hd : decode cc pc = .ok (.ifCond .gt off, 3)) (ht : (pc : Int) + off = (tgt : Int)) (ha : -2147483648 ≤ a ∧ a ≤ 2147483647) (kt : 0 < a → GO D cy l R cc nL own ret w0 Q w tgt lv st) (kf : a ≤ 0 → GO D cy l R cc nL own ret w0 Q w (pc + 3) lv st) : GO D cy l R cc nL own ret w0 Q w pc lv (.int (zI a) :: st) := by
  intro p e s m args below meth c H locs ls C hP hD hS hl
  have hz : (-2147483648 : Int) ≤ 0 ∧ (0 : Int) ≤ 2147483647 := by omega
  exact lv_if_gt C.1 C.2.1 hd ht (fun h => kt ((zI_lt hz ha).mp h) p e s m args below meth c H locs ls C hP hD hS hl) (fun h => kf (Int.not_lt.mp (fun q => h ((zI_lt hz ha).mpr q))) p e s m args below meth c H locs ls C hP hD hS hl)
theorem g_if_gtT {a off : Int} (tgt : Nat) (hd : decode cc pc = .ok (.ifCond .gt off, 3)) (ht : (pc : Int) + off = (tgt : Int)) (ha : -2147483648 ≤ a ∧ a ≤ 2147483647) (h : 0 < a) (kt : GO D cy l R cc nL own ret w0 Q w tgt lv st) : GO D cy l R cc nL own ret w0 Q w pc lv (.int (zI a) :: st) := g_if_gt tgt hd ht ha (fun _ => kt) (fun q => absurd h (by omega))
theorem g_if_gtF {a off : Int} (tgt : Nat) (hd : decode cc pc = .ok (.ifCond .gt off, 3)) (ht : (pc : Int) + off = (tgt : Int)) (ha : -2147483648 ≤ a ∧ a ≤ 2147483647) (h : a ≤ 0) (kf : GO D cy l R cc nL own ret w0 Q w (pc + 3) lv st) : GO D cy l R cc nL own ret w0 Q w pc lv (.int (zI a) :: st) := g_if_gt tgt hd ht ha (fun q => absurd h (by omega)) (fun _ => kf)
theorem g_lcmp_gt {a b off : Int} (tgt : Nat) (hd : decode cc pc = .ok (.lcmp, 1)) (hd2 : decode cc (pc + 1) = .ok (.ifCond .gt off, 3)) (ht : ((pc + 1 : Nat) : Int) + off = (tgt : Int)) (ha : -9223372036854775808 ≤ a ∧ a ≤ 9223372036854775807) (hb : -9223372036854775808 ≤ b ∧ b ≤ 9223372036854775807) (kt : b < a → GO D cy l R cc nL own ret w0 Q w tgt lv st) (kf : a ≤ b → GO D cy l R cc nL own ret w0 Q w (pc + 4) lv st) : GO D cy l R cc nL own ret w0 Q w pc lv (.long (zJ b) :: .long (zJ a) :: st) := by
  refine g_lcmp hd ha hb ?_
  refine g_if_gt tgt hd2 ht (by split <;> (try split) <;> omega) (fun h => kt ?_) (fun h => kf ?_)
  · split at h <;> (try split at h) <;> omega
  · split at h <;> (try split at h) <;> omega
theorem g_icmp_le {a b off : Int} (tgt : Nat) (hd : decode cc pc = .ok (.if_icmp .le off, 3)) (ht : (pc : Int) + off = (tgt : Int)) (ha : -2147483648 ≤ a ∧ a ≤ 2147483647) (hb : -2147483648 ≤ b ∧ b ≤ 2147483647) (kt : a ≤ b → GO D cy l R cc nL own ret w0 Q w tgt lv st) (kf : b < a → GO D cy l R cc nL own ret w0 Q w (pc + 3) lv st) : GO D cy l R cc nL own ret w0 Q w pc lv (.int (zI b) :: .int (zI a) :: st) := by
  intro p e s m args below meth c H locs ls C hP hD hS hl
  exact lv_icmp_le C.1 C.2.1 hd ht (fun h => kt ((zI_le ha hb).mp h) p e s m args below meth c H locs ls C hP hD hS hl) (fun h => kf (Int.not_le.mp (fun q => h ((zI_le ha hb).mpr q))) p e s m args below meth c H locs ls C hP hD hS hl)
theorem g_if_le {a off : Int} (tgt : Nat) (hd : decode cc pc = .ok (.ifCond .le off, 3)) (ht : (pc : Int) + off = (tgt : Int)) (ha : -2147483648 ≤ a ∧ a ≤ 2147483647) (kt : a ≤ 0 → GO D cy l R cc nL own ret w0 Q w tgt lv st) (kf : 0 < a → GO D cy l R cc nL own ret w0 Q w (pc + 3) lv st) : GO D cy l R cc nL own ret w0 Q w pc lv (.int (zI a) :: st) := by
  intro p e s m args below meth c H locs ls C hP hD hS hl
  have hz : (-2147483648 : Int) ≤ 0 ∧ (0 : Int) ≤ 2147483647 := by omega
  exact lv_if_le C.1 C.2.1 hd ht (fun h => kt ((zI_le ha hz).mp h) p e s m args below meth c H locs ls C hP hD hS hl) (fun h => kf (Int.not_le.mp (fun q => h ((zI_le ha hz).mpr q))) p e s m args below meth c H locs ls C hP hD hS hl)
theorem g_if_leT {a off : Int} (tgt : Nat) (hd : decode cc pc = .ok (.ifCond .le off, 3)) (ht : (pc : Int) + off = (tgt : Int)) (ha : -2147483648 ≤ a ∧ a ≤ 2147483647) (h : a ≤ 0) (kt : GO D cy l R cc nL own ret w0 Q w tgt lv st) : GO D cy l R cc nL own ret w0 Q w pc lv (.int (zI a) :: st) := g_if_le tgt hd ht ha (fun _ => kt) (fun q => absurd h (by omega))
theorem g_if_leF {a off : Int} (tgt : Nat) (hd : decode cc pc = .ok (.ifCond .le off, 3)) (ht : (pc : Int) + off = (tgt : Int)) (ha : -2147483648 ≤ a ∧ a ≤ 2147483647) (h : 0 < a) (kf : GO D cy l R cc nL own ret w0 Q w (pc + 3) lv st) : GO D cy l R cc nL own ret w0 Q w pc lv (.int (zI a) :: st) := g_if_le tgt hd ht ha (fun q => absurd h (by omega)) (fun _ => kf)
theorem g_lcmp_le {a b off : Int} (tgt : Nat) (hd : decode cc pc = .ok (.lcmp, 1)) (hd2 : decode cc (pc + 1) = .ok (.ifCond .le off, 3)) (ht : ((pc + 1 : Nat) : Int) + off = (tgt : Int)) (ha : -9223372036854775808 ≤ a ∧ a ≤ 9223372036854775807) (hb : -9223372036854775808 ≤ b ∧ b ≤ 9223372036854775807) (kt : a ≤ b → GO D cy l R cc nL own ret w0 Q w tgt lv st) (kf : b < a → GO D cy l R cc nL own ret w0 Q w (pc + 4) lv st) : GO D cy l R cc nL own ret w0 Q w pc lv (.long (zJ b) :: .long (zJ a) :: st) := by
  refine g_lcmp hd ha hb ?_
  refine g_if_le tgt hd2 ht (by split <;> (try split) <;> omega) (fun h => kt ?_) (fun h => kf ?_)
  · split at h <;> (try split at h) <;> omega
  · split at h <;> (try split at h) <;> omega
/-- ends -/
theorem g_end {v : Option Value} (hq : Q v w) {s t : State} {H : Heap} {locs : List Loc} {args : Array Value} (hP : va_P D vwCl w H) (hD : va_D (va_A w0 s.heap.size) w) (hS : va_S (va_A w0 s.heap.size) s.heap H locs) (ht : t.heap = H) : gQ D w0 Q args s (.returned v) t := ⟨v, w, rfl, hq, by rw [ht]; exact hP, hD, hS.F ht⟩
theorem g_iret {x : Int32} (hd : decode cc pc = .ok (.ireturn, 1)) (hr : ret = some .int) (hq : Q (some (.int x)) w) : GO D cy l R cc nL own ret w0 Q w pc lv [.int x] := by
  intro p e s m args below meth c H locs ls C hP hD hS hl
  exact W.iret C.1 C.2.1 (C.2.2.2.1.trans hr) (fun t ht hW => g_end hq hP hD hS ht) hS.2.2 hd C.2.2.2.2.1
theorem g_zret {x : Int32} (hd : decode cc pc = .ok (.ireturn, 1)) (hr : ret = some .boolean) (hn : narrow .boolean (.int x) = .int x) (hq : Q (some (.int x)) w) : GO D cy l R cc nL own ret w0 Q w pc lv [.int x] := by
  intro p e s m args below meth c H locs ls C hP hD hS hl
  exact W.zret C.1 C.2.1 (C.2.2.2.1.trans hr) hn (fun t ht hW => g_end hq hP hD hS ht) hS.2.2 hd C.2.2.2.2.1
theorem g_lret {x : Int64} (hd : decode cc pc = .ok (.lreturn, 1)) (hr : ret = some .long) (hq : Q (some (.long x)) w) : GO D cy l R cc nL own ret w0 Q w pc lv [.long x] := by
  intro p e s m args below meth c H locs ls C hP hD hS hl
  exact W.lret C.1 C.2.1 (C.2.2.2.1.trans hr) (fun t ht hW => g_end hq hP hD hS ht) hS.2.2 hd C.2.2.2.2.1
theorem g_vret (hd : decode cc pc = .ok (.return_, 1)) (hr : ret = none) (hq : Q none w) : GO D cy l R cc nL own ret w0 Q w pc lv [] := by
  intro p e s m args below meth c H locs ls C hP hD hS hl
  exact W.vret C.1 C.2.1 (C.2.2.2.1.trans hr) (fun t ht hW => g_end hq hP hD hS ht) hS.2.2 hd C.2.2.2.2.1
/-- behind a call -/
theorem g_after {Q' : Option Value → va_W → Prop} {a : Array Value} {st0 rest : List Value} {p : Program} {e : Env} {s : State} {m : MethodId} {args : Array Value} {below : List Frame} {meth : Method} {c : Code} {H : Heap} {locs : List Loc} {ls : Array Slot}
    (C : gC D cy cc nL own ret p s m args meth c) (hD : va_D (va_A w0 s.heap.size) w) (hS : va_S (va_A w0 s.heap.size) s.heap H locs) (hl : lv_has ls nL lv)
    (hr : va_Run p l e R s m args below meth c H locs 0 0 0 0 (F0 m pc ls st0) rest (gQ D w Q' a) (va_A w H.size))
    (kk : ∀ (v : Option Value) (w' : va_W), Q' v w' → GO D cy l R cc nL own ret w0 Q w' (pc + 3) lv (v.toList ++ rest)) :
    W p l e R s m args below meth c H locs 0 0 (MQ below (gQ D w0 Q) args s 0 0 (va_A w0 s.heap.size)) (F0 m pc ls st0) := by
  intro T hT X
  obtain ⟨v, st₀, t, T', L, h0, X', hL, e1, e2, ⟨v', w', hv, hq, hP', hD', hF⟩, stp⟩ := hr T hT X
  cases hv
  rw [h0] at hD'
  have hA : ∀ q, va_A w H.size q → va_A w0 s.heap.size q := by
    intro q h
    rcases h with ⟨k, ee, h⟩ | h
    · exact hD.2 k (q, ee) h
    · exact Or.inr (Nat.le_trans hS.1 h)
  have hz : H.size ≤ T'.heap.size := by rw [e1, ← h0]; exact hF.1
  have hk : ∀ q : Nat, q < H.size → ¬ va_A w H.size q → T'.heap[q]? = H[q]? := by
    intro q h1 h2
    have h3 := hF.2 q (by rw [h0]; exact h1) (by rw [h0]; exact h2)
    rw [e1, h3, h0]
  obtain ⟨t2, a1, b1⟩ := kk v w' hq p e s m args below meth c T'.heap (locs ++ L) ls C (by rw [e1]; exact hP') (gD_weaken hD' hA)
    ⟨Nat.le_trans hS.1 hz, fun q h1 h2 => by rw [hk q (Nat.lt_of_lt_of_le h1 hS.1) (fun z => h2 (hA q z))]; exact hS.2.1 q h1 h2, fun q hq => by
      rcases List.mem_append.mp hq with h | h
      · exact hS.2.2 q h
      · exact hA _ (hL q h)⟩ hl T' rfl X'
  exact ⟨t2, stp t2 a1, b1⟩
/-- the pre of a contract does not see frames -/
theorem g_blind {av : List Value} {w : va_W} {sz : Nat} : FrameBlind (va_Pc av (fun U => U.heap.size = sz ∧ va_P D vwCl w U.heap ∧ gK D cy U ∧ va_D (fun _ => True) w)) := by
  intro a U g mk q
  obtain ⟨q0, q1, qP, qK, qD⟩ := q
  exact ⟨q0, q1, qP, gK.same (s := U) (U := U.calling g mk a) rfl qK, qD⟩
theorem g_pre {s : State} {H : Heap} {A : Nat → Prop} (hK : gK D cy s) (hP : va_P D vwCl w H) (hD : va_D A w) {av : List Value} {U : State} (hU : U.heap = H) (hW : s.WarmedH U.vm) : va_Pc av (fun U => U.heap.size = H.size ∧ va_P D vwCl w U.heap ∧ gK D cy U ∧ va_D (fun _ => True) w) av.toArray U := ⟨rfl, by rw [hU], by rw [hU]; exact hP, gK.warm hW hK, gD_weaken hD (fun _ _ => trivial)⟩
theorem lw_good : ∀ x ∈ gtb, ((x.onTables && x.keeps) = true ∨ ∃ ty, x = .arrayClass ty) := by
  exact fun x hx => good_of_word (List.mem_filter.mp hx).2
theorem lw_goodIn {ws : List Cond} (h : ∀ x ∈ ws, x ∈ gtb) : GoodIn gtb ws := fun x hx => ⟨h x hx, lw_good x (h x hx)⟩
theorem lw_cons {x : Cond} (h : x ∈ gtb) : ∀ z ∈ (x :: gtb), z ∈ gtb := fun z hz => (List.mem_cons.mp hz).elim (fun q => q ▸ h) id
/-- links: what the tables say of a call's entry -/
def LkV (own : String) (idx : Nat) (y : MethodName) (bc : ByteArray) (nB : Nat) (rt : Option FieldType) (n : Nat) : Prop := (∀ z ∈ (wsV own idx y.cls y [Cond.code y bc nB rt]), z ∈ gtb) ∧ y.cls ≠ "java/lang/invoke/MethodHandle" ∧ y.cls ≠ "java/lang/invoke/VarHandle" ∧ (parseMethodDescriptor y.desc).map (fun d => d.parameters.length) = some n
def LkS (own : String) (idx : Nat) (y : MethodName) (bc : ByteArray) (nB : Nat) (rt : Option FieldType) (n : Nat) : Prop := (∀ z ∈ (va_wsS own idx y [Cond.code y bc nB rt]), z ∈ gtb) ∧ y.cls ≠ "java/lang/invoke/MethodHandle" ∧ y.cls ≠ "java/lang/invoke/VarHandle" ∧ (parseMethodDescriptor y.desc).map (fun d => d.parameters.length) = some n
def LkU (own : String) (idx : Nat) (K : String) (owner : String) (x y : MethodName) (bc : ByteArray) (nB : Nat) (rt : Option FieldType) (n : Nat) : Prop := (∀ z ∈ (va_wsU own idx K owner x y [Cond.code y bc nB rt]), z ∈ gtb) ∧ (y = ⟨owner, x.name, x.desc⟩ ∨ Cond.declares ⟨owner, x.name, x.desc⟩ ∈ gnt) ∧ owner ≠ "java/lang/invoke/MethodHandle" ∧ owner ≠ "java/lang/invoke/VarHandle" ∧ (parseMethodDescriptor x.desc).map (fun d => d.parameters.length) = some n
def LkN (own : String) (idx : Nat) (host : String) (y : MethodName) (bc : ByteArray) (nB : Nat) (rt : Option FieldType) (n : Nat) : Prop := Cond.methodLinkNest own idx y host ∈ gnt ∧ (∀ z ∈ ([Cond.instanceMethod y, Cond.selects y.cls y y, Cond.initialized y.cls, Cond.code y bc nB rt] : List Cond), z ∈ gtb) ∧ y.cls ≠ "java/lang/invoke/MethodHandle" ∧ y.cls ≠ "java/lang/invoke/VarHandle" ∧ (parseMethodDescriptor y.desc).map (fun d => d.parameters.length) = some n
theorem lw_appc {ws : List Cond} {x : Cond} (h : ∀ z ∈ ws ++ [x], z ∈ gtb) : ∀ z ∈ ws ++ (x :: gtb), z ∈ gtb := fun z hz => by
  rcases List.mem_append.mp hz with q | q
  · exact h z (List.mem_append_left _ q)
  · rcases List.mem_cons.mp q with q | q
    · exact h z (List.mem_append_right _ (List.mem_singleton.mpr q))
    · exact q
section CALLS
variable {y : MethodName} {bc : ByteArray} {nB n idx : Nat} {rt : Option FieldType} {rm : Room} {As rest : List Value} {b : Nat} {Q' : Option Value → va_W → Prop} {st0 : List Value}
theorem g_callV (hL : LkV own idx y bc nB rt n) (hM : Con D cy l y bc nB rt rm (.ref b :: As) w Q') (hrm : rm.cells = 0 ∧ rm.slots = 0 ∧ rm.frames + 1 ≤ R.frames ∧ 8 + (nB + 11) + rm.locals ≤ R.locals) (q0 ci : Nat) {q : vw_C} {fs : List Value} (hc : vwCl[ci]? = some q) (hq : q.1 = y.cls) (he : w[q0]? = some (b, .inr (ci, fs)))
    (hn : As.length = n) (hst : st0 = As.reverse ++ .ref b :: rest) (hcat : (rest.map fun v => v.category).sum ≤ 8) (hd : decode cc pc = .ok (.invokevirtual idx, 3)) (kk : ∀ (v : Option Value) (w' : va_W), Q' v w' → GO D cy l R cc nL own ret w0 Q w' (pc + 3) lv (v.toList ++ rest)) : GO D cy l R cc nL own ret w0 Q w pc lv st0 := by
  intro p e s m args below meth c H locs ls C hP hD hS hl
  have C' := C
  obtain ⟨hx, hb, hml, hr, hlk, hown, hts, hK⟩ := C'
  refine g_after C hD hS hl (a := (Value.ref b :: As).toArray) (rest := rest) ?_ kk
  have hrecv := va_recv hK.1 hP hc he
  rw [hq] at hrecv
  exact va_runV (Ts := gtb) (As := As) (rest := rest) ⟨hx, hb, hml, hown, hts⟩ (hM H.size) (cwV n hts (lw_goodIn (by unfold wsV; exact lw_appc (by have h := hL.1; unfold wsV at h; exact h))) rfl hrm.1 hrm.2.1 ⟨rfl, hL.2⟩ hrm.2.2) ⟨g_blind, hrecv, fun U hU hW => g_pre hK hP hD hU hW⟩ rfl hn hl.1 hst (lv_room hcat) hd ⟨Nat.zero_le _, Nat.zero_le _⟩
theorem g_callS (hL : LkS own idx y bc nB rt n) (hM : Con D cy l y bc nB rt rm As w Q') (hrm : rm.cells = 0 ∧ rm.slots = 0 ∧ rm.frames + 1 ≤ R.frames ∧ 8 + (nB + 11) + rm.locals ≤ R.locals)
    (hn : As.length = n) (hst : st0 = As.reverse ++ rest) (hcat : (rest.map fun v => v.category).sum ≤ 8) (hd : decode cc pc = .ok (.invokestatic idx, 3)) (kk : ∀ (v : Option Value) (w' : va_W), Q' v w' → GO D cy l R cc nL own ret w0 Q w' (pc + 3) lv (v.toList ++ rest)) : GO D cy l R cc nL own ret w0 Q w pc lv st0 := by
  intro p e s m args below meth c H locs ls C hP hD hS hl
  have C' := C
  obtain ⟨hx, hb, hml, hr, hlk, hown, hts, hK⟩ := C'
  refine g_after C hD hS hl (a := As.toArray) (rest := rest) ?_ kk
  exact va_runS (Ts := gtb) (As := As) (rest := rest) ⟨hx, hb, hml, hown, hts⟩ (hM H.size) (va_cwS n hts (lw_goodIn (by unfold va_wsS; exact lw_appc (by have h := hL.1; unfold va_wsS at h; exact h))) rfl hrm.1 hrm.2.1 hL.2 hrm.2.2) ⟨g_blind, fun U hU hW => g_pre hK hP hD hU hW⟩ rfl hn hl.1 hst (lv_room hcat) hd ⟨Nat.zero_le _, Nat.zero_le _⟩
theorem g_callU {K owner : String} {x : MethodName} (hL : LkU own idx K owner x y bc nB rt n) (hM : Con D cy l y bc nB rt rm (.ref b :: As) w Q') (hrm : rm.cells = 0 ∧ rm.slots = 0 ∧ rm.frames + 1 ≤ R.frames ∧ 8 + (nB + 11) + rm.locals ≤ R.locals) (q0 ci : Nat) {q : vw_C} {fs : List Value} (hc : vwCl[ci]? = some q) (hq : q.1 = K) (he : w[q0]? = some (b, .inr (ci, fs)))
    (hn : As.length = n) (hst : st0 = As.reverse ++ .ref b :: rest) (hcat : (rest.map fun v => v.category).sum ≤ 8) (hd : decode cc pc = .ok (.invokevirtual idx, 3)) (kk : ∀ (v : Option Value) (w' : va_W), Q' v w' → GO D cy l R cc nL own ret w0 Q w' (pc + 3) lv (v.toList ++ rest)) : GO D cy l R cc nL own ret w0 Q w pc lv st0 := by
  intro p e s m args below meth c H locs ls C hP hD hS hl
  have C' := C
  obtain ⟨hx, hb, hml, hr, hlk, hown, hts, hK⟩ := C'
  refine g_after C hD hS hl (a := (Value.ref b :: As).toArray) (rest := rest) ?_ kk
  have hrecv := va_recv hK.1 hP hc he
  rw [hq] at hrecv
  have hG : GoodIn gtb (va_wsU own idx K owner x y (Cond.code y bc nB rt :: gtb)) := lw_goodIn (by unfold va_wsU; exact lw_appc (by have h := hL.1; unfold va_wsU at h; exact h))
  have hcw : va_CU R s args own K owner idx x y bc nB rt (Cond.code y bc nB rt :: gtb) rm 0 0 n := by
    rcases hL.2.1 with h | h
    · exact va_cwU n hts hG rfl hrm.1 hrm.2.1 h hL.2.2 hrm.2.2
    · exact va_cwA n hts hG rfl hrm.1 hrm.2.1 (hK.2 _ h) hL.2.2 hrm.2.2
  exact va_runU (Ts := gtb) (As := As) (rest := rest) ⟨hx, hb, hml, hown, hts⟩ (hM H.size) hcw ⟨g_blind, hrecv, fun U hU hW => g_pre hK hP hD hU hW⟩ rfl hn hl.1 hst (lv_room hcat) hd ⟨Nat.zero_le _, Nat.zero_le _⟩
theorem g_callN {host : String} (hL : LkN own idx host y bc nB rt n) (hM : Con D cy l y bc nB rt rm (.ref b :: As) w Q') (hrm : rm.cells = 0 ∧ rm.slots = 0 ∧ rm.frames + 1 ≤ R.frames ∧ 8 + (nB + 11) + rm.locals ≤ R.locals) (q0 ci : Nat) {q : vw_C} {fs : List Value} (hc : vwCl[ci]? = some q) (hq : q.1 = y.cls) (he : w[q0]? = some (b, .inr (ci, fs)))
    (hn : As.length = n) (hst : st0 = As.reverse ++ .ref b :: rest) (hcat : (rest.map fun v => v.category).sum ≤ 8) (hd : decode cc pc = .ok (.invokevirtual idx, 3)) (kk : ∀ (v : Option Value) (w' : va_W), Q' v w' → GO D cy l R cc nL own ret w0 Q w' (pc + 3) lv (v.toList ++ rest)) : GO D cy l R cc nL own ret w0 Q w pc lv st0 := by
  intro p e s m args below meth c H locs ls C hP hD hS hl
  have C' := C
  obtain ⟨hx, hb, hml, hr, hlk, hown, hts, hK⟩ := C'
  refine g_after C hD hS hl (a := (Value.ref b :: As).toArray) (rest := rest) ?_ kk
  have hrecv := va_recv hK.1 hP hc he
  rw [hq] at hrecv
  have h1 := hK.2 _ hL.1
  have h2 := hts _ (hL.2.1 _ (List.mem_of_getElem? (i := 0) rfl))
  have h3 := hts _ (hL.2.1 _ (List.mem_of_getElem? (i := 1) rfl))
  have h4 := hts _ (hL.2.1 _ (List.mem_of_getElem? (i := 2) rfl))
  exact va_runVN (Ts := gtb) (As := As) (rest := rest) ⟨hx, hb, hml, hown, hts⟩ (hM H.size) ⟨va_cnB n hts (lw_goodIn (lw_cons (hL.2.1 _ (List.mem_of_getElem? (i := 3) rfl)))) rfl hrm.1 hrm.2.1 h1 h4 hL.2.2 hrm.2.2, h2, h3⟩ ⟨g_blind, hrecv, fun U hU hW => g_pre hK hP hD hU hW⟩ rfl hn hl.1 hst (lv_room hcat) hd ⟨Nat.zero_le _, Nat.zero_le _⟩
end CALLS
end GOB
end
section
section GOH
variable {D : va_G} {cy : Nat → ClassId} {l : Launch} {R : Room} {cc : ByteArray} {nL : Nat} {own : String} {ret : Option FieldType} {w0 : va_W} {Q : Option Value → va_W → Prop} {w : va_W} {pc : Nat} {lv lv' : List (Nat × Value)} {st : List Value}
theorem g_get {K : String} {T : u_T} {N ci idx : Nat} (hin : ∀ x ∈ u_ws K T N, x ∈ gtb) (hc : vwCl[ci]? = some (K, T, N)) (k : Nat) (hk : k < N) (hT : (T k).1 = K) (hlk : Cond.fieldLink own idx K (T k).2.1 (T k).2.2.1 ∈ gtb) (q0 : Nat) {a : Nat} {fs : List Value} {v : Value} (he : w[q0]? = some (a, .inr (ci, fs))) (hv : fs[k]? = some v) (hd : decode cc pc = .ok (.getfield idx, 3)) (kk : GO D cy l R cc nL own ret w0 Q w (pc + 3) lv (v :: st)) : GO D cy l R cc nL own ret w0 Q w pc lv (.ref a :: st) := by
  intro p e s m args below meth c H locs ls C hP hD hS hl
  exact va_get (D := D) (cl := vwCl) (C := K) (T := T) (N := N) C.1 C.2.1 C.2.2.2.2.2.2.1 hin C.2.2.2.2.2.1 C.2.2.2.2.2.2.2.1 hP q0 he hc k hk (C.2.2.2.2.2.2.1 _ hlk) (fun x h => by rw [hT] at h; exact h) hv hd (kk p e s m args below meth c H locs ls C hP hD hS hl)
theorem g_put {K : String} {T : u_T} {N ci idx : Nat} (hin : ∀ x ∈ u_ws K T N, x ∈ gtb) (ty0 : Nat → FieldType) (hty : ∀ k, k < N → parseFieldDescriptor (T k).2.2.1 = some (ty0 k)) (hnm : ∀ a, a < N → ∀ b, b < N → a ≠ b → (T a).2.1 ≠ (T b).2.1) (hc : vwCl[ci]? = some (K, T, N)) (k : Nat) (hk : k < N) (hT : (T k).1 = K) (hfin : (T k).2.2.2 = false) (hlk : Cond.fieldLink own idx K (T k).2.1 (T k).2.2.1 ∈ gtb) (q0 : Nat) {a : Nat} {fs : List Value} {v : Value} (he : w[q0]? = some (a, .inr (ci, fs))) (hn : narrow (ty0 k) v = v) (hf : fits (ty0 k) v = true) (hl9 : k < fs.length) {w' : va_W} (hw : w.set q0 (a, .inr (ci, fs.set k v)) = w') (hd : decode cc pc = .ok (.putfield idx, 3)) (kk : GO D cy l R cc nL own ret w0 Q w' (pc + 3) lv st) : GO D cy l R cc nL own ret w0 Q w pc lv (v :: .ref a :: st) := by
  intro p e s m args below meth c H locs ls C hP hD hS hl
  exact va_put (D := D) (cl := vwCl) (C := K) (T := T) (N := N) C.1 C.2.1 C.2.2.2.2.2.2.1 hin ty0 hty hnm C.2.2.2.2.2.1 C.2.2.2.2.2.2.2.1 hP hD hS q0 he hc k hk (C.2.2.2.2.2.2.1 _ hlk) (fun x h => by rw [hT] at h; exact h) hfin (hty k hk) hn hf hl9 hd (fun H1 locs1 hP1 hD1 hS1 => by rw [hw] at hP1 hD1; exact kk p e s m args below meth c H1 locs1 ls C hP1 hD1 hS1 hl)
theorem g_getN {K : String} {host : String} {T : u_T} {N ci idx : Nat} (hin : ∀ x ∈ u_ws K T N, x ∈ gtb) (hc : vwCl[ci]? = some (K, T, N)) (k : Nat) (hk : k < N) (hT : (T k).1 = K) (hlk : Cond.fieldLinkNest own idx K (T k).2.1 (T k).2.2.1 host ∈ gnt) (q0 : Nat) {a : Nat} {fs : List Value} {v : Value} (he : w[q0]? = some (a, .inr (ci, fs))) (hv : fs[k]? = some v) (hd : decode cc pc = .ok (.getfield idx, 3)) (kk : GO D cy l R cc nL own ret w0 Q w (pc + 3) lv (v :: st)) : GO D cy l R cc nL own ret w0 Q w pc lv (.ref a :: st) := by
  intro p e s m args below meth c H locs ls C hP hD hS hl
  exact va_getN (D := D) (cl := vwCl) (C := K) (T := T) (N := N) C.1 C.2.1 C.2.2.2.2.2.2.1 hin C.2.2.2.2.2.1 C.2.2.2.2.2.2.2.1 hP q0 he hc k hk (va_Nw.use rfl (C.2.2.2.2.2.2.2.2 _ hlk)) (fun x h => by rw [hT] at h; exact h) hv hd (kk p e s m args below meth c H locs ls C hP hD hS hl)
theorem g_putN {K : String} {host : String} {T : u_T} {N ci idx : Nat} (hin : ∀ x ∈ u_ws K T N, x ∈ gtb) (ty0 : Nat → FieldType) (hty : ∀ k, k < N → parseFieldDescriptor (T k).2.2.1 = some (ty0 k)) (hnm : ∀ a, a < N → ∀ b, b < N → a ≠ b → (T a).2.1 ≠ (T b).2.1) (hc : vwCl[ci]? = some (K, T, N)) (k : Nat) (hk : k < N) (hT : (T k).1 = K) (hfin : (T k).2.2.2 = false) (hlk : Cond.fieldLinkNest own idx K (T k).2.1 (T k).2.2.1 host ∈ gnt) (q0 : Nat) {a : Nat} {fs : List Value} {v : Value} (he : w[q0]? = some (a, .inr (ci, fs))) (hn : narrow (ty0 k) v = v) (hf : fits (ty0 k) v = true) (hl9 : k < fs.length) {w' : va_W} (hw : w.set q0 (a, .inr (ci, fs.set k v)) = w') (hd : decode cc pc = .ok (.putfield idx, 3)) (kk : GO D cy l R cc nL own ret w0 Q w' (pc + 3) lv st) : GO D cy l R cc nL own ret w0 Q w pc lv (v :: .ref a :: st) := by
  intro p e s m args below meth c H locs ls C hP hD hS hl
  exact va_putN (D := D) (cl := vwCl) (C := K) (T := T) (N := N) C.1 C.2.1 C.2.2.2.2.2.2.1 hin ty0 hty hnm C.2.2.2.2.2.1 C.2.2.2.2.2.2.2.1 hP hD hS q0 he hc k hk (va_Nw.use rfl (C.2.2.2.2.2.2.2.2 _ hlk)) (fun x h => by rw [hT] at h; exact h) hfin (hty k hk) hn hf hl9 hd (fun H1 locs1 hP1 hD1 hS1 => by rw [hw] at hP1 hD1; exact kk p e s m args below meth c H1 locs1 ls C hP1 hD1 hS1 hl)
theorem g_iald (q0 : Nat) {a : Nat} {n : Nat} {F : Int → Int} (he : w[q0]? = some (a, .inl (cy 0, n, .inl (fun j : Nat => zI (F j))))) {i : Int} (hi : 0 ≤ i ∧ i < n) (hn : n ≤ 100000) (hd : decode cc pc = .ok (.iaload, 1)) (kk : GO D cy l R cc nL own ret w0 Q w (pc + 1) lv (.int (zI (F i)) :: st)) : GO D cy l R cc nL own ret w0 Q w pc lv (.int (zI i) :: .ref a :: st) := by
  intro p e s m args below meth c H locs ls C hP hD hS hl
  refine va_iald C.1 C.2.1 C.2.2.2.2.2.2.2.1 hP q0 0 he rfl (zI_in hi.1 hi.2 (by omega)) hd ?_
  have e1 : ((i.toNat : Nat) : Int) = i := by omega
  rw [zI_clamp hi.1 (by omega), e1]
  exact kk p e s m args below meth c H locs ls C hP hD hS hl
theorem g_zald (q0 : Nat) {a : Nat} {n : Nat} {F : Int → Int} (he : w[q0]? = some (a, .inl (cy 2, n, .inl (fun j : Nat => zI (F j))))) {i : Int} (hi : 0 ≤ i ∧ i < n) (hn : n ≤ 100000) (hd : decode cc pc = .ok (.baload, 1)) (kk : GO D cy l R cc nL own ret w0 Q w (pc + 1) lv (.int (zI (F i)) :: st)) : GO D cy l R cc nL own ret w0 Q w pc lv (.int (zI i) :: .ref a :: st) := by
  intro p e s m args below meth c H locs ls C hP hD hS hl
  refine va_zald C.1 C.2.1 C.2.2.2.2.2.2.2.1 hP q0 2 he rfl (zI_in hi.1 hi.2 (by omega)) hd ?_
  have e1 : ((i.toNat : Nat) : Int) = i := by omega
  rw [zI_clamp hi.1 (by omega), e1]
  exact kk p e s m args below meth c H locs ls C hP hD hS hl
theorem g_lald (q0 : Nat) {a : Nat} {n : Nat} {F : Int → Int} (he : w[q0]? = some (a, .inl (cy 1, n, .inr (.inl (fun j : Nat => zJ (F j)))))) {i : Int} (hi : 0 ≤ i ∧ i < n) (hn : n ≤ 100000) (hd : decode cc pc = .ok (.laload, 1)) (kk : GO D cy l R cc nL own ret w0 Q w (pc + 1) lv (.long (zJ (F i)) :: st)) : GO D cy l R cc nL own ret w0 Q w pc lv (.int (zI i) :: .ref a :: st) := by
  intro p e s m args below meth c H locs ls C hP hD hS hl
  refine va_lald C.1 C.2.1 C.2.2.2.2.2.2.2.1 hP q0 1 he rfl (zI_in hi.1 hi.2 (by omega)) hd ?_
  have e1 : ((i.toNat : Nat) : Int) = i := by omega
  rw [zI_clamp hi.1 (by omega), e1]
  exact kk p e s m args below meth c H locs ls C hP hD hS hl
theorem g_aald (q0 t0 : Nat) {K : String} {cA : ClassId} {a : Nat} {n : Nat} {F : Nat → Option Nat} (he : w[q0]? = some (a, .inl (cA, n, .inr (.inr (.inr (.inr F)))))) (ht : (gT cy)[t0]? = some (cA, .object K)) {i : Int} (hi : 0 ≤ i ∧ i < n) (hn : n ≤ 100000) {r : Nat} (hF : F i.toNat = some r) (hd : decode cc pc = .ok (.aaload, 1)) (kk : GO D cy l R cc nL own ret w0 Q w (pc + 1) lv (.ref r :: st)) : GO D cy l R cc nL own ret w0 Q w pc lv (.int (zI i) :: .ref a :: st) := by
  intro p e s m args below meth c H locs ls C hP hD hS hl
  refine va_aldq C.1 C.2.1 C.2.2.2.2.2.2.2.1 hP q0 t0 he ht (zI_in hi.1 hi.2 (by omega)) hd ?_
  rw [zI_clamp hi.1 (by omega), hF]
  exact kk p e s m args below meth c H locs ls C hP hD hS hl
theorem g_iast (q0 : Nat) {a : Nat} {n : Nat} {F : Int → Int} (he : w[q0]? = some (a, .inl (cy 0, n, .inl (fun j : Nat => zI (F j))))) {i v : Int} (hi : 0 ≤ i ∧ i < n) (hn : n ≤ 100000) {w' : va_W} (hw : w.set q0 (a, .inl (cy 0, n, .inl (fun j : Nat => zI (zup F i v j)))) = w') (hd : decode cc pc = .ok (.iastore, 1)) (kk : GO D cy l R cc nL own ret w0 Q w' (pc + 1) lv st) : GO D cy l R cc nL own ret w0 Q w pc lv (.int (zI v) :: .int (zI i) :: .ref a :: st) := by
  intro p e s m args below meth c H locs ls C hP hD hS hl
  exact va_iast C.1 C.2.1 C.2.2.2.2.2.2.2.1 hP hD hS q0 0 he rfl (zI_in hi.1 hi.2 (by omega)) hd (fun H1 locs1 hP1 hD1 hS1 => by rw [zI_clamp hi.1 (by omega), zup_row32 F hi.1 v, hw] at hP1 hD1; exact kk p e s m args below meth c H1 locs1 ls C hP1 hD1 hS1 hl)
theorem g_zast (q0 : Nat) {a : Nat} {n : Nat} {F : Int → Int} (he : w[q0]? = some (a, .inl (cy 2, n, .inl (fun j : Nat => zI (F j))))) {i v : Int} (hi : 0 ≤ i ∧ i < n) (hn : n ≤ 100000) (hv : v = 0 ∨ v = 1) {w' : va_W} (hw : w.set q0 (a, .inl (cy 2, n, .inl (fun j : Nat => zI (zup F i v j)))) = w') (hd : decode cc pc = .ok (.bastore, 1)) (kk : GO D cy l R cc nL own ret w0 Q w' (pc + 1) lv st) : GO D cy l R cc nL own ret w0 Q w pc lv (.int (zI v) :: .int (zI i) :: .ref a :: st) := by
  intro p e s m args below meth c H locs ls C hP hD hS hl
  have e1 : vp_nar .boolean (zI v) = zI v := by rcases hv with rfl | rfl <;> decide
  exact va_zast C.1 C.2.1 C.2.2.2.2.2.2.2.1 hP hD hS q0 2 he rfl (zI_in hi.1 hi.2 (by omega)) hd (fun H1 locs1 hP1 hD1 hS1 => by rw [e1, zI_clamp hi.1 (by omega), zup_row32 F hi.1 v, hw] at hP1 hD1; exact kk p e s m args below meth c H1 locs1 ls C hP1 hD1 hS1 hl)
theorem g_last (q0 : Nat) {a : Nat} {n : Nat} {F : Int → Int} (he : w[q0]? = some (a, .inl (cy 1, n, .inr (.inl (fun j : Nat => zJ (F j)))))) {i v : Int} (hi : 0 ≤ i ∧ i < n) (hn : n ≤ 100000) {w' : va_W} (hw : w.set q0 (a, .inl (cy 1, n, .inr (.inl (fun j : Nat => zJ (zup F i v j))))) = w') (hd : decode cc pc = .ok (.lastore, 1)) (kk : GO D cy l R cc nL own ret w0 Q w' (pc + 1) lv st) : GO D cy l R cc nL own ret w0 Q w pc lv (.long (zJ v) :: .int (zI i) :: .ref a :: st) := by
  intro p e s m args below meth c H locs ls C hP hD hS hl
  exact va_last C.1 C.2.1 C.2.2.2.2.2.2.2.1 hP hD hS q0 1 he rfl (zI_in hi.1 hi.2 (by omega)) hd (fun H1 locs1 hP1 hD1 hS1 => by rw [zI_clamp hi.1 (by omega), zup_row64 F hi.1 v, hw] at hP1 hD1; exact kk p e s m args below meth c H1 locs1 ls C hP1 hD1 hS1 hl)
theorem g_max {a b : Int} {idx : Nat} (hlk : Cond.methodLink own idx Lib.Math.max.name ∈ gtb) (hst : Cond.static Lib.Math.max.name ∈ gtb) (hi : Cond.initialized "java/lang/Math" ∈ gtb) (hco : Cond.code Lib.Math.max.name Lib.Math.max.code 2 (some .int) ∈ gtb) (hR : 1 ≤ R.frames) (hRl : (st.map fun v => v.category).sum + 13 ≤ R.locals) (ha : -2147483648 ≤ a ∧ a ≤ 2147483647) (hb : -2147483648 ≤ b ∧ b ≤ 2147483647) (hd : decode cc pc = .ok (.invokestatic idx, 3)) (kk : GO D cy l R cc nL own ret w0 Q w (pc + 3) lv (.int (zI (max a b)) :: st)) : GO D cy l R cc nL own ret w0 Q w pc lv (.int (zI b) :: .int (zI a) :: st) := by
  intro p e s m args below meth c H locs ls C hP hD hS hl
  have e1 : (if zI a < zI b then zI b else zI a) = zI (max a b) := zI_max ha hb
  refine va_mmax C.1 C.2.1 (by rw [hl.1]; exact C.2.2.1) C.2.2.2.2.2.1 (C.2.2.2.2.2.2.1 _ hlk) (C.2.2.2.2.2.2.1 _ hst) (C.2.2.2.2.2.2.1 _ hi) (C.2.2.2.2.2.2.1 _ hco) hR hRl (Nat.zero_le _) (Nat.zero_le _) hd ?_
  rw [e1]
  exact kk p e s m args below meth c H locs ls C hP hD hS hl
theorem g_min {a b : Int} {idx : Nat} (hlk : Cond.methodLink own idx Lib.Math.min.name ∈ gtb) (hst : Cond.static Lib.Math.min.name ∈ gtb) (hi : Cond.initialized "java/lang/Math" ∈ gtb) (hco : Cond.code Lib.Math.min.name Lib.Math.min.code 2 (some .int) ∈ gtb) (hR : 1 ≤ R.frames) (hRl : (st.map fun v => v.category).sum + 13 ≤ R.locals) (ha : -2147483648 ≤ a ∧ a ≤ 2147483647) (hb : -2147483648 ≤ b ∧ b ≤ 2147483647) (hd : decode cc pc = .ok (.invokestatic idx, 3)) (kk : GO D cy l R cc nL own ret w0 Q w (pc + 3) lv (.int (zI (min a b)) :: st)) : GO D cy l R cc nL own ret w0 Q w pc lv (.int (zI b) :: .int (zI a) :: st) := by
  intro p e s m args below meth c H locs ls C hP hD hS hl
  have e1 : (if zI b < zI a then zI b else zI a) = zI (min a b) := by
    by_cases h : b < a
    · rw [if_pos ((zI_lt hb ha).mpr h)]; congr 1; omega
    · rw [if_neg (fun q => h ((zI_lt hb ha).mp q))]; congr 1; omega
  refine va_mmin C.1 C.2.1 (by rw [hl.1]; exact C.2.2.1) C.2.2.2.2.2.1 (C.2.2.2.2.2.2.1 _ hlk) (C.2.2.2.2.2.2.1 _ hst) (C.2.2.2.2.2.2.1 _ hi) (C.2.2.2.2.2.2.1 _ hco) hR hRl (Nat.zero_le _) (Nat.zero_le _) hd ?_
  rw [e1]
  exact kk p e s m args below meth c H locs ls C hP hD hS hl
theorem g_maxl {a b : Int} {idx : Nat} (hlk : Cond.methodLink own idx Lib.MathLoose.max_long.x ∈ gtb) (hst : Cond.static Lib.MathLoose.max_long.x ∈ gtb) (hi : Cond.initialized "java/lang/Math" ∈ gtb) (hco : Cond.code Lib.MathLoose.max_long.x Lib.MathLoose.max_long.code 4 (some .long) ∈ gtb) (hR : 1 ≤ R.frames) (hRl : (st.map fun v => v.category).sum + 15 ≤ R.locals) (ha : -9223372036854775808 ≤ a ∧ a ≤ 9223372036854775807) (hb : -9223372036854775808 ≤ b ∧ b ≤ 9223372036854775807) (hd : decode cc pc = .ok (.invokestatic idx, 3)) (kk : GO D cy l R cc nL own ret w0 Q w (pc + 3) lv (.long (zJ (max a b)) :: st)) : GO D cy l R cc nL own ret w0 Q w pc lv (.long (zJ b) :: .long (zJ a) :: st) := by
  intro p e s m args below meth c H locs ls C hP hD hS hl
  have e1 : (if zJ b < zJ a then zJ a else zJ b) = zJ (max a b) := by
    by_cases h : b < a
    · rw [if_pos ((zJ_lt hb ha).mpr h)]; congr 1; omega
    · rw [if_neg (fun q => h ((zJ_lt hb ha).mp q))]; congr 1; omega
  refine va_mmax_long C.1 C.2.1 (by rw [hl.1]; exact C.2.2.1) C.2.2.2.2.2.1 (C.2.2.2.2.2.2.1 _ hlk) (C.2.2.2.2.2.2.1 _ hst) (C.2.2.2.2.2.2.1 _ hi) (C.2.2.2.2.2.2.1 _ hco) hR hRl (Nat.zero_le _) (Nat.zero_le _) hd ?_
  rw [e1]
  exact kk p e s m args below meth c H locs ls C hP hD hS hl
end GOH
end
section
/-! the class's world: 43 cells, by place; σ holds every number, ad every address
 σ 0: 0 drop, 1 moduleCount, 2 string count, 5 swapGain, 6 swapLower, 7 swapHigher; 1 rated, 2 open voltage, 3 irradiance, 4 resistance, 5 diode, 8 light current, 9 string, 10 position (by module); 6 count (by string); 7 members (12 * string + position); 11 powerBefore; 12 sorted -/
def modE (ad : Nat → Nat) (σ : Nat → Int → Int) (i : Int) : va_E := .inr (2, [.ref (ad 1), .int (zI (σ 1 i)), .int (zI (σ 2 i)), .int (zI (σ 3 i)), .int (zI (σ 8 i)), .int (zI (σ 4 i)), .int (zI (σ 5 i)), .int (zI (σ 9 i)), .int (zI (σ 10 i))])
def strE (ad : Nat → Nat) (σ : Nat → Int → Int) (k : Nat) (s : Int) : va_E := .inr (3, [.ref (ad 2), .ref (ad (k + 6)), .int (zI (σ 6 s))])
def memF (σ : Nat → Int → Int) (s : Int) : Int → Int := fun p => if p < 12 then σ 7 (12 * s + p) else 0
def memE (cy : Nat → ClassId) (σ : Nat → Int → Int) (s : Int) : va_E := .inl (cy 0, 12, .inl (fun j : Nat => zI (memF σ s j)))
def arrE (ad : Nat → Nat) (σ : Nat → Int → Int) : va_E := .inr (4, [.ref (ad 1), .ref (ad 2), .int (zI (σ 0 1)), .ref (ad 3), .ref (ad 4), .ref (ad 5), .long (zJ (σ 0 5)), .int (zI (σ 0 6)), .int (zI (σ 0 7)), .ref (ad 6)])
def cwE (cy : Nat → ClassId) (ad : Nat → Nat) (σ : Nat → Int → Int) (k : Nat) : va_E :=
  if k = 0 then arrE ad σ
  else if k = 1 then .inr (0, [.int (zI (σ 0 0))])
  else if k = 2 then .inl (cy 3, 24, .inr (.inr (.inr (.inr (fun j : Nat => some (ad (7 + j)))))))
  else if k = 3 then .inl (cy 4, 6, .inr (.inr (.inr (.inr (fun j : Nat => some (ad (31 + j)))))))
  else if k = 4 then .inr (1, [.ref (ad 3), .int (zI (σ 0 2))])
  else if k = 5 then .inl (cy 1, 6, .inr (.inl (fun j : Nat => zJ (σ 11 j))))
  else if k = 6 then .inl (cy 0, 24, .inl (fun j : Nat => zI (σ 12 j)))
  else if k < 31 then modE ad σ ((k : Int) - 7)
  else if k < 37 then strE ad σ k ((k : Int) - 31)
  else memE cy σ ((k : Int) - 37)
def CW (cy : Nat → ClassId) (ad : Nat → Nat) (σ : Nat → Int → Int) : va_W := (List.range 43).map (fun k => (ad k, cwE cy ad σ k))
section CWS
variable {cy : Nat → ClassId} {ad : Nat → Nat} {σ : Nat → Int → Int} {X : va_W}
theorem CW_len : (CW cy ad σ).length = 43 := by simp [CW]
theorem CW_at {k : Nat} (h : k < 43) : (CW cy ad σ ++ X)[k]? = some (ad k, cwE cy ad σ k) := by
  rw [List.getElem?_append_left (by rw [CW_len]; exact h)]
  simp [CW, h]
theorem CW_set {σ' : Nat → Int → Int} {k : Nat} {e : va_E} (h : k < 43) (he : e = cwE cy ad σ' k) (ho : ∀ j, j < 43 → j ≠ k → cwE cy ad σ' j = cwE cy ad σ j) : (CW cy ad σ ++ X).set k (ad k, e) = CW cy ad σ' ++ X := by
  rw [List.set_append_left _ _ (by rw [CW_len]; exact h)]
  congr 1
  apply List.ext_getElem?
  intro j
  rw [List.getElem?_set]
  by_cases hj : k = j
  · subst hj
    simp [CW, h, he]
  · rw [if_neg hj]
    by_cases h43 : j < 43
    · simp [CW, h43, ho j h43 (fun q => hj q.symm)]
    · simp [CW, h43]
theorem at_arr : (CW cy ad σ ++ X)[0]? = some (ad 0, .inr (4, [.ref (ad 1), .ref (ad 2), .int (zI (σ 0 1)), .ref (ad 3), .ref (ad 4), .ref (ad 5), .long (zJ (σ 0 5)), .int (zI (σ 0 6)), .int (zI (σ 0 7)), .ref (ad 6)])) := CW_at (by decide)
theorem at_dio : (CW cy ad σ ++ X)[1]? = some (ad 1, .inr (0, [.int (zI (σ 0 0))])) := CW_at (by decide)
theorem at_mods : (CW cy ad σ ++ X)[2]? = some (ad 2, .inl (cy 3, 24, .inr (.inr (.inr (.inr (fun j : Nat => some (ad (7 + j)))))))) := CW_at (by decide)
theorem at_strs : (CW cy ad σ ++ X)[3]? = some (ad 3, .inl (cy 4, 6, .inr (.inr (.inr (.inr (fun j : Nat => some (ad (31 + j)))))))) := CW_at (by decide)
theorem at_par : (CW cy ad σ ++ X)[4]? = some (ad 4, .inr (1, [.ref (ad 3), .int (zI (σ 0 2))])) := CW_at (by decide)
theorem at_pb : (CW cy ad σ ++ X)[5]? = some (ad 5, .inl (cy 1, 6, .inr (.inl (fun j : Nat => zJ (σ 11 j))))) := CW_at (by decide)
theorem at_srt : (CW cy ad σ ++ X)[6]? = some (ad 6, .inl (cy 0, 24, .inl (fun j : Nat => zI (σ 12 j)))) := CW_at (by decide)
theorem cwE_mod {k : Nat} (h1 : 7 ≤ k) (h2 : k < 31) : cwE cy ad σ k = modE ad σ ((k : Int) - 7) := by
  unfold cwE
  rw [if_neg (by omega), if_neg (by omega), if_neg (by omega), if_neg (by omega), if_neg (by omega), if_neg (by omega), if_neg (by omega), if_pos h2]
theorem cwE_str {k : Nat} (h1 : 31 ≤ k) (h2 : k < 37) : cwE cy ad σ k = strE ad σ k ((k : Int) - 31) := by
  unfold cwE
  rw [if_neg (by omega), if_neg (by omega), if_neg (by omega), if_neg (by omega), if_neg (by omega), if_neg (by omega), if_neg (by omega), if_neg (by omega), if_pos h2]
theorem cwE_mem {k : Nat} (h1 : 37 ≤ k) : cwE cy ad σ k = memE cy σ ((k : Int) - 37) := by
  unfold cwE
  rw [if_neg (by omega), if_neg (by omega), if_neg (by omega), if_neg (by omega), if_neg (by omega), if_neg (by omega), if_neg (by omega), if_neg (by omega), if_neg (by omega)]
theorem cwE_i {i : Int} (h : 0 ≤ i ∧ i < 24) : cwE cy ad σ (7 + i.toNat) = modE ad σ i := by
  rw [cwE_mod (by omega) (by omega)]
  congr 1
  omega
theorem cwE_s {s : Int} (h : 0 ≤ s ∧ s < 6) : cwE cy ad σ (31 + s.toNat) = strE ad σ (31 + s.toNat) s := by
  rw [cwE_str (by omega) (by omega)]
  congr 1
  omega
theorem cwE_m {s : Int} (h : 0 ≤ s ∧ s < 6) : cwE cy ad σ (37 + s.toNat) = memE cy σ s := by
  rw [cwE_mem (by omega)]
  congr 1
  omega
theorem at_mod {i : Int} (h : 0 ≤ i ∧ i < 24) : (CW cy ad σ ++ X)[7 + i.toNat]? = some (ad (7 + i.toNat), .inr (2, [.ref (ad 1), .int (zI (σ 1 i)), .int (zI (σ 2 i)), .int (zI (σ 3 i)), .int (zI (σ 8 i)), .int (zI (σ 4 i)), .int (zI (σ 5 i)), .int (zI (σ 9 i)), .int (zI (σ 10 i))])) := by
  rw [CW_at (by omega), cwE_i h]; rfl
theorem at_str {s : Int} (h : 0 ≤ s ∧ s < 6) : (CW cy ad σ ++ X)[31 + s.toNat]? = some (ad (31 + s.toNat), .inr (3, [.ref (ad 2), .ref (ad (37 + s.toNat)), .int (zI (σ 6 s))])) := by
  rw [CW_at (by omega), cwE_s h]
  unfold strE
  rw [show 31 + s.toNat + 6 = 37 + s.toNat by omega]
theorem at_mem {s : Int} (h : 0 ≤ s ∧ s < 6) : (CW cy ad σ ++ X)[37 + s.toNat]? = some (ad (37 + s.toNat), .inl (cy 0, 12, .inl (fun j : Nat => zI (memF σ s j)))) := by
  rw [CW_at (by omega), cwE_m h]; rfl
theorem memF_at {s p : Int} (h : p < 12) : memF σ s p = σ 7 (12 * s + p) := if_pos h
theorem cwE_o1 {i v : Int} (h : 0 ≤ i ∧ i < 24) {j : Nat} (hj : j ≠ 7 + i.toNat) : cwE cy ad (up σ 1 i v) j = cwE cy ad σ j := by
  by_cases h1 : 7 ≤ j ∧ j < 31
  · rw [cwE_mod h1.1 h1.2, cwE_mod h1.1 h1.2]
    unfold modE
    have hne : ((j : Int) - 7) ≠ i := by omega
    rw [up_r, zup_n _ _ hne, up_o _ _ _ (show (2 : Nat) ≠ 1 by decide), up_o _ _ _ (show (3 : Nat) ≠ 1 by decide), up_o _ _ _ (show (8 : Nat) ≠ 1 by decide), up_o _ _ _ (show (4 : Nat) ≠ 1 by decide), up_o _ _ _ (show (5 : Nat) ≠ 1 by decide), up_o _ _ _ (show (9 : Nat) ≠ 1 by decide), up_o _ _ _ (show (10 : Nat) ≠ 1 by decide)]
  · unfold cwE arrE strE memE memF
    by_cases h2 : j < 31
    · rw [show ∀ a b : va_E, (if j < 31 then a else b) = a from fun a b => if_pos h2]
      have h7 : j < 7 := by omega
      match j, h7 with
      | 0, _ => rfl
      | 1, _ => rfl
      | 2, _ => rfl
      | 3, _ => rfl
      | 4, _ => rfl
      | 5, _ => rfl
      | 6, _ => rfl
    · rw [show ∀ a b : va_E, (if j < 31 then a else b) = b from fun a b => if_neg h2, show ∀ a b : va_E, (if j < 31 then a else b) = b from fun a b => if_neg h2]
      rw [up_o _ _ _ (show (0 : Nat) ≠ 1 by decide), up_o _ _ _ (show (11 : Nat) ≠ 1 by decide), up_o _ _ _ (show (12 : Nat) ≠ 1 by decide), up_o _ _ _ (show (6 : Nat) ≠ 1 by decide), up_o _ _ _ (show (7 : Nat) ≠ 1 by decide)]
theorem st_1 {i v : Int} (h : 0 ≤ i ∧ i < 24) : (CW cy ad σ ++ X).set (7 + i.toNat) (ad (7 + i.toNat), .inr (2, [.ref (ad 1), .int (zI v), .int (zI (σ 2 i)), .int (zI (σ 3 i)), .int (zI (σ 8 i)), .int (zI (σ 4 i)), .int (zI (σ 5 i)), .int (zI (σ 9 i)), .int (zI (σ 10 i))])) = CW cy ad (up σ 1 i v) ++ X := by
  refine CW_set (by omega) ?_ (fun j _ hj => cwE_o1 h hj)
  rw [cwE_i h]
  unfold modE
  rw [up_r, zup_s, up_o _ _ _ (show (2 : Nat) ≠ 1 by decide), up_o _ _ _ (show (3 : Nat) ≠ 1 by decide), up_o _ _ _ (show (8 : Nat) ≠ 1 by decide), up_o _ _ _ (show (4 : Nat) ≠ 1 by decide), up_o _ _ _ (show (5 : Nat) ≠ 1 by decide), up_o _ _ _ (show (9 : Nat) ≠ 1 by decide), up_o _ _ _ (show (10 : Nat) ≠ 1 by decide)]
theorem cwE_o2 {i v : Int} (h : 0 ≤ i ∧ i < 24) {j : Nat} (hj : j ≠ 7 + i.toNat) : cwE cy ad (up σ 2 i v) j = cwE cy ad σ j := by
  by_cases h1 : 7 ≤ j ∧ j < 31
  · rw [cwE_mod h1.1 h1.2, cwE_mod h1.1 h1.2]
    unfold modE
    have hne : ((j : Int) - 7) ≠ i := by omega
    rw [up_r, zup_n _ _ hne, up_o _ _ _ (show (1 : Nat) ≠ 2 by decide), up_o _ _ _ (show (3 : Nat) ≠ 2 by decide), up_o _ _ _ (show (8 : Nat) ≠ 2 by decide), up_o _ _ _ (show (4 : Nat) ≠ 2 by decide), up_o _ _ _ (show (5 : Nat) ≠ 2 by decide), up_o _ _ _ (show (9 : Nat) ≠ 2 by decide), up_o _ _ _ (show (10 : Nat) ≠ 2 by decide)]
  · unfold cwE arrE strE memE memF
    by_cases h2 : j < 31
    · rw [show ∀ a b : va_E, (if j < 31 then a else b) = a from fun a b => if_pos h2]
      have h7 : j < 7 := by omega
      match j, h7 with
      | 0, _ => rfl
      | 1, _ => rfl
      | 2, _ => rfl
      | 3, _ => rfl
      | 4, _ => rfl
      | 5, _ => rfl
      | 6, _ => rfl
    · rw [show ∀ a b : va_E, (if j < 31 then a else b) = b from fun a b => if_neg h2, show ∀ a b : va_E, (if j < 31 then a else b) = b from fun a b => if_neg h2]
      rw [up_o _ _ _ (show (0 : Nat) ≠ 2 by decide), up_o _ _ _ (show (11 : Nat) ≠ 2 by decide), up_o _ _ _ (show (12 : Nat) ≠ 2 by decide), up_o _ _ _ (show (6 : Nat) ≠ 2 by decide), up_o _ _ _ (show (7 : Nat) ≠ 2 by decide)]
theorem st_2 {i v : Int} (h : 0 ≤ i ∧ i < 24) : (CW cy ad σ ++ X).set (7 + i.toNat) (ad (7 + i.toNat), .inr (2, [.ref (ad 1), .int (zI (σ 1 i)), .int (zI v), .int (zI (σ 3 i)), .int (zI (σ 8 i)), .int (zI (σ 4 i)), .int (zI (σ 5 i)), .int (zI (σ 9 i)), .int (zI (σ 10 i))])) = CW cy ad (up σ 2 i v) ++ X := by
  refine CW_set (by omega) ?_ (fun j _ hj => cwE_o2 h hj)
  rw [cwE_i h]
  unfold modE
  rw [up_r, zup_s, up_o _ _ _ (show (1 : Nat) ≠ 2 by decide), up_o _ _ _ (show (3 : Nat) ≠ 2 by decide), up_o _ _ _ (show (8 : Nat) ≠ 2 by decide), up_o _ _ _ (show (4 : Nat) ≠ 2 by decide), up_o _ _ _ (show (5 : Nat) ≠ 2 by decide), up_o _ _ _ (show (9 : Nat) ≠ 2 by decide), up_o _ _ _ (show (10 : Nat) ≠ 2 by decide)]
theorem cwE_o3 {i v : Int} (h : 0 ≤ i ∧ i < 24) {j : Nat} (hj : j ≠ 7 + i.toNat) : cwE cy ad (up σ 3 i v) j = cwE cy ad σ j := by
  by_cases h1 : 7 ≤ j ∧ j < 31
  · rw [cwE_mod h1.1 h1.2, cwE_mod h1.1 h1.2]
    unfold modE
    have hne : ((j : Int) - 7) ≠ i := by omega
    rw [up_r, zup_n _ _ hne, up_o _ _ _ (show (1 : Nat) ≠ 3 by decide), up_o _ _ _ (show (2 : Nat) ≠ 3 by decide), up_o _ _ _ (show (8 : Nat) ≠ 3 by decide), up_o _ _ _ (show (4 : Nat) ≠ 3 by decide), up_o _ _ _ (show (5 : Nat) ≠ 3 by decide), up_o _ _ _ (show (9 : Nat) ≠ 3 by decide), up_o _ _ _ (show (10 : Nat) ≠ 3 by decide)]
  · unfold cwE arrE strE memE memF
    by_cases h2 : j < 31
    · rw [show ∀ a b : va_E, (if j < 31 then a else b) = a from fun a b => if_pos h2]
      have h7 : j < 7 := by omega
      match j, h7 with
      | 0, _ => rfl
      | 1, _ => rfl
      | 2, _ => rfl
      | 3, _ => rfl
      | 4, _ => rfl
      | 5, _ => rfl
      | 6, _ => rfl
    · rw [show ∀ a b : va_E, (if j < 31 then a else b) = b from fun a b => if_neg h2, show ∀ a b : va_E, (if j < 31 then a else b) = b from fun a b => if_neg h2]
      rw [up_o _ _ _ (show (0 : Nat) ≠ 3 by decide), up_o _ _ _ (show (11 : Nat) ≠ 3 by decide), up_o _ _ _ (show (12 : Nat) ≠ 3 by decide), up_o _ _ _ (show (6 : Nat) ≠ 3 by decide), up_o _ _ _ (show (7 : Nat) ≠ 3 by decide)]
theorem st_3 {i v : Int} (h : 0 ≤ i ∧ i < 24) : (CW cy ad σ ++ X).set (7 + i.toNat) (ad (7 + i.toNat), .inr (2, [.ref (ad 1), .int (zI (σ 1 i)), .int (zI (σ 2 i)), .int (zI v), .int (zI (σ 8 i)), .int (zI (σ 4 i)), .int (zI (σ 5 i)), .int (zI (σ 9 i)), .int (zI (σ 10 i))])) = CW cy ad (up σ 3 i v) ++ X := by
  refine CW_set (by omega) ?_ (fun j _ hj => cwE_o3 h hj)
  rw [cwE_i h]
  unfold modE
  rw [up_r, zup_s, up_o _ _ _ (show (1 : Nat) ≠ 3 by decide), up_o _ _ _ (show (2 : Nat) ≠ 3 by decide), up_o _ _ _ (show (8 : Nat) ≠ 3 by decide), up_o _ _ _ (show (4 : Nat) ≠ 3 by decide), up_o _ _ _ (show (5 : Nat) ≠ 3 by decide), up_o _ _ _ (show (9 : Nat) ≠ 3 by decide), up_o _ _ _ (show (10 : Nat) ≠ 3 by decide)]
theorem cwE_o8 {i v : Int} (h : 0 ≤ i ∧ i < 24) {j : Nat} (hj : j ≠ 7 + i.toNat) : cwE cy ad (up σ 8 i v) j = cwE cy ad σ j := by
  by_cases h1 : 7 ≤ j ∧ j < 31
  · rw [cwE_mod h1.1 h1.2, cwE_mod h1.1 h1.2]
    unfold modE
    have hne : ((j : Int) - 7) ≠ i := by omega
    rw [up_r, zup_n _ _ hne, up_o _ _ _ (show (1 : Nat) ≠ 8 by decide), up_o _ _ _ (show (2 : Nat) ≠ 8 by decide), up_o _ _ _ (show (3 : Nat) ≠ 8 by decide), up_o _ _ _ (show (4 : Nat) ≠ 8 by decide), up_o _ _ _ (show (5 : Nat) ≠ 8 by decide), up_o _ _ _ (show (9 : Nat) ≠ 8 by decide), up_o _ _ _ (show (10 : Nat) ≠ 8 by decide)]
  · unfold cwE arrE strE memE memF
    by_cases h2 : j < 31
    · rw [show ∀ a b : va_E, (if j < 31 then a else b) = a from fun a b => if_pos h2]
      have h7 : j < 7 := by omega
      match j, h7 with
      | 0, _ => rfl
      | 1, _ => rfl
      | 2, _ => rfl
      | 3, _ => rfl
      | 4, _ => rfl
      | 5, _ => rfl
      | 6, _ => rfl
    · rw [show ∀ a b : va_E, (if j < 31 then a else b) = b from fun a b => if_neg h2, show ∀ a b : va_E, (if j < 31 then a else b) = b from fun a b => if_neg h2]
      rw [up_o _ _ _ (show (0 : Nat) ≠ 8 by decide), up_o _ _ _ (show (11 : Nat) ≠ 8 by decide), up_o _ _ _ (show (12 : Nat) ≠ 8 by decide), up_o _ _ _ (show (6 : Nat) ≠ 8 by decide), up_o _ _ _ (show (7 : Nat) ≠ 8 by decide)]
theorem st_8 {i v : Int} (h : 0 ≤ i ∧ i < 24) : (CW cy ad σ ++ X).set (7 + i.toNat) (ad (7 + i.toNat), .inr (2, [.ref (ad 1), .int (zI (σ 1 i)), .int (zI (σ 2 i)), .int (zI (σ 3 i)), .int (zI v), .int (zI (σ 4 i)), .int (zI (σ 5 i)), .int (zI (σ 9 i)), .int (zI (σ 10 i))])) = CW cy ad (up σ 8 i v) ++ X := by
  refine CW_set (by omega) ?_ (fun j _ hj => cwE_o8 h hj)
  rw [cwE_i h]
  unfold modE
  rw [up_r, zup_s, up_o _ _ _ (show (1 : Nat) ≠ 8 by decide), up_o _ _ _ (show (2 : Nat) ≠ 8 by decide), up_o _ _ _ (show (3 : Nat) ≠ 8 by decide), up_o _ _ _ (show (4 : Nat) ≠ 8 by decide), up_o _ _ _ (show (5 : Nat) ≠ 8 by decide), up_o _ _ _ (show (9 : Nat) ≠ 8 by decide), up_o _ _ _ (show (10 : Nat) ≠ 8 by decide)]
theorem cwE_o4 {i v : Int} (h : 0 ≤ i ∧ i < 24) {j : Nat} (hj : j ≠ 7 + i.toNat) : cwE cy ad (up σ 4 i v) j = cwE cy ad σ j := by
  by_cases h1 : 7 ≤ j ∧ j < 31
  · rw [cwE_mod h1.1 h1.2, cwE_mod h1.1 h1.2]
    unfold modE
    have hne : ((j : Int) - 7) ≠ i := by omega
    rw [up_r, zup_n _ _ hne, up_o _ _ _ (show (1 : Nat) ≠ 4 by decide), up_o _ _ _ (show (2 : Nat) ≠ 4 by decide), up_o _ _ _ (show (3 : Nat) ≠ 4 by decide), up_o _ _ _ (show (8 : Nat) ≠ 4 by decide), up_o _ _ _ (show (5 : Nat) ≠ 4 by decide), up_o _ _ _ (show (9 : Nat) ≠ 4 by decide), up_o _ _ _ (show (10 : Nat) ≠ 4 by decide)]
  · unfold cwE arrE strE memE memF
    by_cases h2 : j < 31
    · rw [show ∀ a b : va_E, (if j < 31 then a else b) = a from fun a b => if_pos h2]
      have h7 : j < 7 := by omega
      match j, h7 with
      | 0, _ => rfl
      | 1, _ => rfl
      | 2, _ => rfl
      | 3, _ => rfl
      | 4, _ => rfl
      | 5, _ => rfl
      | 6, _ => rfl
    · rw [show ∀ a b : va_E, (if j < 31 then a else b) = b from fun a b => if_neg h2, show ∀ a b : va_E, (if j < 31 then a else b) = b from fun a b => if_neg h2]
      rw [up_o _ _ _ (show (0 : Nat) ≠ 4 by decide), up_o _ _ _ (show (11 : Nat) ≠ 4 by decide), up_o _ _ _ (show (12 : Nat) ≠ 4 by decide), up_o _ _ _ (show (6 : Nat) ≠ 4 by decide), up_o _ _ _ (show (7 : Nat) ≠ 4 by decide)]
theorem st_4 {i v : Int} (h : 0 ≤ i ∧ i < 24) : (CW cy ad σ ++ X).set (7 + i.toNat) (ad (7 + i.toNat), .inr (2, [.ref (ad 1), .int (zI (σ 1 i)), .int (zI (σ 2 i)), .int (zI (σ 3 i)), .int (zI (σ 8 i)), .int (zI v), .int (zI (σ 5 i)), .int (zI (σ 9 i)), .int (zI (σ 10 i))])) = CW cy ad (up σ 4 i v) ++ X := by
  refine CW_set (by omega) ?_ (fun j _ hj => cwE_o4 h hj)
  rw [cwE_i h]
  unfold modE
  rw [up_r, zup_s, up_o _ _ _ (show (1 : Nat) ≠ 4 by decide), up_o _ _ _ (show (2 : Nat) ≠ 4 by decide), up_o _ _ _ (show (3 : Nat) ≠ 4 by decide), up_o _ _ _ (show (8 : Nat) ≠ 4 by decide), up_o _ _ _ (show (5 : Nat) ≠ 4 by decide), up_o _ _ _ (show (9 : Nat) ≠ 4 by decide), up_o _ _ _ (show (10 : Nat) ≠ 4 by decide)]
theorem cwE_o5 {i v : Int} (h : 0 ≤ i ∧ i < 24) {j : Nat} (hj : j ≠ 7 + i.toNat) : cwE cy ad (up σ 5 i v) j = cwE cy ad σ j := by
  by_cases h1 : 7 ≤ j ∧ j < 31
  · rw [cwE_mod h1.1 h1.2, cwE_mod h1.1 h1.2]
    unfold modE
    have hne : ((j : Int) - 7) ≠ i := by omega
    rw [up_r, zup_n _ _ hne, up_o _ _ _ (show (1 : Nat) ≠ 5 by decide), up_o _ _ _ (show (2 : Nat) ≠ 5 by decide), up_o _ _ _ (show (3 : Nat) ≠ 5 by decide), up_o _ _ _ (show (8 : Nat) ≠ 5 by decide), up_o _ _ _ (show (4 : Nat) ≠ 5 by decide), up_o _ _ _ (show (9 : Nat) ≠ 5 by decide), up_o _ _ _ (show (10 : Nat) ≠ 5 by decide)]
  · unfold cwE arrE strE memE memF
    by_cases h2 : j < 31
    · rw [show ∀ a b : va_E, (if j < 31 then a else b) = a from fun a b => if_pos h2]
      have h7 : j < 7 := by omega
      match j, h7 with
      | 0, _ => rfl
      | 1, _ => rfl
      | 2, _ => rfl
      | 3, _ => rfl
      | 4, _ => rfl
      | 5, _ => rfl
      | 6, _ => rfl
    · rw [show ∀ a b : va_E, (if j < 31 then a else b) = b from fun a b => if_neg h2, show ∀ a b : va_E, (if j < 31 then a else b) = b from fun a b => if_neg h2]
      rw [up_o _ _ _ (show (0 : Nat) ≠ 5 by decide), up_o _ _ _ (show (11 : Nat) ≠ 5 by decide), up_o _ _ _ (show (12 : Nat) ≠ 5 by decide), up_o _ _ _ (show (6 : Nat) ≠ 5 by decide), up_o _ _ _ (show (7 : Nat) ≠ 5 by decide)]
theorem st_5 {i v : Int} (h : 0 ≤ i ∧ i < 24) : (CW cy ad σ ++ X).set (7 + i.toNat) (ad (7 + i.toNat), .inr (2, [.ref (ad 1), .int (zI (σ 1 i)), .int (zI (σ 2 i)), .int (zI (σ 3 i)), .int (zI (σ 8 i)), .int (zI (σ 4 i)), .int (zI v), .int (zI (σ 9 i)), .int (zI (σ 10 i))])) = CW cy ad (up σ 5 i v) ++ X := by
  refine CW_set (by omega) ?_ (fun j _ hj => cwE_o5 h hj)
  rw [cwE_i h]
  unfold modE
  rw [up_r, zup_s, up_o _ _ _ (show (1 : Nat) ≠ 5 by decide), up_o _ _ _ (show (2 : Nat) ≠ 5 by decide), up_o _ _ _ (show (3 : Nat) ≠ 5 by decide), up_o _ _ _ (show (8 : Nat) ≠ 5 by decide), up_o _ _ _ (show (4 : Nat) ≠ 5 by decide), up_o _ _ _ (show (9 : Nat) ≠ 5 by decide), up_o _ _ _ (show (10 : Nat) ≠ 5 by decide)]
theorem cwE_o9 {i v : Int} (h : 0 ≤ i ∧ i < 24) {j : Nat} (hj : j ≠ 7 + i.toNat) : cwE cy ad (up σ 9 i v) j = cwE cy ad σ j := by
  by_cases h1 : 7 ≤ j ∧ j < 31
  · rw [cwE_mod h1.1 h1.2, cwE_mod h1.1 h1.2]
    unfold modE
    have hne : ((j : Int) - 7) ≠ i := by omega
    rw [up_r, zup_n _ _ hne, up_o _ _ _ (show (1 : Nat) ≠ 9 by decide), up_o _ _ _ (show (2 : Nat) ≠ 9 by decide), up_o _ _ _ (show (3 : Nat) ≠ 9 by decide), up_o _ _ _ (show (8 : Nat) ≠ 9 by decide), up_o _ _ _ (show (4 : Nat) ≠ 9 by decide), up_o _ _ _ (show (5 : Nat) ≠ 9 by decide), up_o _ _ _ (show (10 : Nat) ≠ 9 by decide)]
  · unfold cwE arrE strE memE memF
    by_cases h2 : j < 31
    · rw [show ∀ a b : va_E, (if j < 31 then a else b) = a from fun a b => if_pos h2]
      have h7 : j < 7 := by omega
      match j, h7 with
      | 0, _ => rfl
      | 1, _ => rfl
      | 2, _ => rfl
      | 3, _ => rfl
      | 4, _ => rfl
      | 5, _ => rfl
      | 6, _ => rfl
    · rw [show ∀ a b : va_E, (if j < 31 then a else b) = b from fun a b => if_neg h2, show ∀ a b : va_E, (if j < 31 then a else b) = b from fun a b => if_neg h2]
      rw [up_o _ _ _ (show (0 : Nat) ≠ 9 by decide), up_o _ _ _ (show (11 : Nat) ≠ 9 by decide), up_o _ _ _ (show (12 : Nat) ≠ 9 by decide), up_o _ _ _ (show (6 : Nat) ≠ 9 by decide), up_o _ _ _ (show (7 : Nat) ≠ 9 by decide)]
theorem st_9 {i v : Int} (h : 0 ≤ i ∧ i < 24) : (CW cy ad σ ++ X).set (7 + i.toNat) (ad (7 + i.toNat), .inr (2, [.ref (ad 1), .int (zI (σ 1 i)), .int (zI (σ 2 i)), .int (zI (σ 3 i)), .int (zI (σ 8 i)), .int (zI (σ 4 i)), .int (zI (σ 5 i)), .int (zI v), .int (zI (σ 10 i))])) = CW cy ad (up σ 9 i v) ++ X := by
  refine CW_set (by omega) ?_ (fun j _ hj => cwE_o9 h hj)
  rw [cwE_i h]
  unfold modE
  rw [up_r, zup_s, up_o _ _ _ (show (1 : Nat) ≠ 9 by decide), up_o _ _ _ (show (2 : Nat) ≠ 9 by decide), up_o _ _ _ (show (3 : Nat) ≠ 9 by decide), up_o _ _ _ (show (8 : Nat) ≠ 9 by decide), up_o _ _ _ (show (4 : Nat) ≠ 9 by decide), up_o _ _ _ (show (5 : Nat) ≠ 9 by decide), up_o _ _ _ (show (10 : Nat) ≠ 9 by decide)]
theorem cwE_o10 {i v : Int} (h : 0 ≤ i ∧ i < 24) {j : Nat} (hj : j ≠ 7 + i.toNat) : cwE cy ad (up σ 10 i v) j = cwE cy ad σ j := by
  by_cases h1 : 7 ≤ j ∧ j < 31
  · rw [cwE_mod h1.1 h1.2, cwE_mod h1.1 h1.2]
    unfold modE
    have hne : ((j : Int) - 7) ≠ i := by omega
    rw [up_r, zup_n _ _ hne, up_o _ _ _ (show (1 : Nat) ≠ 10 by decide), up_o _ _ _ (show (2 : Nat) ≠ 10 by decide), up_o _ _ _ (show (3 : Nat) ≠ 10 by decide), up_o _ _ _ (show (8 : Nat) ≠ 10 by decide), up_o _ _ _ (show (4 : Nat) ≠ 10 by decide), up_o _ _ _ (show (5 : Nat) ≠ 10 by decide), up_o _ _ _ (show (9 : Nat) ≠ 10 by decide)]
  · unfold cwE arrE strE memE memF
    by_cases h2 : j < 31
    · rw [show ∀ a b : va_E, (if j < 31 then a else b) = a from fun a b => if_pos h2]
      have h7 : j < 7 := by omega
      match j, h7 with
      | 0, _ => rfl
      | 1, _ => rfl
      | 2, _ => rfl
      | 3, _ => rfl
      | 4, _ => rfl
      | 5, _ => rfl
      | 6, _ => rfl
    · rw [show ∀ a b : va_E, (if j < 31 then a else b) = b from fun a b => if_neg h2, show ∀ a b : va_E, (if j < 31 then a else b) = b from fun a b => if_neg h2]
      rw [up_o _ _ _ (show (0 : Nat) ≠ 10 by decide), up_o _ _ _ (show (11 : Nat) ≠ 10 by decide), up_o _ _ _ (show (12 : Nat) ≠ 10 by decide), up_o _ _ _ (show (6 : Nat) ≠ 10 by decide), up_o _ _ _ (show (7 : Nat) ≠ 10 by decide)]
theorem st_10 {i v : Int} (h : 0 ≤ i ∧ i < 24) : (CW cy ad σ ++ X).set (7 + i.toNat) (ad (7 + i.toNat), .inr (2, [.ref (ad 1), .int (zI (σ 1 i)), .int (zI (σ 2 i)), .int (zI (σ 3 i)), .int (zI (σ 8 i)), .int (zI (σ 4 i)), .int (zI (σ 5 i)), .int (zI (σ 9 i)), .int (zI v)])) = CW cy ad (up σ 10 i v) ++ X := by
  refine CW_set (by omega) ?_ (fun j _ hj => cwE_o10 h hj)
  rw [cwE_i h]
  unfold modE
  rw [up_r, zup_s, up_o _ _ _ (show (1 : Nat) ≠ 10 by decide), up_o _ _ _ (show (2 : Nat) ≠ 10 by decide), up_o _ _ _ (show (3 : Nat) ≠ 10 by decide), up_o _ _ _ (show (8 : Nat) ≠ 10 by decide), up_o _ _ _ (show (4 : Nat) ≠ 10 by decide), up_o _ _ _ (show (5 : Nat) ≠ 10 by decide), up_o _ _ _ (show (9 : Nat) ≠ 10 by decide)]
theorem st_6 {s v : Int} (h : 0 ≤ s ∧ s < 6) : (CW cy ad σ ++ X).set (31 + s.toNat) (ad (31 + s.toNat), .inr (3, [.ref (ad 2), .ref (ad (37 + s.toNat)), .int (zI v)])) = CW cy ad (up σ 6 s v) ++ X := by
  refine CW_set (by omega) ?_ (fun j hj43 hj => ?_)
  · rw [cwE_s h]
    unfold strE
    rw [up_r, zup_s, show 31 + s.toNat + 6 = 37 + s.toNat by omega]
  · by_cases h1 : 31 ≤ j ∧ j < 37
    · rw [cwE_str h1.1 h1.2, cwE_str h1.1 h1.2]
      unfold strE
      rw [up_r, zup_n _ _ (show (j : Int) - 31 ≠ s by omega)]
    · by_cases h2 : j < 31
      · by_cases h3 : 7 ≤ j
        · rw [cwE_mod h3 h2, cwE_mod h3 h2]; rfl
        · match j, (show j < 7 by omega) with
          | 0, _ => rfl
          | 1, _ => rfl
          | 2, _ => rfl
          | 3, _ => rfl
          | 4, _ => rfl
          | 5, _ => rfl
          | 6, _ => rfl
      · rw [cwE_mem (by omega), cwE_mem (by omega)]; rfl
theorem st_7 {s p v : Int} (h : 0 ≤ s ∧ s < 6) (hp : 0 ≤ p ∧ p < 12) : (CW cy ad σ ++ X).set (37 + s.toNat) (ad (37 + s.toNat), .inl (cy 0, 12, .inl (fun j : Nat => zI (zup (memF σ s) p v j)))) = CW cy ad (up σ 7 (12 * s + p) v) ++ X := by
  refine CW_set (by omega) ?_ (fun j hj43 hj => ?_)
  · rw [cwE_m h]
    unfold memE
    congr 4
    funext k
    congr 1
    unfold memF
    rw [up_r]
    unfold zup
    by_cases hk : (k : Int) = p
    · rw [if_pos hk, if_pos (by omega), if_pos (by omega)]
    · rw [if_neg hk]
      dsimp only
      by_cases hk2 : (k : Int) < 12
      · rw [if_pos hk2, if_pos hk2, if_neg (by omega)]
      · rw [if_neg hk2, if_neg hk2]
  · by_cases h1 : 37 ≤ j
    · rw [cwE_mem h1, cwE_mem h1]
      unfold memE
      congr 4
      funext k
      congr 1
      unfold memF
      rw [up_r]
      by_cases hk2 : (k : Int) < 12
      · rw [if_pos hk2, if_pos hk2, zup_n _ _ (by omega)]
      · rw [if_neg hk2, if_neg hk2]
    · by_cases h2 : j < 31
      · by_cases h3 : 7 ≤ j
        · rw [cwE_mod h3 h2, cwE_mod h3 h2]; rfl
        · match j, (show j < 7 by omega) with
          | 0, _ => rfl
          | 1, _ => rfl
          | 2, _ => rfl
          | 3, _ => rfl
          | 4, _ => rfl
          | 5, _ => rfl
          | 6, _ => rfl
      · rw [cwE_str (by omega) (by omega), cwE_str (by omega) (by omega)]; rfl
theorem st_0_1 {v : Int} : (CW cy ad σ ++ X).set 0 (ad 0, .inr (4, [.ref (ad 1), .ref (ad 2), .int (zI v), .ref (ad 3), .ref (ad 4), .ref (ad 5), .long (zJ (σ 0 5)), .int (zI (σ 0 6)), .int (zI (σ 0 7)), .ref (ad 6)])) = CW cy ad (up σ 0 1 v) ++ X := by
  refine CW_set (by decide) rfl (fun j hj43 hj => ?_)
  · by_cases h1 : 37 ≤ j
    · rw [cwE_mem h1, cwE_mem h1]; rfl
    · by_cases h2 : 31 ≤ j
      · rw [cwE_str h2 (by omega), cwE_str h2 (by omega)]; rfl
      · by_cases h3 : 7 ≤ j
        · rw [cwE_mod h3 (by omega), cwE_mod h3 (by omega)]; rfl
        · match j, (show j < 7 by omega), hj with
          | 0, _, hj => first | rfl | exact absurd rfl hj
          | 1, _, hj => first | rfl | exact absurd rfl hj
          | 2, _, hj => first | rfl | exact absurd rfl hj
          | 3, _, hj => first | rfl | exact absurd rfl hj
          | 4, _, hj => first | rfl | exact absurd rfl hj
          | 5, _, hj => first | rfl | exact absurd rfl hj
          | 6, _, hj => first | rfl | exact absurd rfl hj
theorem st_0_5 {v : Int} : (CW cy ad σ ++ X).set 0 (ad 0, .inr (4, [.ref (ad 1), .ref (ad 2), .int (zI (σ 0 1)), .ref (ad 3), .ref (ad 4), .ref (ad 5), .long (zJ v), .int (zI (σ 0 6)), .int (zI (σ 0 7)), .ref (ad 6)])) = CW cy ad (up σ 0 5 v) ++ X := by
  refine CW_set (by decide) rfl (fun j hj43 hj => ?_)
  · by_cases h1 : 37 ≤ j
    · rw [cwE_mem h1, cwE_mem h1]; rfl
    · by_cases h2 : 31 ≤ j
      · rw [cwE_str h2 (by omega), cwE_str h2 (by omega)]; rfl
      · by_cases h3 : 7 ≤ j
        · rw [cwE_mod h3 (by omega), cwE_mod h3 (by omega)]; rfl
        · match j, (show j < 7 by omega), hj with
          | 0, _, hj => first | rfl | exact absurd rfl hj
          | 1, _, hj => first | rfl | exact absurd rfl hj
          | 2, _, hj => first | rfl | exact absurd rfl hj
          | 3, _, hj => first | rfl | exact absurd rfl hj
          | 4, _, hj => first | rfl | exact absurd rfl hj
          | 5, _, hj => first | rfl | exact absurd rfl hj
          | 6, _, hj => first | rfl | exact absurd rfl hj
theorem st_0_6 {v : Int} : (CW cy ad σ ++ X).set 0 (ad 0, .inr (4, [.ref (ad 1), .ref (ad 2), .int (zI (σ 0 1)), .ref (ad 3), .ref (ad 4), .ref (ad 5), .long (zJ (σ 0 5)), .int (zI v), .int (zI (σ 0 7)), .ref (ad 6)])) = CW cy ad (up σ 0 6 v) ++ X := by
  refine CW_set (by decide) rfl (fun j hj43 hj => ?_)
  · by_cases h1 : 37 ≤ j
    · rw [cwE_mem h1, cwE_mem h1]; rfl
    · by_cases h2 : 31 ≤ j
      · rw [cwE_str h2 (by omega), cwE_str h2 (by omega)]; rfl
      · by_cases h3 : 7 ≤ j
        · rw [cwE_mod h3 (by omega), cwE_mod h3 (by omega)]; rfl
        · match j, (show j < 7 by omega), hj with
          | 0, _, hj => first | rfl | exact absurd rfl hj
          | 1, _, hj => first | rfl | exact absurd rfl hj
          | 2, _, hj => first | rfl | exact absurd rfl hj
          | 3, _, hj => first | rfl | exact absurd rfl hj
          | 4, _, hj => first | rfl | exact absurd rfl hj
          | 5, _, hj => first | rfl | exact absurd rfl hj
          | 6, _, hj => first | rfl | exact absurd rfl hj
theorem st_0_7 {v : Int} : (CW cy ad σ ++ X).set 0 (ad 0, .inr (4, [.ref (ad 1), .ref (ad 2), .int (zI (σ 0 1)), .ref (ad 3), .ref (ad 4), .ref (ad 5), .long (zJ (σ 0 5)), .int (zI (σ 0 6)), .int (zI v), .ref (ad 6)])) = CW cy ad (up σ 0 7 v) ++ X := by
  refine CW_set (by decide) rfl (fun j hj43 hj => ?_)
  · by_cases h1 : 37 ≤ j
    · rw [cwE_mem h1, cwE_mem h1]; rfl
    · by_cases h2 : 31 ≤ j
      · rw [cwE_str h2 (by omega), cwE_str h2 (by omega)]; rfl
      · by_cases h3 : 7 ≤ j
        · rw [cwE_mod h3 (by omega), cwE_mod h3 (by omega)]; rfl
        · match j, (show j < 7 by omega), hj with
          | 0, _, hj => first | rfl | exact absurd rfl hj
          | 1, _, hj => first | rfl | exact absurd rfl hj
          | 2, _, hj => first | rfl | exact absurd rfl hj
          | 3, _, hj => first | rfl | exact absurd rfl hj
          | 4, _, hj => first | rfl | exact absurd rfl hj
          | 5, _, hj => first | rfl | exact absurd rfl hj
          | 6, _, hj => first | rfl | exact absurd rfl hj
theorem st_0_0 {v : Int} : (CW cy ad σ ++ X).set 1 (ad 1, .inr (0, [.int (zI v)])) = CW cy ad (up σ 0 0 v) ++ X := by
  refine CW_set (by decide) rfl (fun j hj43 hj => ?_)
  · by_cases h1 : 37 ≤ j
    · rw [cwE_mem h1, cwE_mem h1]; rfl
    · by_cases h2 : 31 ≤ j
      · rw [cwE_str h2 (by omega), cwE_str h2 (by omega)]; rfl
      · by_cases h3 : 7 ≤ j
        · rw [cwE_mod h3 (by omega), cwE_mod h3 (by omega)]; rfl
        · match j, (show j < 7 by omega), hj with
          | 0, _, hj => first | rfl | exact absurd rfl hj
          | 1, _, hj => first | rfl | exact absurd rfl hj
          | 2, _, hj => first | rfl | exact absurd rfl hj
          | 3, _, hj => first | rfl | exact absurd rfl hj
          | 4, _, hj => first | rfl | exact absurd rfl hj
          | 5, _, hj => first | rfl | exact absurd rfl hj
          | 6, _, hj => first | rfl | exact absurd rfl hj
theorem st_0_2 {v : Int} : (CW cy ad σ ++ X).set 4 (ad 4, .inr (1, [.ref (ad 3), .int (zI v)])) = CW cy ad (up σ 0 2 v) ++ X := by
  refine CW_set (by decide) rfl (fun j hj43 hj => ?_)
  · by_cases h1 : 37 ≤ j
    · rw [cwE_mem h1, cwE_mem h1]; rfl
    · by_cases h2 : 31 ≤ j
      · rw [cwE_str h2 (by omega), cwE_str h2 (by omega)]; rfl
      · by_cases h3 : 7 ≤ j
        · rw [cwE_mod h3 (by omega), cwE_mod h3 (by omega)]; rfl
        · match j, (show j < 7 by omega), hj with
          | 0, _, hj => first | rfl | exact absurd rfl hj
          | 1, _, hj => first | rfl | exact absurd rfl hj
          | 2, _, hj => first | rfl | exact absurd rfl hj
          | 3, _, hj => first | rfl | exact absurd rfl hj
          | 4, _, hj => first | rfl | exact absurd rfl hj
          | 5, _, hj => first | rfl | exact absurd rfl hj
          | 6, _, hj => first | rfl | exact absurd rfl hj
theorem st_11 {i v : Int} : (CW cy ad σ ++ X).set 5 (ad 5, .inl (cy 1, 6, .inr (.inl (fun j : Nat => zJ (zup (σ 11) i v j))))) = CW cy ad (up σ 11 i v) ++ X := by
  refine CW_set (by decide) rfl (fun j hj43 hj => ?_)
  · by_cases h1 : 37 ≤ j
    · rw [cwE_mem h1, cwE_mem h1]; rfl
    · by_cases h2 : 31 ≤ j
      · rw [cwE_str h2 (by omega), cwE_str h2 (by omega)]; rfl
      · by_cases h3 : 7 ≤ j
        · rw [cwE_mod h3 (by omega), cwE_mod h3 (by omega)]; rfl
        · match j, (show j < 7 by omega), hj with
          | 0, _, hj => first | rfl | exact absurd rfl hj
          | 1, _, hj => first | rfl | exact absurd rfl hj
          | 2, _, hj => first | rfl | exact absurd rfl hj
          | 3, _, hj => first | rfl | exact absurd rfl hj
          | 4, _, hj => first | rfl | exact absurd rfl hj
          | 5, _, hj => first | rfl | exact absurd rfl hj
          | 6, _, hj => first | rfl | exact absurd rfl hj
theorem st_12 {i v : Int} : (CW cy ad σ ++ X).set 6 (ad 6, .inl (cy 0, 24, .inl (fun j : Nat => zI (zup (σ 12) i v j)))) = CW cy ad (up σ 12 i v) ++ X := by
  refine CW_set (by decide) rfl (fun j hj43 hj => ?_)
  · by_cases h1 : 37 ≤ j
    · rw [cwE_mem h1, cwE_mem h1]; rfl
    · by_cases h2 : 31 ≤ j
      · rw [cwE_str h2 (by omega), cwE_str h2 (by omega)]; rfl
      · by_cases h3 : 7 ≤ j
        · rw [cwE_mod h3 (by omega), cwE_mod h3 (by omega)]; rfl
        · match j, (show j < 7 by omega), hj with
          | 0, _, hj => first | rfl | exact absurd rfl hj
          | 1, _, hj => first | rfl | exact absurd rfl hj
          | 2, _, hj => first | rfl | exact absurd rfl hj
          | 3, _, hj => first | rfl | exact absurd rfl hj
          | 4, _, hj => first | rfl | exact absurd rfl hj
          | 5, _, hj => first | rfl | exact absurd rfl hj
          | 6, _, hj => first | rfl | exact absurd rfl hj
end CWS
end
section
/-! the reference's world: 13 cells; τ 0: 0 drop, 1 modules, 2 strings, 3 limit, 5 swapGain, 6 swapLower, 7 swapHigher; 1 rated, 2 open voltage, 3 light, 4 resistance, 5 diode, 6 count, 7 place, 8 power, 9 delivered, 10 bestBefore, 11 sorted, 12 stringBefore -/
def MW (cy : Nat → ClassId) (bd : Nat → Nat) (τ : Nat → Int → Int) : va_W := [(bd 0, .inr (5, [.int (zI (τ 0 0)), .int (zI (τ 0 1)), .ref (bd 1), .ref (bd 2), .ref (bd 3), .ref (bd 4), .ref (bd 5), .int (zI (τ 0 2)), .ref (bd 6), .ref (bd 7), .int (zI (τ 0 3)), .ref (bd 8), .ref (bd 9), .long (zJ (τ 0 5)), .int (zI (τ 0 6)), .int (zI (τ 0 7)), .ref (bd 10), .ref (bd 11), .ref (bd 12)])), (bd 1, .inl (cy 0, 24, .inl (fun j : Nat => zI (τ 1 j)))), (bd 2, .inl (cy 0, 24, .inl (fun j : Nat => zI (τ 2 j)))), (bd 3, .inl (cy 0, 24, .inl (fun j : Nat => zI (τ 3 j)))), (bd 4, .inl (cy 0, 24, .inl (fun j : Nat => zI (τ 4 j)))), (bd 5, .inl (cy 2, 24, .inl (fun j : Nat => zI (τ 5 j)))), (bd 6, .inl (cy 0, 6, .inl (fun j : Nat => zI (τ 6 j)))), (bd 7, .inl (cy 0, 72, .inl (fun j : Nat => zI (τ 7 j)))), (bd 8, .inl (cy 1, 1201, .inr (.inl (fun j : Nat => zJ (τ 8 j))))), (bd 9, .inl (cy 0, 7201, .inl (fun j : Nat => zI (τ 9 j)))), (bd 10, .inl (cy 1, 6, .inr (.inl (fun j : Nat => zJ (τ 10 j))))), (bd 11, .inl (cy 0, 24, .inl (fun j : Nat => zI (τ 11 j)))), (bd 12, .inl (cy 0, 24, .inl (fun j : Nat => zI (τ 12 j))))]
section MWS
variable {cy : Nat → ClassId} {bd : Nat → Nat} {τ : Nat → Int → Int} {X : va_W}
theorem am_obj : (MW cy bd τ ++ X)[0]? = some (bd 0, .inr (5, [.int (zI (τ 0 0)), .int (zI (τ 0 1)), .ref (bd 1), .ref (bd 2), .ref (bd 3), .ref (bd 4), .ref (bd 5), .int (zI (τ 0 2)), .ref (bd 6), .ref (bd 7), .int (zI (τ 0 3)), .ref (bd 8), .ref (bd 9), .long (zJ (τ 0 5)), .int (zI (τ 0 6)), .int (zI (τ 0 7)), .ref (bd 10), .ref (bd 11), .ref (bd 12)])) := rfl
theorem am_1 : (MW cy bd τ ++ X)[1]? = some (bd 1, .inl (cy 0, 24, .inl (fun j : Nat => zI (τ 1 j)))) := rfl
theorem am_2 : (MW cy bd τ ++ X)[2]? = some (bd 2, .inl (cy 0, 24, .inl (fun j : Nat => zI (τ 2 j)))) := rfl
theorem am_3 : (MW cy bd τ ++ X)[3]? = some (bd 3, .inl (cy 0, 24, .inl (fun j : Nat => zI (τ 3 j)))) := rfl
theorem am_4 : (MW cy bd τ ++ X)[4]? = some (bd 4, .inl (cy 0, 24, .inl (fun j : Nat => zI (τ 4 j)))) := rfl
theorem am_5 : (MW cy bd τ ++ X)[5]? = some (bd 5, .inl (cy 2, 24, .inl (fun j : Nat => zI (τ 5 j)))) := rfl
theorem am_6 : (MW cy bd τ ++ X)[6]? = some (bd 6, .inl (cy 0, 6, .inl (fun j : Nat => zI (τ 6 j)))) := rfl
theorem am_7 : (MW cy bd τ ++ X)[7]? = some (bd 7, .inl (cy 0, 72, .inl (fun j : Nat => zI (τ 7 j)))) := rfl
theorem am_8 : (MW cy bd τ ++ X)[8]? = some (bd 8, .inl (cy 1, 1201, .inr (.inl (fun j : Nat => zJ (τ 8 j))))) := rfl
theorem am_9 : (MW cy bd τ ++ X)[9]? = some (bd 9, .inl (cy 0, 7201, .inl (fun j : Nat => zI (τ 9 j)))) := rfl
theorem am_10 : (MW cy bd τ ++ X)[10]? = some (bd 10, .inl (cy 1, 6, .inr (.inl (fun j : Nat => zJ (τ 10 j))))) := rfl
theorem am_11 : (MW cy bd τ ++ X)[11]? = some (bd 11, .inl (cy 0, 24, .inl (fun j : Nat => zI (τ 11 j)))) := rfl
theorem am_12 : (MW cy bd τ ++ X)[12]? = some (bd 12, .inl (cy 0, 24, .inl (fun j : Nat => zI (τ 12 j)))) := rfl
theorem sm_0_0 {v : Int} : (MW cy bd τ ++ X).set 0 (bd 0, .inr (5, [.int (zI v), .int (zI (τ 0 1)), .ref (bd 1), .ref (bd 2), .ref (bd 3), .ref (bd 4), .ref (bd 5), .int (zI (τ 0 2)), .ref (bd 6), .ref (bd 7), .int (zI (τ 0 3)), .ref (bd 8), .ref (bd 9), .long (zJ (τ 0 5)), .int (zI (τ 0 6)), .int (zI (τ 0 7)), .ref (bd 10), .ref (bd 11), .ref (bd 12)])) = MW cy bd (up τ 0 0 v) ++ X := rfl
theorem sm_0_1 {v : Int} : (MW cy bd τ ++ X).set 0 (bd 0, .inr (5, [.int (zI (τ 0 0)), .int (zI v), .ref (bd 1), .ref (bd 2), .ref (bd 3), .ref (bd 4), .ref (bd 5), .int (zI (τ 0 2)), .ref (bd 6), .ref (bd 7), .int (zI (τ 0 3)), .ref (bd 8), .ref (bd 9), .long (zJ (τ 0 5)), .int (zI (τ 0 6)), .int (zI (τ 0 7)), .ref (bd 10), .ref (bd 11), .ref (bd 12)])) = MW cy bd (up τ 0 1 v) ++ X := rfl
theorem sm_0_2 {v : Int} : (MW cy bd τ ++ X).set 0 (bd 0, .inr (5, [.int (zI (τ 0 0)), .int (zI (τ 0 1)), .ref (bd 1), .ref (bd 2), .ref (bd 3), .ref (bd 4), .ref (bd 5), .int (zI v), .ref (bd 6), .ref (bd 7), .int (zI (τ 0 3)), .ref (bd 8), .ref (bd 9), .long (zJ (τ 0 5)), .int (zI (τ 0 6)), .int (zI (τ 0 7)), .ref (bd 10), .ref (bd 11), .ref (bd 12)])) = MW cy bd (up τ 0 2 v) ++ X := rfl
theorem sm_0_3 {v : Int} : (MW cy bd τ ++ X).set 0 (bd 0, .inr (5, [.int (zI (τ 0 0)), .int (zI (τ 0 1)), .ref (bd 1), .ref (bd 2), .ref (bd 3), .ref (bd 4), .ref (bd 5), .int (zI (τ 0 2)), .ref (bd 6), .ref (bd 7), .int (zI v), .ref (bd 8), .ref (bd 9), .long (zJ (τ 0 5)), .int (zI (τ 0 6)), .int (zI (τ 0 7)), .ref (bd 10), .ref (bd 11), .ref (bd 12)])) = MW cy bd (up τ 0 3 v) ++ X := rfl
theorem sm_0_5 {v : Int} : (MW cy bd τ ++ X).set 0 (bd 0, .inr (5, [.int (zI (τ 0 0)), .int (zI (τ 0 1)), .ref (bd 1), .ref (bd 2), .ref (bd 3), .ref (bd 4), .ref (bd 5), .int (zI (τ 0 2)), .ref (bd 6), .ref (bd 7), .int (zI (τ 0 3)), .ref (bd 8), .ref (bd 9), .long (zJ v), .int (zI (τ 0 6)), .int (zI (τ 0 7)), .ref (bd 10), .ref (bd 11), .ref (bd 12)])) = MW cy bd (up τ 0 5 v) ++ X := rfl
theorem sm_0_6 {v : Int} : (MW cy bd τ ++ X).set 0 (bd 0, .inr (5, [.int (zI (τ 0 0)), .int (zI (τ 0 1)), .ref (bd 1), .ref (bd 2), .ref (bd 3), .ref (bd 4), .ref (bd 5), .int (zI (τ 0 2)), .ref (bd 6), .ref (bd 7), .int (zI (τ 0 3)), .ref (bd 8), .ref (bd 9), .long (zJ (τ 0 5)), .int (zI v), .int (zI (τ 0 7)), .ref (bd 10), .ref (bd 11), .ref (bd 12)])) = MW cy bd (up τ 0 6 v) ++ X := rfl
theorem sm_0_7 {v : Int} : (MW cy bd τ ++ X).set 0 (bd 0, .inr (5, [.int (zI (τ 0 0)), .int (zI (τ 0 1)), .ref (bd 1), .ref (bd 2), .ref (bd 3), .ref (bd 4), .ref (bd 5), .int (zI (τ 0 2)), .ref (bd 6), .ref (bd 7), .int (zI (τ 0 3)), .ref (bd 8), .ref (bd 9), .long (zJ (τ 0 5)), .int (zI (τ 0 6)), .int (zI v), .ref (bd 10), .ref (bd 11), .ref (bd 12)])) = MW cy bd (up τ 0 7 v) ++ X := rfl
theorem sm_1 {i v : Int} : (MW cy bd τ ++ X).set 1 (bd 1, .inl (cy 0, 24, .inl (fun j : Nat => zI (zup (τ 1) i v j)))) = MW cy bd (up τ 1 i v) ++ X := rfl
theorem sm_2 {i v : Int} : (MW cy bd τ ++ X).set 2 (bd 2, .inl (cy 0, 24, .inl (fun j : Nat => zI (zup (τ 2) i v j)))) = MW cy bd (up τ 2 i v) ++ X := rfl
theorem sm_3 {i v : Int} : (MW cy bd τ ++ X).set 3 (bd 3, .inl (cy 0, 24, .inl (fun j : Nat => zI (zup (τ 3) i v j)))) = MW cy bd (up τ 3 i v) ++ X := rfl
theorem sm_4 {i v : Int} : (MW cy bd τ ++ X).set 4 (bd 4, .inl (cy 0, 24, .inl (fun j : Nat => zI (zup (τ 4) i v j)))) = MW cy bd (up τ 4 i v) ++ X := rfl
theorem sm_5 {i v : Int} : (MW cy bd τ ++ X).set 5 (bd 5, .inl (cy 2, 24, .inl (fun j : Nat => zI (zup (τ 5) i v j)))) = MW cy bd (up τ 5 i v) ++ X := rfl
theorem sm_6 {i v : Int} : (MW cy bd τ ++ X).set 6 (bd 6, .inl (cy 0, 6, .inl (fun j : Nat => zI (zup (τ 6) i v j)))) = MW cy bd (up τ 6 i v) ++ X := rfl
theorem sm_7 {i v : Int} : (MW cy bd τ ++ X).set 7 (bd 7, .inl (cy 0, 72, .inl (fun j : Nat => zI (zup (τ 7) i v j)))) = MW cy bd (up τ 7 i v) ++ X := rfl
theorem sm_8 {i v : Int} : (MW cy bd τ ++ X).set 8 (bd 8, .inl (cy 1, 1201, .inr (.inl (fun j : Nat => zJ (zup (τ 8) i v j))))) = MW cy bd (up τ 8 i v) ++ X := rfl
theorem sm_9 {i v : Int} : (MW cy bd τ ++ X).set 9 (bd 9, .inl (cy 0, 7201, .inl (fun j : Nat => zI (zup (τ 9) i v j)))) = MW cy bd (up τ 9 i v) ++ X := rfl
theorem sm_10 {i v : Int} : (MW cy bd τ ++ X).set 10 (bd 10, .inl (cy 1, 6, .inr (.inl (fun j : Nat => zJ (zup (τ 10) i v j))))) = MW cy bd (up τ 10 i v) ++ X := rfl
theorem sm_11 {i v : Int} : (MW cy bd τ ++ X).set 11 (bd 11, .inl (cy 0, 24, .inl (fun j : Nat => zI (zup (τ 11) i v j)))) = MW cy bd (up τ 11 i v) ++ X := rfl
theorem sm_12 {i v : Int} : (MW cy bd τ ++ X).set 12 (bd 12, .inl (cy 0, 24, .inl (fun j : Nat => zI (zup (τ 12) i v j)))) = MW cy bd (up τ 12 i v) ++ X := rfl
end MWS
end
section
/-! the tables' words, by place; links of fields and calls -/
theorem tw_mk {x : Cond} (i : Nat) (h : lw_tbl[i]? = some x) (hg : goodWord x = true) : x ∈ gtb := List.mem_filter.mpr ⟨List.mem_of_getElem? h, hg⟩
theorem tn_mk {x : Cond} (i : Nat) (h : lw_tbl[i]? = some x) (hg : gisN x = true) : x ∈ gnt := List.mem_filter.mpr ⟨List.mem_of_getElem? h, hg⟩
theorem all4 {T : List Cond} {a b c d : Cond} (ha : a ∈ T) (hb : b ∈ T) (hc : c ∈ T) (hd : d ∈ T) : ∀ z ∈ ([a, b, c, d] : List Cond), z ∈ T := List.forall_mem_cons.mpr ⟨ha, List.forall_mem_cons.mpr ⟨hb, List.forall_mem_cons.mpr ⟨hc, List.forall_mem_cons.mpr ⟨hd, fun _ h => absurd h List.not_mem_nil⟩⟩⟩⟩
theorem all5 {T : List Cond} {a b c d e : Cond} (ha : a ∈ T) (hb : b ∈ T) (hc : c ∈ T) (hd : d ∈ T) (he : e ∈ T) : ∀ z ∈ ([a, b, c, d, e] : List Cond), z ∈ T := List.forall_mem_cons.mpr ⟨ha, all4 hb hc hd he⟩
theorem all6 {T : List Cond} {a b c d e f : Cond} (ha : a ∈ T) (hb : b ∈ T) (hc : c ∈ T) (hd : d ∈ T) (he : e ∈ T) (hf : f ∈ T) : ∀ z ∈ ([a, b, c, d, e, f] : List Cond), z ∈ T := List.forall_mem_cons.mpr ⟨ha, all5 hb hc hd he hf⟩
theorem inG_X1 : ∀ x ∈ u_ws RX1 TX1 1, x ∈ gtb := by
  intro x hx
  obtain ⟨k, hk, rfl⟩ := List.mem_map.mp hx
  have hk : k < 1 := List.mem_range.mp hk
  match k, hk with
  | 0, _ => exact tw_mk 62 (by decide +kernel) (by decide +kernel)
theorem inG_X2 : ∀ x ∈ u_ws RX2 TX2 2, x ∈ gtb := by
  intro x hx
  obtain ⟨k, hk, rfl⟩ := List.mem_map.mp hx
  have hk : k < 2 := List.mem_range.mp hk
  match k, hk with
  | 0, _ => exact tw_mk 143 (by decide +kernel) (by decide +kernel)
  | 1, _ => exact tw_mk 145 (by decide +kernel) (by decide +kernel)
theorem inG_X3 : ∀ x ∈ u_ws RX3 TX3 9, x ∈ gtb := by
  intro x hx
  obtain ⟨k, hk, rfl⟩ := List.mem_map.mp hx
  have hk : k < 9 := List.mem_range.mp hk
  match k, hk with
  | 0, _ => exact tw_mk 96 (by decide +kernel) (by decide +kernel)
  | 1, _ => exact tw_mk 98 (by decide +kernel) (by decide +kernel)
  | 2, _ => exact tw_mk 100 (by decide +kernel) (by decide +kernel)
  | 3, _ => exact tw_mk 102 (by decide +kernel) (by decide +kernel)
  | 4, _ => exact tw_mk 104 (by decide +kernel) (by decide +kernel)
  | 5, _ => exact tw_mk 106 (by decide +kernel) (by decide +kernel)
  | 6, _ => exact tw_mk 108 (by decide +kernel) (by decide +kernel)
  | 7, _ => exact tw_mk 110 (by decide +kernel) (by decide +kernel)
  | 8, _ => exact tw_mk 112 (by decide +kernel) (by decide +kernel)
theorem inG_X4 : ∀ x ∈ u_ws RX4 TX4 3, x ∈ gtb := by
  intro x hx
  obtain ⟨k, hk, rfl⟩ := List.mem_map.mp hx
  have hk : k < 3 := List.mem_range.mp hk
  match k, hk with
  | 0, _ => exact tw_mk 127 (by decide +kernel) (by decide +kernel)
  | 1, _ => exact tw_mk 129 (by decide +kernel) (by decide +kernel)
  | 2, _ => exact tw_mk 131 (by decide +kernel) (by decide +kernel)
theorem inG_X5 : ∀ x ∈ u_ws RX5 TX5 10, x ∈ gtb := by
  intro x hx
  obtain ⟨k, hk, rfl⟩ := List.mem_map.mp hx
  have hk : k < 10 := List.mem_range.mp hk
  match k, hk with
  | 0, _ => exact tw_mk 158 (by decide +kernel) (by decide +kernel)
  | 1, _ => exact tw_mk 160 (by decide +kernel) (by decide +kernel)
  | 2, _ => exact tw_mk 162 (by decide +kernel) (by decide +kernel)
  | 3, _ => exact tw_mk 164 (by decide +kernel) (by decide +kernel)
  | 4, _ => exact tw_mk 166 (by decide +kernel) (by decide +kernel)
  | 5, _ => exact tw_mk 168 (by decide +kernel) (by decide +kernel)
  | 6, _ => exact tw_mk 170 (by decide +kernel) (by decide +kernel)
  | 7, _ => exact tw_mk 172 (by decide +kernel) (by decide +kernel)
  | 8, _ => exact tw_mk 174 (by decide +kernel) (by decide +kernel)
  | 9, _ => exact tw_mk 176 (by decide +kernel) (by decide +kernel)
theorem inG_X6 : ∀ x ∈ u_ws RX6 TX6 19, x ∈ gtb := by
  intro x hx
  obtain ⟨k, hk, rfl⟩ := List.mem_map.mp hx
  have hk : k < 19 := List.mem_range.mp hk
  match k, hk with
  | 0, _ => exact tw_mk 476 (by decide +kernel) (by decide +kernel)
  | 1, _ => exact tw_mk 478 (by decide +kernel) (by decide +kernel)
  | 2, _ => exact tw_mk 480 (by decide +kernel) (by decide +kernel)
  | 3, _ => exact tw_mk 482 (by decide +kernel) (by decide +kernel)
  | 4, _ => exact tw_mk 484 (by decide +kernel) (by decide +kernel)
  | 5, _ => exact tw_mk 486 (by decide +kernel) (by decide +kernel)
  | 6, _ => exact tw_mk 488 (by decide +kernel) (by decide +kernel)
  | 7, _ => exact tw_mk 490 (by decide +kernel) (by decide +kernel)
  | 8, _ => exact tw_mk 492 (by decide +kernel) (by decide +kernel)
  | 9, _ => exact tw_mk 494 (by decide +kernel) (by decide +kernel)
  | 10, _ => exact tw_mk 496 (by decide +kernel) (by decide +kernel)
  | 11, _ => exact tw_mk 498 (by decide +kernel) (by decide +kernel)
  | 12, _ => exact tw_mk 500 (by decide +kernel) (by decide +kernel)
  | 13, _ => exact tw_mk 502 (by decide +kernel) (by decide +kernel)
  | 14, _ => exact tw_mk 504 (by decide +kernel) (by decide +kernel)
  | 15, _ => exact tw_mk 506 (by decide +kernel) (by decide +kernel)
  | 16, _ => exact tw_mk 508 (by decide +kernel) (by decide +kernel)
  | 17, _ => exact tw_mk 510 (by decide +kernel) (by decide +kernel)
  | 18, _ => exact tw_mk 512 (by decide +kernel) (by decide +kernel)
  | k + 19, h => exact absurd h (by omega)
theorem fl_X1_9 : Cond.fieldLink RX1 9 RX1 (TX1 0).2.1 (TX1 0).2.2.1 ∈ gtb := tw_mk 59 (by decide +kernel) (by decide +kernel)
theorem fl_X2_9 : Cond.fieldLink RX2 9 RX2 (TX2 1).2.1 (TX2 1).2.2.1 ∈ gtb := tw_mk 141 (by decide +kernel) (by decide +kernel)
theorem fl_X2_15 : Cond.fieldLink RX2 15 RX2 (TX2 0).2.1 (TX2 0).2.2.1 ∈ gtb := tw_mk 140 (by decide +kernel) (by decide +kernel)
theorem fl_X3_7 : Cond.fieldLink RX3 7 RX3 (TX3 1).2.1 (TX3 1).2.2.1 ∈ gtb := tw_mk 78 (by decide +kernel) (by decide +kernel)
theorem fl_X3_13 : Cond.fieldLink RX3 13 RX3 (TX3 2).2.1 (TX3 2).2.2.1 ∈ gtb := tw_mk 80 (by decide +kernel) (by decide +kernel)
theorem fl_X3_16 : Cond.fieldLink RX3 16 RX3 (TX3 3).2.1 (TX3 3).2.2.1 ∈ gtb := tw_mk 82 (by decide +kernel) (by decide +kernel)
theorem fl_X3_19 : Cond.fieldLink RX3 19 RX3 (TX3 4).2.1 (TX3 4).2.2.1 ∈ gtb := tw_mk 84 (by decide +kernel) (by decide +kernel)
theorem fl_X3_22 : Cond.fieldLink RX3 22 RX3 (TX3 5).2.1 (TX3 5).2.2.1 ∈ gtb := tw_mk 87 (by decide +kernel) (by decide +kernel)
theorem fl_X3_25 : Cond.fieldLink RX3 25 RX3 (TX3 6).2.1 (TX3 6).2.2.1 ∈ gtb := tw_mk 89 (by decide +kernel) (by decide +kernel)
theorem fl_X3_29 : Cond.fieldLink RX3 29 RX3 (TX3 7).2.1 (TX3 7).2.2.1 ∈ gtb := tw_mk 92 (by decide +kernel) (by decide +kernel)
theorem fl_X3_32 : Cond.fieldLink RX3 32 RX3 (TX3 8).2.1 (TX3 8).2.2.1 ∈ gtb := tw_mk 94 (by decide +kernel) (by decide +kernel)
theorem fl_X3_35 : Cond.fieldLink RX3 35 RX3 (TX3 0).2.1 (TX3 0).2.2.1 ∈ gtb := tw_mk 77 (by decide +kernel) (by decide +kernel)
theorem fl_X3_39 : Cond.fieldLinkNest RX3 39 RX1 (TX1 0).2.1 (TX1 0).2.2.1 "PvArray" ∈ gnt := tn_mk 60 (by decide +kernel) (by decide +kernel)
theorem fl_X4_9 : Cond.fieldLink RX4 9 RX4 (TX4 1).2.1 (TX4 1).2.2.1 ∈ gtb := tw_mk 123 (by decide +kernel) (by decide +kernel)
theorem fl_X4_15 : Cond.fieldLink RX4 15 RX4 (TX4 2).2.1 (TX4 2).2.2.1 ∈ gtb := tw_mk 125 (by decide +kernel) (by decide +kernel)
theorem fl_X4_19 : Cond.fieldLink RX4 19 RX4 (TX4 0).2.1 (TX4 0).2.2.1 ∈ gtb := tw_mk 122 (by decide +kernel) (by decide +kernel)
theorem fl_X4_29 : Cond.fieldLinkNest RX4 29 RX3 (TX3 4).2.1 (TX3 4).2.2.1 "PvArray" ∈ gnt := tn_mk 85 (by decide +kernel) (by decide +kernel)
theorem fl_X4_38 : Cond.fieldLinkNest RX4 38 RX3 (TX3 6).2.1 (TX3 6).2.2.1 "PvArray" ∈ gnt := tn_mk 90 (by decide +kernel) (by decide +kernel)
theorem fl_X5_9 : Cond.fieldLink RX5 9 RX5 (TX5 2).2.1 (TX5 2).2.2.1 ∈ gtb := tw_mk 150 (by decide +kernel) (by decide +kernel)
theorem fl_X5_15 : Cond.fieldLink RX5 15 RX5 (TX5 5).2.1 (TX5 5).2.2.1 ∈ gtb := tw_mk 153 (by decide +kernel) (by decide +kernel)
theorem fl_X5_19 : Cond.fieldLink RX5 19 RX5 (TX5 6).2.1 (TX5 6).2.2.1 ∈ gtb := tw_mk 154 (by decide +kernel) (by decide +kernel)
theorem fl_X5_23 : Cond.fieldLink RX5 23 RX5 (TX5 7).2.1 (TX5 7).2.2.1 ∈ gtb := tw_mk 155 (by decide +kernel) (by decide +kernel)
theorem fl_X5_26 : Cond.fieldLink RX5 26 RX5 (TX5 8).2.1 (TX5 8).2.2.1 ∈ gtb := tw_mk 156 (by decide +kernel) (by decide +kernel)
theorem fl_X5_29 : Cond.fieldLink RX5 29 RX5 (TX5 9).2.1 (TX5 9).2.2.1 ∈ gtb := tw_mk 157 (by decide +kernel) (by decide +kernel)
theorem fl_X5_51 : Cond.fieldLink RX5 51 RX5 (TX5 4).2.1 (TX5 4).2.2.1 ∈ gtb := tw_mk 152 (by decide +kernel) (by decide +kernel)
theorem fl_X5_55 : Cond.fieldLink RX5 55 RX5 (TX5 0).2.1 (TX5 0).2.2.1 ∈ gtb := tw_mk 148 (by decide +kernel) (by decide +kernel)
theorem fl_X5_59 : Cond.fieldLink RX5 59 RX5 (TX5 1).2.1 (TX5 1).2.2.1 ∈ gtb := tw_mk 149 (by decide +kernel) (by decide +kernel)
theorem fl_X5_63 : Cond.fieldLink RX5 63 RX5 (TX5 3).2.1 (TX5 3).2.2.1 ∈ gtb := tw_mk 151 (by decide +kernel) (by decide +kernel)
theorem fl_X5_67 : Cond.fieldLinkNest RX5 67 RX2 (TX2 1).2.1 (TX2 1).2.2.1 "PvArray" ∈ gnt := tn_mk 142 (by decide +kernel) (by decide +kernel)
theorem fl_X5_82 : Cond.fieldLinkNest RX5 82 RX3 (TX3 1).2.1 (TX3 1).2.2.1 "PvArray" ∈ gnt := tn_mk 79 (by decide +kernel) (by decide +kernel)
theorem fl_X5_85 : Cond.fieldLinkNest RX5 85 RX3 (TX3 2).2.1 (TX3 2).2.2.1 "PvArray" ∈ gnt := tn_mk 81 (by decide +kernel) (by decide +kernel)
theorem fl_X5_99 : Cond.fieldLinkNest RX5 99 RX3 (TX3 3).2.1 (TX3 3).2.2.1 "PvArray" ∈ gnt := tn_mk 83 (by decide +kernel) (by decide +kernel)
theorem fl_X5_102 : Cond.fieldLinkNest RX5 102 RX3 (TX3 5).2.1 (TX3 5).2.2.1 "PvArray" ∈ gnt := tn_mk 88 (by decide +kernel) (by decide +kernel)
theorem fl_X5_105 : Cond.fieldLinkNest RX5 105 RX3 (TX3 6).2.1 (TX3 6).2.2.1 "PvArray" ∈ gnt := tn_mk 91 (by decide +kernel) (by decide +kernel)
theorem fl_X5_109 : Cond.fieldLinkNest RX5 109 RX1 (TX1 0).2.1 (TX1 0).2.2.1 "PvArray" ∈ gnt := tn_mk 61 (by decide +kernel) (by decide +kernel)
theorem fl_X5_112 : Cond.fieldLinkNest RX5 112 RX3 (TX3 7).2.1 (TX3 7).2.2.1 "PvArray" ∈ gnt := tn_mk 93 (by decide +kernel) (by decide +kernel)
theorem fl_X5_122 : Cond.fieldLinkNest RX5 122 RX4 (TX4 2).2.1 (TX4 2).2.2.1 "PvArray" ∈ gnt := tn_mk 126 (by decide +kernel) (by decide +kernel)
theorem fl_X5_123 : Cond.fieldLinkNest RX5 123 RX4 (TX4 1).2.1 (TX4 1).2.2.1 "PvArray" ∈ gnt := tn_mk 124 (by decide +kernel) (by decide +kernel)
theorem fl_X5_126 : Cond.fieldLinkNest RX5 126 RX3 (TX3 4).2.1 (TX3 4).2.2.1 "PvArray" ∈ gnt := tn_mk 86 (by decide +kernel) (by decide +kernel)
theorem fl_X5_185 : Cond.fieldLinkNest RX5 185 RX3 (TX3 8).2.1 (TX3 8).2.2.1 "PvArray" ∈ gnt := tn_mk 95 (by decide +kernel) (by decide +kernel)
theorem fl_X6_7 : Cond.fieldLink RX6 7 RX6 (TX6 2).2.1 (TX6 2).2.2.1 ∈ gtb := tw_mk 459 (by decide +kernel) (by decide +kernel)
theorem fl_X6_13 : Cond.fieldLink RX6 13 RX6 (TX6 3).2.1 (TX6 3).2.2.1 ∈ gtb := tw_mk 460 (by decide +kernel) (by decide +kernel)
theorem fl_X6_16 : Cond.fieldLink RX6 16 RX6 (TX6 4).2.1 (TX6 4).2.2.1 ∈ gtb := tw_mk 461 (by decide +kernel) (by decide +kernel)
theorem fl_X6_19 : Cond.fieldLink RX6 19 RX6 (TX6 5).2.1 (TX6 5).2.2.1 ∈ gtb := tw_mk 462 (by decide +kernel) (by decide +kernel)
theorem fl_X6_22 : Cond.fieldLink RX6 22 RX6 (TX6 6).2.1 (TX6 6).2.2.1 ∈ gtb := tw_mk 463 (by decide +kernel) (by decide +kernel)
theorem fl_X6_26 : Cond.fieldLink RX6 26 RX6 (TX6 8).2.1 (TX6 8).2.2.1 ∈ gtb := tw_mk 465 (by decide +kernel) (by decide +kernel)
theorem fl_X6_29 : Cond.fieldLink RX6 29 RX6 (TX6 9).2.1 (TX6 9).2.2.1 ∈ gtb := tw_mk 466 (by decide +kernel) (by decide +kernel)
theorem fl_X6_32 : Cond.fieldLink RX6 32 RX6 (TX6 11).2.1 (TX6 11).2.2.1 ∈ gtb := tw_mk 468 (by decide +kernel) (by decide +kernel)
theorem fl_X6_36 : Cond.fieldLink RX6 36 RX6 (TX6 12).2.1 (TX6 12).2.2.1 ∈ gtb := tw_mk 469 (by decide +kernel) (by decide +kernel)
theorem fl_X6_39 : Cond.fieldLink RX6 39 RX6 (TX6 16).2.1 (TX6 16).2.2.1 ∈ gtb := tw_mk 473 (by decide +kernel) (by decide +kernel)
theorem fl_X6_42 : Cond.fieldLink RX6 42 RX6 (TX6 17).2.1 (TX6 17).2.2.1 ∈ gtb := tw_mk 474 (by decide +kernel) (by decide +kernel)
theorem fl_X6_45 : Cond.fieldLink RX6 45 RX6 (TX6 18).2.1 (TX6 18).2.2.1 ∈ gtb := tw_mk 475 (by decide +kernel) (by decide +kernel)
theorem fl_X6_48 : Cond.fieldLink RX6 48 RX6 (TX6 0).2.1 (TX6 0).2.2.1 ∈ gtb := tw_mk 457 (by decide +kernel) (by decide +kernel)
theorem fl_X6_52 : Cond.fieldLink RX6 52 RX6 (TX6 1).2.1 (TX6 1).2.2.1 ∈ gtb := tw_mk 458 (by decide +kernel) (by decide +kernel)
theorem fl_X6_59 : Cond.fieldLink RX6 59 RX6 (TX6 7).2.1 (TX6 7).2.2.1 ∈ gtb := tw_mk 464 (by decide +kernel) (by decide +kernel)
theorem fl_X6_110 : Cond.fieldLink RX6 110 RX6 (TX6 10).2.1 (TX6 10).2.2.1 ∈ gtb := tw_mk 467 (by decide +kernel) (by decide +kernel)
theorem fl_X6_135 : Cond.fieldLink RX6 135 RX6 (TX6 13).2.1 (TX6 13).2.2.1 ∈ gtb := tw_mk 470 (by decide +kernel) (by decide +kernel)
theorem fl_X6_139 : Cond.fieldLink RX6 139 RX6 (TX6 14).2.1 (TX6 14).2.2.1 ∈ gtb := tw_mk 471 (by decide +kernel) (by decide +kernel)
theorem fl_X6_142 : Cond.fieldLink RX6 142 RX6 (TX6 15).2.1 (TX6 15).2.2.1 ∈ gtb := tw_mk 472 (by decide +kernel) (by decide +kernel)
theorem tw_182 : Cond.code yX5_addString cX5_addString 1 (some .int) ∈ gtb := tw_mk 182 (by decide +kernel) (by decide +kernel)
theorem tw_37 : Cond.initialized RX5 ∈ gtb := tw_mk 37 (by decide +kernel) (by decide +kernel)
theorem tw_179 : Cond.methodLink RL 13 yX5_addString ∈ gtb := tw_mk 179 (by decide +kernel) (by decide +kernel)
theorem tw_181 : Cond.selects RX5 yX5_addString yX5_addString ∈ gtb := tw_mk 181 (by decide +kernel) (by decide +kernel)
theorem tw_180 : Cond.instanceMethod yX5_addString ∈ gtb := tw_mk 180 (by decide +kernel) (by decide +kernel)
theorem k_L_13_X5 : LkV RL 13 yX5_addString cX5_addString 1 (some .int) 0 := ⟨all5 tw_179 tw_180 tw_181 tw_37 tw_182, by decide, by decide, by decide +kernel⟩
theorem tw_519 : Cond.code yX6_addString cX6_addString 1 (some .int) ∈ gtb := tw_mk 519 (by decide +kernel) (by decide +kernel)
theorem tw_43 : Cond.initialized RX6 ∈ gtb := tw_mk 43 (by decide +kernel) (by decide +kernel)
theorem tw_516 : Cond.methodLink RL 17 yX6_addString ∈ gtb := tw_mk 516 (by decide +kernel) (by decide +kernel)
theorem tw_518 : Cond.selects RX6 yX6_addString yX6_addString ∈ gtb := tw_mk 518 (by decide +kernel) (by decide +kernel)
theorem tw_517 : Cond.instanceMethod yX6_addString ∈ gtb := tw_mk 517 (by decide +kernel) (by decide +kernel)
theorem k_L_17_X6 : LkV RL 17 yX6_addString cX6_addString 1 (some .int) 0 := ⟨all5 tw_516 tw_517 tw_518 tw_43 tw_519, by decide, by decide, by decide +kernel⟩
theorem tw_186 : Cond.code yX5_addModule cX5_addModule 5 (some .int) ∈ gtb := tw_mk 186 (by decide +kernel) (by decide +kernel)
theorem tw_183 : Cond.methodLink RL 18 yX5_addModule ∈ gtb := tw_mk 183 (by decide +kernel) (by decide +kernel)
theorem tw_185 : Cond.selects RX5 yX5_addModule yX5_addModule ∈ gtb := tw_mk 185 (by decide +kernel) (by decide +kernel)
theorem tw_184 : Cond.instanceMethod yX5_addModule ∈ gtb := tw_mk 184 (by decide +kernel) (by decide +kernel)
theorem k_L_18_X5 : LkV RL 18 yX5_addModule cX5_addModule 5 (some .int) 3 := ⟨all5 tw_183 tw_184 tw_185 tw_37 tw_186, by decide, by decide, by decide +kernel⟩
theorem tw_523 : Cond.code yX6_addModule cX6_addModule 4 (some .int) ∈ gtb := tw_mk 523 (by decide +kernel) (by decide +kernel)
theorem tw_520 : Cond.methodLink RL 22 yX6_addModule ∈ gtb := tw_mk 520 (by decide +kernel) (by decide +kernel)
theorem tw_522 : Cond.selects RX6 yX6_addModule yX6_addModule ∈ gtb := tw_mk 522 (by decide +kernel) (by decide +kernel)
theorem tw_521 : Cond.instanceMethod yX6_addModule ∈ gtb := tw_mk 521 (by decide +kernel) (by decide +kernel)
theorem k_L_22_X6 : LkV RL 22 yX6_addModule cX6_addModule 4 (some .int) 3 := ⟨all5 tw_520 tw_521 tw_522 tw_43 tw_523, by decide, by decide, by decide +kernel⟩
theorem tw_213 : Cond.code yX5_setIrradiance cX5_setIrradiance 4 (some .int) ∈ gtb := tw_mk 213 (by decide +kernel) (by decide +kernel)
theorem tw_210 : Cond.methodLink RL 23 yX5_setIrradiance ∈ gtb := tw_mk 210 (by decide +kernel) (by decide +kernel)
theorem tw_212 : Cond.selects RX5 yX5_setIrradiance yX5_setIrradiance ∈ gtb := tw_mk 212 (by decide +kernel) (by decide +kernel)
theorem tw_211 : Cond.instanceMethod yX5_setIrradiance ∈ gtb := tw_mk 211 (by decide +kernel) (by decide +kernel)
theorem k_L_23_X5 : LkV RL 23 yX5_setIrradiance cX5_setIrradiance 4 (some .int) 2 := ⟨all5 tw_210 tw_211 tw_212 tw_37 tw_213, by decide, by decide, by decide +kernel⟩
theorem tw_538 : Cond.code yX6_setIrradiance cX6_setIrradiance 4 (some .int) ∈ gtb := tw_mk 538 (by decide +kernel) (by decide +kernel)
theorem tw_535 : Cond.methodLink RL 27 yX6_setIrradiance ∈ gtb := tw_mk 535 (by decide +kernel) (by decide +kernel)
theorem tw_537 : Cond.selects RX6 yX6_setIrradiance yX6_setIrradiance ∈ gtb := tw_mk 537 (by decide +kernel) (by decide +kernel)
theorem tw_536 : Cond.instanceMethod yX6_setIrradiance ∈ gtb := tw_mk 536 (by decide +kernel) (by decide +kernel)
theorem k_L_27_X6 : LkV RL 27 yX6_setIrradiance cX6_setIrradiance 4 (some .int) 2 := ⟨all5 tw_535 tw_536 tw_537 tw_43 tw_538, by decide, by decide, by decide +kernel⟩
theorem tw_221 : Cond.code yX5_shade cX5_shade 7 (some .int) ∈ gtb := tw_mk 221 (by decide +kernel) (by decide +kernel)
theorem tw_218 : Cond.methodLink RL 28 yX5_shade ∈ gtb := tw_mk 218 (by decide +kernel) (by decide +kernel)
theorem tw_220 : Cond.selects RX5 yX5_shade yX5_shade ∈ gtb := tw_mk 220 (by decide +kernel) (by decide +kernel)
theorem tw_219 : Cond.instanceMethod yX5_shade ∈ gtb := tw_mk 219 (by decide +kernel) (by decide +kernel)
theorem k_L_28_X5 : LkV RL 28 yX5_shade cX5_shade 7 (some .int) 3 := ⟨all5 tw_218 tw_219 tw_220 tw_37 tw_221, by decide, by decide, by decide +kernel⟩
theorem tw_546 : Cond.code yX6_shade cX6_shade 7 (some .int) ∈ gtb := tw_mk 546 (by decide +kernel) (by decide +kernel)
theorem tw_543 : Cond.methodLink RL 31 yX6_shade ∈ gtb := tw_mk 543 (by decide +kernel) (by decide +kernel)
theorem tw_545 : Cond.selects RX6 yX6_shade yX6_shade ∈ gtb := tw_mk 545 (by decide +kernel) (by decide +kernel)
theorem tw_544 : Cond.instanceMethod yX6_shade ∈ gtb := tw_mk 544 (by decide +kernel) (by decide +kernel)
theorem k_L_31_X6 : LkV RL 31 yX6_shade cX6_shade 7 (some .int) 3 := ⟨all5 tw_543 tw_544 tw_545 tw_43 tw_546, by decide, by decide, by decide +kernel⟩
theorem tw_225 : Cond.code yX5_setResistance cX5_setResistance 4 (some .int) ∈ gtb := tw_mk 225 (by decide +kernel) (by decide +kernel)
theorem tw_222 : Cond.methodLink RL 32 yX5_setResistance ∈ gtb := tw_mk 222 (by decide +kernel) (by decide +kernel)
theorem tw_224 : Cond.selects RX5 yX5_setResistance yX5_setResistance ∈ gtb := tw_mk 224 (by decide +kernel) (by decide +kernel)
theorem tw_223 : Cond.instanceMethod yX5_setResistance ∈ gtb := tw_mk 223 (by decide +kernel) (by decide +kernel)
theorem k_L_32_X5 : LkV RL 32 yX5_setResistance cX5_setResistance 4 (some .int) 2 := ⟨all5 tw_222 tw_223 tw_224 tw_37 tw_225, by decide, by decide, by decide +kernel⟩
theorem tw_550 : Cond.code yX6_setResistance cX6_setResistance 4 (some .int) ∈ gtb := tw_mk 550 (by decide +kernel) (by decide +kernel)
theorem tw_547 : Cond.methodLink RL 35 yX6_setResistance ∈ gtb := tw_mk 547 (by decide +kernel) (by decide +kernel)
theorem tw_549 : Cond.selects RX6 yX6_setResistance yX6_setResistance ∈ gtb := tw_mk 549 (by decide +kernel) (by decide +kernel)
theorem tw_548 : Cond.instanceMethod yX6_setResistance ∈ gtb := tw_mk 548 (by decide +kernel) (by decide +kernel)
theorem k_L_35_X6 : LkV RL 35 yX6_setResistance cX6_setResistance 4 (some .int) 2 := ⟨all5 tw_547 tw_548 tw_549 tw_43 tw_550, by decide, by decide, by decide +kernel⟩
theorem tw_229 : Cond.code yX5_setBypassDiode cX5_setBypassDiode 3 (some .int) ∈ gtb := tw_mk 229 (by decide +kernel) (by decide +kernel)
theorem tw_226 : Cond.methodLink RL 36 yX5_setBypassDiode ∈ gtb := tw_mk 226 (by decide +kernel) (by decide +kernel)
theorem tw_228 : Cond.selects RX5 yX5_setBypassDiode yX5_setBypassDiode ∈ gtb := tw_mk 228 (by decide +kernel) (by decide +kernel)
theorem tw_227 : Cond.instanceMethod yX5_setBypassDiode ∈ gtb := tw_mk 227 (by decide +kernel) (by decide +kernel)
theorem k_L_36_X5 : LkV RL 36 yX5_setBypassDiode cX5_setBypassDiode 3 (some .int) 2 := ⟨all5 tw_226 tw_227 tw_228 tw_37 tw_229, by decide, by decide, by decide +kernel⟩
theorem tw_554 : Cond.code yX6_setBypassDiode cX6_setBypassDiode 4 (some .int) ∈ gtb := tw_mk 554 (by decide +kernel) (by decide +kernel)
theorem tw_551 : Cond.methodLink RL 40 yX6_setBypassDiode ∈ gtb := tw_mk 551 (by decide +kernel) (by decide +kernel)
theorem tw_553 : Cond.selects RX6 yX6_setBypassDiode yX6_setBypassDiode ∈ gtb := tw_mk 553 (by decide +kernel) (by decide +kernel)
theorem tw_552 : Cond.instanceMethod yX6_setBypassDiode ∈ gtb := tw_mk 552 (by decide +kernel) (by decide +kernel)
theorem k_L_40_X6 : LkV RL 40 yX6_setBypassDiode cX6_setBypassDiode 4 (some .int) 2 := ⟨all5 tw_551 tw_552 tw_553 tw_43 tw_554, by decide, by decide, by decide +kernel⟩
theorem tw_233 : Cond.code yX5_setDiodeDrop cX5_setDiodeDrop 3 (some .int) ∈ gtb := tw_mk 233 (by decide +kernel) (by decide +kernel)
theorem tw_230 : Cond.methodLink RL 41 yX5_setDiodeDrop ∈ gtb := tw_mk 230 (by decide +kernel) (by decide +kernel)
theorem tw_232 : Cond.selects RX5 yX5_setDiodeDrop yX5_setDiodeDrop ∈ gtb := tw_mk 232 (by decide +kernel) (by decide +kernel)
theorem tw_231 : Cond.instanceMethod yX5_setDiodeDrop ∈ gtb := tw_mk 231 (by decide +kernel) (by decide +kernel)
theorem k_L_41_X5 : LkV RL 41 yX5_setDiodeDrop cX5_setDiodeDrop 3 (some .int) 1 := ⟨all5 tw_230 tw_231 tw_232 tw_37 tw_233, by decide, by decide, by decide +kernel⟩
theorem tw_558 : Cond.code yX6_setDiodeDrop cX6_setDiodeDrop 3 (some .int) ∈ gtb := tw_mk 558 (by decide +kernel) (by decide +kernel)
theorem tw_555 : Cond.methodLink RL 45 yX6_setDiodeDrop ∈ gtb := tw_mk 555 (by decide +kernel) (by decide +kernel)
theorem tw_557 : Cond.selects RX6 yX6_setDiodeDrop yX6_setDiodeDrop ∈ gtb := tw_mk 557 (by decide +kernel) (by decide +kernel)
theorem tw_556 : Cond.instanceMethod yX6_setDiodeDrop ∈ gtb := tw_mk 556 (by decide +kernel) (by decide +kernel)
theorem k_L_45_X6 : LkV RL 45 yX6_setDiodeDrop cX6_setDiodeDrop 3 (some .int) 1 := ⟨all5 tw_555 tw_556 tw_557 tw_43 tw_558, by decide, by decide, by decide +kernel⟩
theorem tw_237 : Cond.code yX5_moveModule cX5_moveModule 3 (some .int) ∈ gtb := tw_mk 237 (by decide +kernel) (by decide +kernel)
theorem tw_234 : Cond.methodLink RL 46 yX5_moveModule ∈ gtb := tw_mk 234 (by decide +kernel) (by decide +kernel)
theorem tw_236 : Cond.selects RX5 yX5_moveModule yX5_moveModule ∈ gtb := tw_mk 236 (by decide +kernel) (by decide +kernel)
theorem tw_235 : Cond.instanceMethod yX5_moveModule ∈ gtb := tw_mk 235 (by decide +kernel) (by decide +kernel)
theorem k_L_46_X5 : LkV RL 46 yX5_moveModule cX5_moveModule 3 (some .int) 2 := ⟨all5 tw_234 tw_235 tw_236 tw_37 tw_237, by decide, by decide, by decide +kernel⟩
theorem tw_562 : Cond.code yX6_moveModule cX6_moveModule 3 (some .int) ∈ gtb := tw_mk 562 (by decide +kernel) (by decide +kernel)
theorem tw_559 : Cond.methodLink RL 49 yX6_moveModule ∈ gtb := tw_mk 559 (by decide +kernel) (by decide +kernel)
theorem tw_561 : Cond.selects RX6 yX6_moveModule yX6_moveModule ∈ gtb := tw_mk 561 (by decide +kernel) (by decide +kernel)
theorem tw_560 : Cond.instanceMethod yX6_moveModule ∈ gtb := tw_mk 560 (by decide +kernel) (by decide +kernel)
theorem k_L_49_X6 : LkV RL 49 yX6_moveModule cX6_moveModule 3 (some .int) 2 := ⟨all5 tw_559 tw_560 tw_561 tw_43 tw_562, by decide, by decide, by decide +kernel⟩
theorem tw_245 : Cond.code yX5_swapModules cX5_swapModules 3 (some .int) ∈ gtb := tw_mk 245 (by decide +kernel) (by decide +kernel)
theorem tw_242 : Cond.methodLink RL 50 yX5_swapModules ∈ gtb := tw_mk 242 (by decide +kernel) (by decide +kernel)
theorem tw_244 : Cond.selects RX5 yX5_swapModules yX5_swapModules ∈ gtb := tw_mk 244 (by decide +kernel) (by decide +kernel)
theorem tw_243 : Cond.instanceMethod yX5_swapModules ∈ gtb := tw_mk 243 (by decide +kernel) (by decide +kernel)
theorem k_L_50_X5 : LkV RL 50 yX5_swapModules cX5_swapModules 3 (some .int) 2 := ⟨all5 tw_242 tw_243 tw_244 tw_37 tw_245, by decide, by decide, by decide +kernel⟩
theorem tw_574 : Cond.code yX6_swapModules cX6_swapModules 3 (some .int) ∈ gtb := tw_mk 574 (by decide +kernel) (by decide +kernel)
theorem tw_571 : Cond.methodLink RL 53 yX6_swapModules ∈ gtb := tw_mk 571 (by decide +kernel) (by decide +kernel)
theorem tw_573 : Cond.selects RX6 yX6_swapModules yX6_swapModules ∈ gtb := tw_mk 573 (by decide +kernel) (by decide +kernel)
theorem tw_572 : Cond.instanceMethod yX6_swapModules ∈ gtb := tw_mk 572 (by decide +kernel) (by decide +kernel)
theorem k_L_53_X6 : LkV RL 53 yX6_swapModules cX6_swapModules 3 (some .int) 2 := ⟨all5 tw_571 tw_572 tw_573 tw_43 tw_574, by decide, by decide, by decide +kernel⟩
theorem tw_253 : Cond.code yX5_stringOf cX5_stringOf 2 (some .int) ∈ gtb := tw_mk 253 (by decide +kernel) (by decide +kernel)
theorem tw_250 : Cond.methodLink RL 54 yX5_stringOf ∈ gtb := tw_mk 250 (by decide +kernel) (by decide +kernel)
theorem tw_252 : Cond.selects RX5 yX5_stringOf yX5_stringOf ∈ gtb := tw_mk 252 (by decide +kernel) (by decide +kernel)
theorem tw_251 : Cond.instanceMethod yX5_stringOf ∈ gtb := tw_mk 251 (by decide +kernel) (by decide +kernel)
theorem k_L_54_X5 : LkV RL 54 yX5_stringOf cX5_stringOf 2 (some .int) 1 := ⟨all5 tw_250 tw_251 tw_252 tw_37 tw_253, by decide, by decide, by decide +kernel⟩
theorem tw_582 : Cond.code yX6_stringOf cX6_stringOf 2 (some .int) ∈ gtb := tw_mk 582 (by decide +kernel) (by decide +kernel)
theorem tw_579 : Cond.methodLink RL 57 yX6_stringOf ∈ gtb := tw_mk 579 (by decide +kernel) (by decide +kernel)
theorem tw_581 : Cond.selects RX6 yX6_stringOf yX6_stringOf ∈ gtb := tw_mk 581 (by decide +kernel) (by decide +kernel)
theorem tw_580 : Cond.instanceMethod yX6_stringOf ∈ gtb := tw_mk 580 (by decide +kernel) (by decide +kernel)
theorem k_L_57_X6 : LkV RL 57 yX6_stringOf cX6_stringOf 2 (some .int) 1 := ⟨all5 tw_579 tw_580 tw_581 tw_43 tw_582, by decide, by decide, by decide +kernel⟩
theorem tw_257 : Cond.code yX5_moduleAt cX5_moduleAt 3 (some .int) ∈ gtb := tw_mk 257 (by decide +kernel) (by decide +kernel)
theorem tw_254 : Cond.methodLink RL 58 yX5_moduleAt ∈ gtb := tw_mk 254 (by decide +kernel) (by decide +kernel)
theorem tw_256 : Cond.selects RX5 yX5_moduleAt yX5_moduleAt ∈ gtb := tw_mk 256 (by decide +kernel) (by decide +kernel)
theorem tw_255 : Cond.instanceMethod yX5_moduleAt ∈ gtb := tw_mk 255 (by decide +kernel) (by decide +kernel)
theorem k_L_58_X5 : LkV RL 58 yX5_moduleAt cX5_moduleAt 3 (some .int) 2 := ⟨all5 tw_254 tw_255 tw_256 tw_37 tw_257, by decide, by decide, by decide +kernel⟩
theorem tw_586 : Cond.code yX6_moduleAt cX6_moduleAt 3 (some .int) ∈ gtb := tw_mk 586 (by decide +kernel) (by decide +kernel)
theorem tw_583 : Cond.methodLink RL 61 yX6_moduleAt ∈ gtb := tw_mk 583 (by decide +kernel) (by decide +kernel)
theorem tw_585 : Cond.selects RX6 yX6_moduleAt yX6_moduleAt ∈ gtb := tw_mk 585 (by decide +kernel) (by decide +kernel)
theorem tw_584 : Cond.instanceMethod yX6_moduleAt ∈ gtb := tw_mk 584 (by decide +kernel) (by decide +kernel)
theorem k_L_61_X6 : LkV RL 61 yX6_moduleAt cX6_moduleAt 3 (some .int) 2 := ⟨all5 tw_583 tw_584 tw_585 tw_43 tw_586, by decide, by decide, by decide +kernel⟩
theorem tw_261 : Cond.code yX5_photocurrent cX5_photocurrent 2 (some .int) ∈ gtb := tw_mk 261 (by decide +kernel) (by decide +kernel)
theorem tw_258 : Cond.methodLink RL 62 yX5_photocurrent ∈ gtb := tw_mk 258 (by decide +kernel) (by decide +kernel)
theorem tw_260 : Cond.selects RX5 yX5_photocurrent yX5_photocurrent ∈ gtb := tw_mk 260 (by decide +kernel) (by decide +kernel)
theorem tw_259 : Cond.instanceMethod yX5_photocurrent ∈ gtb := tw_mk 259 (by decide +kernel) (by decide +kernel)
theorem k_L_62_X5 : LkV RL 62 yX5_photocurrent cX5_photocurrent 2 (some .int) 1 := ⟨all5 tw_258 tw_259 tw_260 tw_37 tw_261, by decide, by decide, by decide +kernel⟩
theorem tw_590 : Cond.code yX6_photocurrent cX6_photocurrent 2 (some .int) ∈ gtb := tw_mk 590 (by decide +kernel) (by decide +kernel)
theorem tw_587 : Cond.methodLink RL 65 yX6_photocurrent ∈ gtb := tw_mk 587 (by decide +kernel) (by decide +kernel)
theorem tw_589 : Cond.selects RX6 yX6_photocurrent yX6_photocurrent ∈ gtb := tw_mk 589 (by decide +kernel) (by decide +kernel)
theorem tw_588 : Cond.instanceMethod yX6_photocurrent ∈ gtb := tw_mk 588 (by decide +kernel) (by decide +kernel)
theorem k_L_65_X6 : LkV RL 65 yX6_photocurrent cX6_photocurrent 2 (some .int) 1 := ⟨all5 tw_587 tw_588 tw_589 tw_43 tw_590, by decide, by decide, by decide +kernel⟩
theorem tw_265 : Cond.code yX5_moduleVoltage cX5_moduleVoltage 3 (some .int) ∈ gtb := tw_mk 265 (by decide +kernel) (by decide +kernel)
theorem tw_262 : Cond.methodLink RL 66 yX5_moduleVoltage ∈ gtb := tw_mk 262 (by decide +kernel) (by decide +kernel)
theorem tw_264 : Cond.selects RX5 yX5_moduleVoltage yX5_moduleVoltage ∈ gtb := tw_mk 264 (by decide +kernel) (by decide +kernel)
theorem tw_263 : Cond.instanceMethod yX5_moduleVoltage ∈ gtb := tw_mk 263 (by decide +kernel) (by decide +kernel)
theorem k_L_66_X5 : LkV RL 66 yX5_moduleVoltage cX5_moduleVoltage 3 (some .int) 2 := ⟨all5 tw_262 tw_263 tw_264 tw_37 tw_265, by decide, by decide, by decide +kernel⟩
theorem tw_598 : Cond.code yX6_moduleVoltage cX6_moduleVoltage 3 (some .int) ∈ gtb := tw_mk 598 (by decide +kernel) (by decide +kernel)
theorem tw_595 : Cond.methodLink RL 69 yX6_moduleVoltage ∈ gtb := tw_mk 595 (by decide +kernel) (by decide +kernel)
theorem tw_597 : Cond.selects RX6 yX6_moduleVoltage yX6_moduleVoltage ∈ gtb := tw_mk 597 (by decide +kernel) (by decide +kernel)
theorem tw_596 : Cond.instanceMethod yX6_moduleVoltage ∈ gtb := tw_mk 596 (by decide +kernel) (by decide +kernel)
theorem k_L_69_X6 : LkV RL 69 yX6_moduleVoltage cX6_moduleVoltage 3 (some .int) 2 := ⟨all5 tw_595 tw_596 tw_597 tw_43 tw_598, by decide, by decide, by decide +kernel⟩
theorem tw_273 : Cond.code yX5_modulePeakPower cX5_modulePeakPower 2 (some .long) ∈ gtb := tw_mk 273 (by decide +kernel) (by decide +kernel)
theorem tw_270 : Cond.methodLink RL 70 yX5_modulePeakPower ∈ gtb := tw_mk 270 (by decide +kernel) (by decide +kernel)
theorem tw_272 : Cond.selects RX5 yX5_modulePeakPower yX5_modulePeakPower ∈ gtb := tw_mk 272 (by decide +kernel) (by decide +kernel)
theorem tw_271 : Cond.instanceMethod yX5_modulePeakPower ∈ gtb := tw_mk 271 (by decide +kernel) (by decide +kernel)
theorem k_L_70_X5 : LkV RL 70 yX5_modulePeakPower cX5_modulePeakPower 2 (some .long) 1 := ⟨all5 tw_270 tw_271 tw_272 tw_37 tw_273, by decide, by decide, by decide +kernel⟩
theorem tw_610 : Cond.code yX6_modulePeakPower cX6_modulePeakPower 2 (some .long) ∈ gtb := tw_mk 610 (by decide +kernel) (by decide +kernel)
theorem tw_607 : Cond.methodLink RL 74 yX6_modulePeakPower ∈ gtb := tw_mk 607 (by decide +kernel) (by decide +kernel)
theorem tw_609 : Cond.selects RX6 yX6_modulePeakPower yX6_modulePeakPower ∈ gtb := tw_mk 609 (by decide +kernel) (by decide +kernel)
theorem tw_608 : Cond.instanceMethod yX6_modulePeakPower ∈ gtb := tw_mk 608 (by decide +kernel) (by decide +kernel)
theorem k_L_74_X6 : LkV RL 74 yX6_modulePeakPower cX6_modulePeakPower 2 (some .long) 1 := ⟨all5 tw_607 tw_608 tw_609 tw_43 tw_610, by decide, by decide, by decide +kernel⟩
theorem tw_338 : Cond.code yX5_currentLimit cX5_currentLimit 2 (some .int) ∈ gtb := tw_mk 338 (by decide +kernel) (by decide +kernel)
theorem tw_335 : Cond.methodLink RL 75 yX5_currentLimit ∈ gtb := tw_mk 335 (by decide +kernel) (by decide +kernel)
theorem tw_337 : Cond.selects RX5 yX5_currentLimit yX5_currentLimit ∈ gtb := tw_mk 337 (by decide +kernel) (by decide +kernel)
theorem tw_336 : Cond.instanceMethod yX5_currentLimit ∈ gtb := tw_mk 336 (by decide +kernel) (by decide +kernel)
theorem k_L_75_X5 : LkV RL 75 yX5_currentLimit cX5_currentLimit 2 (some .int) 1 := ⟨all5 tw_335 tw_336 tw_337 tw_37 tw_338, by decide, by decide, by decide +kernel⟩
theorem tw_619 : Cond.code yX6_currentLimit cX6_currentLimit 2 (some .int) ∈ gtb := tw_mk 619 (by decide +kernel) (by decide +kernel)
theorem tw_616 : Cond.methodLink RL 78 yX6_currentLimit ∈ gtb := tw_mk 616 (by decide +kernel) (by decide +kernel)
theorem tw_618 : Cond.selects RX6 yX6_currentLimit yX6_currentLimit ∈ gtb := tw_mk 618 (by decide +kernel) (by decide +kernel)
theorem tw_617 : Cond.instanceMethod yX6_currentLimit ∈ gtb := tw_mk 617 (by decide +kernel) (by decide +kernel)
theorem k_L_78_X6 : LkV RL 78 yX6_currentLimit cX6_currentLimit 2 (some .int) 1 := ⟨all5 tw_616 tw_617 tw_618 tw_43 tw_619, by decide, by decide, by decide +kernel⟩
theorem tw_343 : Cond.code yX5_stringVoltage cX5_stringVoltage 3 (some .int) ∈ gtb := tw_mk 343 (by decide +kernel) (by decide +kernel)
theorem tw_340 : Cond.methodLink RL 79 yX5_stringVoltage ∈ gtb := tw_mk 340 (by decide +kernel) (by decide +kernel)
theorem tw_342 : Cond.selects RX5 yX5_stringVoltage yX5_stringVoltage ∈ gtb := tw_mk 342 (by decide +kernel) (by decide +kernel)
theorem tw_341 : Cond.instanceMethod yX5_stringVoltage ∈ gtb := tw_mk 341 (by decide +kernel) (by decide +kernel)
theorem k_L_79_X5 : LkV RL 79 yX5_stringVoltage cX5_stringVoltage 3 (some .int) 2 := ⟨all5 tw_340 tw_341 tw_342 tw_37 tw_343, by decide, by decide, by decide +kernel⟩
theorem tw_627 : Cond.code yX6_stringVoltage cX6_stringVoltage 3 (some .int) ∈ gtb := tw_mk 627 (by decide +kernel) (by decide +kernel)
theorem tw_624 : Cond.methodLink RL 82 yX6_stringVoltage ∈ gtb := tw_mk 624 (by decide +kernel) (by decide +kernel)
theorem tw_626 : Cond.selects RX6 yX6_stringVoltage yX6_stringVoltage ∈ gtb := tw_mk 626 (by decide +kernel) (by decide +kernel)
theorem tw_625 : Cond.instanceMethod yX6_stringVoltage ∈ gtb := tw_mk 625 (by decide +kernel) (by decide +kernel)
theorem k_L_82_X6 : LkV RL 82 yX6_stringVoltage cX6_stringVoltage 3 (some .int) 2 := ⟨all5 tw_624 tw_625 tw_626 tw_43 tw_627, by decide, by decide, by decide +kernel⟩
theorem tw_348 : Cond.code yX5_stringPower cX5_stringPower 3 (some .long) ∈ gtb := tw_mk 348 (by decide +kernel) (by decide +kernel)
theorem tw_345 : Cond.methodLink RL 83 yX5_stringPower ∈ gtb := tw_mk 345 (by decide +kernel) (by decide +kernel)
theorem tw_347 : Cond.selects RX5 yX5_stringPower yX5_stringPower ∈ gtb := tw_mk 347 (by decide +kernel) (by decide +kernel)
theorem tw_346 : Cond.instanceMethod yX5_stringPower ∈ gtb := tw_mk 346 (by decide +kernel) (by decide +kernel)
theorem k_L_83_X5 : LkV RL 83 yX5_stringPower cX5_stringPower 3 (some .long) 2 := ⟨all5 tw_345 tw_346 tw_347 tw_37 tw_348, by decide, by decide, by decide +kernel⟩
theorem tw_635 : Cond.code yX6_stringPower cX6_stringPower 3 (some .long) ∈ gtb := tw_mk 635 (by decide +kernel) (by decide +kernel)
theorem tw_632 : Cond.methodLink RL 87 yX6_stringPower ∈ gtb := tw_mk 632 (by decide +kernel) (by decide +kernel)
theorem tw_634 : Cond.selects RX6 yX6_stringPower yX6_stringPower ∈ gtb := tw_mk 634 (by decide +kernel) (by decide +kernel)
theorem tw_633 : Cond.instanceMethod yX6_stringPower ∈ gtb := tw_mk 633 (by decide +kernel) (by decide +kernel)
theorem k_L_87_X6 : LkV RL 87 yX6_stringPower cX6_stringPower 3 (some .long) 2 := ⟨all5 tw_632 tw_633 tw_634 tw_43 tw_635, by decide, by decide, by decide +kernel⟩
theorem tw_356 : Cond.code yX5_bypassedModules cX5_bypassedModules 3 (some .int) ∈ gtb := tw_mk 356 (by decide +kernel) (by decide +kernel)
theorem tw_353 : Cond.methodLink RL 88 yX5_bypassedModules ∈ gtb := tw_mk 353 (by decide +kernel) (by decide +kernel)
theorem tw_355 : Cond.selects RX5 yX5_bypassedModules yX5_bypassedModules ∈ gtb := tw_mk 355 (by decide +kernel) (by decide +kernel)
theorem tw_354 : Cond.instanceMethod yX5_bypassedModules ∈ gtb := tw_mk 354 (by decide +kernel) (by decide +kernel)
theorem k_L_88_X5 : LkV RL 88 yX5_bypassedModules cX5_bypassedModules 3 (some .int) 2 := ⟨all5 tw_353 tw_354 tw_355 tw_37 tw_356, by decide, by decide, by decide +kernel⟩
theorem tw_643 : Cond.code yX6_bypassedModules cX6_bypassedModules 5 (some .int) ∈ gtb := tw_mk 643 (by decide +kernel) (by decide +kernel)
theorem tw_640 : Cond.methodLink RL 91 yX6_bypassedModules ∈ gtb := tw_mk 640 (by decide +kernel) (by decide +kernel)
theorem tw_642 : Cond.selects RX6 yX6_bypassedModules yX6_bypassedModules ∈ gtb := tw_mk 642 (by decide +kernel) (by decide +kernel)
theorem tw_641 : Cond.instanceMethod yX6_bypassedModules ∈ gtb := tw_mk 641 (by decide +kernel) (by decide +kernel)
theorem k_L_91_X6 : LkV RL 91 yX6_bypassedModules cX6_bypassedModules 5 (some .int) 2 := ⟨all5 tw_640 tw_641 tw_642 tw_43 tw_643, by decide, by decide, by decide +kernel⟩
theorem tw_364 : Cond.code yX5_peakCount cX5_peakCount 5 (some .int) ∈ gtb := tw_mk 364 (by decide +kernel) (by decide +kernel)
theorem tw_361 : Cond.methodLink RL 92 yX5_peakCount ∈ gtb := tw_mk 361 (by decide +kernel) (by decide +kernel)
theorem tw_363 : Cond.selects RX5 yX5_peakCount yX5_peakCount ∈ gtb := tw_mk 363 (by decide +kernel) (by decide +kernel)
theorem tw_362 : Cond.instanceMethod yX5_peakCount ∈ gtb := tw_mk 362 (by decide +kernel) (by decide +kernel)
theorem k_L_92_X5 : LkV RL 92 yX5_peakCount cX5_peakCount 5 (some .int) 1 := ⟨all5 tw_361 tw_362 tw_363 tw_37 tw_364, by decide, by decide, by decide +kernel⟩
theorem tw_647 : Cond.code yX6_peakCount cX6_peakCount 4 (some .int) ∈ gtb := tw_mk 647 (by decide +kernel) (by decide +kernel)
theorem tw_644 : Cond.methodLink RL 95 yX6_peakCount ∈ gtb := tw_mk 644 (by decide +kernel) (by decide +kernel)
theorem tw_646 : Cond.selects RX6 yX6_peakCount yX6_peakCount ∈ gtb := tw_mk 646 (by decide +kernel) (by decide +kernel)
theorem tw_645 : Cond.instanceMethod yX6_peakCount ∈ gtb := tw_mk 645 (by decide +kernel) (by decide +kernel)
theorem k_L_95_X6 : LkV RL 95 yX6_peakCount cX6_peakCount 4 (some .int) 1 := ⟨all5 tw_644 tw_645 tw_646 tw_43 tw_647, by decide, by decide, by decide +kernel⟩
theorem tw_373 : Cond.code yX5_peakCurrent cX5_peakCurrent 6 (some .int) ∈ gtb := tw_mk 373 (by decide +kernel) (by decide +kernel)
theorem tw_370 : Cond.methodLink RL 96 yX5_peakCurrent ∈ gtb := tw_mk 370 (by decide +kernel) (by decide +kernel)
theorem tw_372 : Cond.selects RX5 yX5_peakCurrent yX5_peakCurrent ∈ gtb := tw_mk 372 (by decide +kernel) (by decide +kernel)
theorem tw_371 : Cond.instanceMethod yX5_peakCurrent ∈ gtb := tw_mk 371 (by decide +kernel) (by decide +kernel)
theorem k_L_96_X5 : LkV RL 96 yX5_peakCurrent cX5_peakCurrent 6 (some .int) 2 := ⟨all5 tw_370 tw_371 tw_372 tw_37 tw_373, by decide, by decide, by decide +kernel⟩
theorem tw_659 : Cond.code yX6_peakCurrent cX6_peakCurrent 5 (some .int) ∈ gtb := tw_mk 659 (by decide +kernel) (by decide +kernel)
theorem tw_656 : Cond.methodLink RL 99 yX6_peakCurrent ∈ gtb := tw_mk 656 (by decide +kernel) (by decide +kernel)
theorem tw_658 : Cond.selects RX6 yX6_peakCurrent yX6_peakCurrent ∈ gtb := tw_mk 658 (by decide +kernel) (by decide +kernel)
theorem tw_657 : Cond.instanceMethod yX6_peakCurrent ∈ gtb := tw_mk 657 (by decide +kernel) (by decide +kernel)
theorem k_L_99_X6 : LkV RL 99 yX6_peakCurrent cX6_peakCurrent 5 (some .int) 2 := ⟨all5 tw_656 tw_657 tw_658 tw_43 tw_659, by decide, by decide, by decide +kernel⟩
theorem tw_377 : Cond.code yX5_bestCurrent cX5_bestCurrent 2 (some .int) ∈ gtb := tw_mk 377 (by decide +kernel) (by decide +kernel)
theorem tw_374 : Cond.methodLink RL 100 yX5_bestCurrent ∈ gtb := tw_mk 374 (by decide +kernel) (by decide +kernel)
theorem tw_376 : Cond.selects RX5 yX5_bestCurrent yX5_bestCurrent ∈ gtb := tw_mk 376 (by decide +kernel) (by decide +kernel)
theorem tw_375 : Cond.instanceMethod yX5_bestCurrent ∈ gtb := tw_mk 375 (by decide +kernel) (by decide +kernel)
theorem k_L_100_X5 : LkV RL 100 yX5_bestCurrent cX5_bestCurrent 2 (some .int) 1 := ⟨all5 tw_374 tw_375 tw_376 tw_37 tw_377, by decide, by decide, by decide +kernel⟩
theorem tw_663 : Cond.code yX6_bestCurrent cX6_bestCurrent 2 (some .int) ∈ gtb := tw_mk 663 (by decide +kernel) (by decide +kernel)
theorem tw_660 : Cond.methodLink RL 103 yX6_bestCurrent ∈ gtb := tw_mk 660 (by decide +kernel) (by decide +kernel)
theorem tw_662 : Cond.selects RX6 yX6_bestCurrent yX6_bestCurrent ∈ gtb := tw_mk 662 (by decide +kernel) (by decide +kernel)
theorem tw_661 : Cond.instanceMethod yX6_bestCurrent ∈ gtb := tw_mk 661 (by decide +kernel) (by decide +kernel)
theorem k_L_103_X6 : LkV RL 103 yX6_bestCurrent cX6_bestCurrent 2 (some .int) 1 := ⟨all5 tw_660 tw_661 tw_662 tw_43 tw_663, by decide, by decide, by decide +kernel⟩
theorem tw_385 : Cond.code yX5_bestPower cX5_bestPower 2 (some .long) ∈ gtb := tw_mk 385 (by decide +kernel) (by decide +kernel)
theorem tw_382 : Cond.methodLink RL 104 yX5_bestPower ∈ gtb := tw_mk 382 (by decide +kernel) (by decide +kernel)
theorem tw_384 : Cond.selects RX5 yX5_bestPower yX5_bestPower ∈ gtb := tw_mk 384 (by decide +kernel) (by decide +kernel)
theorem tw_383 : Cond.instanceMethod yX5_bestPower ∈ gtb := tw_mk 383 (by decide +kernel) (by decide +kernel)
theorem k_L_104_X5 : LkV RL 104 yX5_bestPower cX5_bestPower 2 (some .long) 1 := ⟨all5 tw_382 tw_383 tw_384 tw_37 tw_385, by decide, by decide, by decide +kernel⟩
theorem tw_671 : Cond.code yX6_bestPower cX6_bestPower 2 (some .long) ∈ gtb := tw_mk 671 (by decide +kernel) (by decide +kernel)
theorem tw_668 : Cond.methodLink RL 107 yX6_bestPower ∈ gtb := tw_mk 668 (by decide +kernel) (by decide +kernel)
theorem tw_670 : Cond.selects RX6 yX6_bestPower yX6_bestPower ∈ gtb := tw_mk 670 (by decide +kernel) (by decide +kernel)
theorem tw_669 : Cond.instanceMethod yX6_bestPower ∈ gtb := tw_mk 669 (by decide +kernel) (by decide +kernel)
theorem k_L_107_X6 : LkV RL 107 yX6_bestPower cX6_bestPower 2 (some .long) 1 := ⟨all5 tw_668 tw_669 tw_670 tw_43 tw_671, by decide, by decide, by decide +kernel⟩
theorem tw_392 : Cond.code yX5_perturbAndObserve cX5_perturbAndObserve 11 (some .int) ∈ gtb := tw_mk 392 (by decide +kernel) (by decide +kernel)
theorem tw_389 : Cond.methodLink RL 108 yX5_perturbAndObserve ∈ gtb := tw_mk 389 (by decide +kernel) (by decide +kernel)
theorem tw_391 : Cond.selects RX5 yX5_perturbAndObserve yX5_perturbAndObserve ∈ gtb := tw_mk 391 (by decide +kernel) (by decide +kernel)
theorem tw_390 : Cond.instanceMethod yX5_perturbAndObserve ∈ gtb := tw_mk 390 (by decide +kernel) (by decide +kernel)
theorem k_L_108_X5 : LkV RL 108 yX5_perturbAndObserve cX5_perturbAndObserve 11 (some .int) 4 := ⟨all5 tw_389 tw_390 tw_391 tw_37 tw_392, by decide, by decide, by decide +kernel⟩
theorem tw_679 : Cond.code yX6_perturbAndObserve cX6_perturbAndObserve 9 (some .int) ∈ gtb := tw_mk 679 (by decide +kernel) (by decide +kernel)
theorem tw_676 : Cond.methodLink RL 112 yX6_perturbAndObserve ∈ gtb := tw_mk 676 (by decide +kernel) (by decide +kernel)
theorem tw_678 : Cond.selects RX6 yX6_perturbAndObserve yX6_perturbAndObserve ∈ gtb := tw_mk 678 (by decide +kernel) (by decide +kernel)
theorem tw_677 : Cond.instanceMethod yX6_perturbAndObserve ∈ gtb := tw_mk 677 (by decide +kernel) (by decide +kernel)
theorem k_L_112_X6 : LkV RL 112 yX6_perturbAndObserve cX6_perturbAndObserve 9 (some .int) 4 := ⟨all5 tw_676 tw_677 tw_678 tw_43 tw_679, by decide, by decide, by decide +kernel⟩
theorem tw_398 : Cond.code yX5_scanAndClimb cX5_scanAndClimb 3 (some .int) ∈ gtb := tw_mk 398 (by decide +kernel) (by decide +kernel)
theorem tw_395 : Cond.methodLink RL 113 yX5_scanAndClimb ∈ gtb := tw_mk 395 (by decide +kernel) (by decide +kernel)
theorem tw_397 : Cond.selects RX5 yX5_scanAndClimb yX5_scanAndClimb ∈ gtb := tw_mk 397 (by decide +kernel) (by decide +kernel)
theorem tw_396 : Cond.instanceMethod yX5_scanAndClimb ∈ gtb := tw_mk 396 (by decide +kernel) (by decide +kernel)
theorem k_L_113_X5 : LkV RL 113 yX5_scanAndClimb cX5_scanAndClimb 3 (some .int) 2 := ⟨all5 tw_395 tw_396 tw_397 tw_37 tw_398, by decide, by decide, by decide +kernel⟩
theorem tw_683 : Cond.code yX6_scanAndClimb cX6_scanAndClimb 5 (some .int) ∈ gtb := tw_mk 683 (by decide +kernel) (by decide +kernel)
theorem tw_680 : Cond.methodLink RL 116 yX6_scanAndClimb ∈ gtb := tw_mk 680 (by decide +kernel) (by decide +kernel)
theorem tw_682 : Cond.selects RX6 yX6_scanAndClimb yX6_scanAndClimb ∈ gtb := tw_mk 682 (by decide +kernel) (by decide +kernel)
theorem tw_681 : Cond.instanceMethod yX6_scanAndClimb ∈ gtb := tw_mk 681 (by decide +kernel) (by decide +kernel)
theorem k_L_116_X6 : LkV RL 116 yX6_scanAndClimb cX6_scanAndClimb 5 (some .int) 2 := ⟨all5 tw_680 tw_681 tw_682 tw_43 tw_683, by decide, by decide, by decide +kernel⟩
theorem tw_410 : Cond.code yX5_arrayCurrent cX5_arrayCurrent 2 (some .int) ∈ gtb := tw_mk 410 (by decide +kernel) (by decide +kernel)
theorem tw_407 : Cond.methodLink RL 117 yX5_arrayCurrent ∈ gtb := tw_mk 407 (by decide +kernel) (by decide +kernel)
theorem tw_409 : Cond.selects RX5 yX5_arrayCurrent yX5_arrayCurrent ∈ gtb := tw_mk 409 (by decide +kernel) (by decide +kernel)
theorem tw_408 : Cond.instanceMethod yX5_arrayCurrent ∈ gtb := tw_mk 408 (by decide +kernel) (by decide +kernel)
theorem k_L_117_X5 : LkV RL 117 yX5_arrayCurrent cX5_arrayCurrent 2 (some .int) 1 := ⟨all5 tw_407 tw_408 tw_409 tw_37 tw_410, by decide, by decide, by decide +kernel⟩
theorem tw_687 : Cond.code yX6_arrayCurrent cX6_arrayCurrent 2 (some .int) ∈ gtb := tw_mk 687 (by decide +kernel) (by decide +kernel)
theorem tw_684 : Cond.methodLink RL 120 yX6_arrayCurrent ∈ gtb := tw_mk 684 (by decide +kernel) (by decide +kernel)
theorem tw_686 : Cond.selects RX6 yX6_arrayCurrent yX6_arrayCurrent ∈ gtb := tw_mk 686 (by decide +kernel) (by decide +kernel)
theorem tw_685 : Cond.instanceMethod yX6_arrayCurrent ∈ gtb := tw_mk 685 (by decide +kernel) (by decide +kernel)
theorem k_L_120_X6 : LkV RL 120 yX6_arrayCurrent cX6_arrayCurrent 2 (some .int) 1 := ⟨all5 tw_684 tw_685 tw_686 tw_43 tw_687, by decide, by decide, by decide +kernel⟩
theorem tw_415 : Cond.code yX5_bestArrayVoltage cX5_bestArrayVoltage 1 (some .int) ∈ gtb := tw_mk 415 (by decide +kernel) (by decide +kernel)
theorem tw_412 : Cond.methodLink RL 121 yX5_bestArrayVoltage ∈ gtb := tw_mk 412 (by decide +kernel) (by decide +kernel)
theorem tw_414 : Cond.selects RX5 yX5_bestArrayVoltage yX5_bestArrayVoltage ∈ gtb := tw_mk 414 (by decide +kernel) (by decide +kernel)
theorem tw_413 : Cond.instanceMethod yX5_bestArrayVoltage ∈ gtb := tw_mk 413 (by decide +kernel) (by decide +kernel)
theorem k_L_121_X5 : LkV RL 121 yX5_bestArrayVoltage cX5_bestArrayVoltage 1 (some .int) 0 := ⟨all5 tw_412 tw_413 tw_414 tw_37 tw_415, by decide, by decide, by decide +kernel⟩
theorem tw_699 : Cond.code yX6_bestArrayVoltage cX6_bestArrayVoltage 3 (some .int) ∈ gtb := tw_mk 699 (by decide +kernel) (by decide +kernel)
theorem tw_696 : Cond.methodLink RL 124 yX6_bestArrayVoltage ∈ gtb := tw_mk 696 (by decide +kernel) (by decide +kernel)
theorem tw_698 : Cond.selects RX6 yX6_bestArrayVoltage yX6_bestArrayVoltage ∈ gtb := tw_mk 698 (by decide +kernel) (by decide +kernel)
theorem tw_697 : Cond.instanceMethod yX6_bestArrayVoltage ∈ gtb := tw_mk 697 (by decide +kernel) (by decide +kernel)
theorem k_L_124_X6 : LkV RL 124 yX6_bestArrayVoltage cX6_bestArrayVoltage 3 (some .int) 0 := ⟨all5 tw_696 tw_697 tw_698 tw_43 tw_699, by decide, by decide, by decide +kernel⟩
theorem tw_422 : Cond.code yX5_totalBestPower cX5_totalBestPower 4 (some .long) ∈ gtb := tw_mk 422 (by decide +kernel) (by decide +kernel)
theorem tw_419 : Cond.methodLink RL 125 yX5_totalBestPower ∈ gtb := tw_mk 419 (by decide +kernel) (by decide +kernel)
theorem tw_421 : Cond.selects RX5 yX5_totalBestPower yX5_totalBestPower ∈ gtb := tw_mk 421 (by decide +kernel) (by decide +kernel)
theorem tw_420 : Cond.instanceMethod yX5_totalBestPower ∈ gtb := tw_mk 420 (by decide +kernel) (by decide +kernel)
theorem k_L_125_X5 : LkV RL 125 yX5_totalBestPower cX5_totalBestPower 4 (some .long) 0 := ⟨all5 tw_419 tw_420 tw_421 tw_37 tw_422, by decide, by decide, by decide +kernel⟩
theorem tw_703 : Cond.code yX6_totalBestPower cX6_totalBestPower 1 (some .long) ∈ gtb := tw_mk 703 (by decide +kernel) (by decide +kernel)
theorem tw_700 : Cond.methodLink RL 129 yX6_totalBestPower ∈ gtb := tw_mk 700 (by decide +kernel) (by decide +kernel)
theorem tw_702 : Cond.selects RX6 yX6_totalBestPower yX6_totalBestPower ∈ gtb := tw_mk 702 (by decide +kernel) (by decide +kernel)
theorem tw_701 : Cond.instanceMethod yX6_totalBestPower ∈ gtb := tw_mk 701 (by decide +kernel) (by decide +kernel)
theorem k_L_129_X6 : LkV RL 129 yX6_totalBestPower cX6_totalBestPower 1 (some .long) 0 := ⟨all5 tw_700 tw_701 tw_702 tw_43 tw_703, by decide, by decide, by decide +kernel⟩
theorem tw_426 : Cond.code yX5_mismatchLoss cX5_mismatchLoss 4 (some .long) ∈ gtb := tw_mk 426 (by decide +kernel) (by decide +kernel)
theorem tw_423 : Cond.methodLink RL 130 yX5_mismatchLoss ∈ gtb := tw_mk 423 (by decide +kernel) (by decide +kernel)
theorem tw_425 : Cond.selects RX5 yX5_mismatchLoss yX5_mismatchLoss ∈ gtb := tw_mk 425 (by decide +kernel) (by decide +kernel)
theorem tw_424 : Cond.instanceMethod yX5_mismatchLoss ∈ gtb := tw_mk 424 (by decide +kernel) (by decide +kernel)
theorem k_L_130_X5 : LkV RL 130 yX5_mismatchLoss cX5_mismatchLoss 4 (some .long) 0 := ⟨all5 tw_423 tw_424 tw_425 tw_37 tw_426, by decide, by decide, by decide +kernel⟩
theorem tw_711 : Cond.code yX6_mismatchLoss cX6_mismatchLoss 4 (some .long) ∈ gtb := tw_mk 711 (by decide +kernel) (by decide +kernel)
theorem tw_708 : Cond.methodLink RL 133 yX6_mismatchLoss ∈ gtb := tw_mk 708 (by decide +kernel) (by decide +kernel)
theorem tw_710 : Cond.selects RX6 yX6_mismatchLoss yX6_mismatchLoss ∈ gtb := tw_mk 710 (by decide +kernel) (by decide +kernel)
theorem tw_709 : Cond.instanceMethod yX6_mismatchLoss ∈ gtb := tw_mk 709 (by decide +kernel) (by decide +kernel)
theorem k_L_133_X6 : LkV RL 133 yX6_mismatchLoss cX6_mismatchLoss 4 (some .long) 0 := ⟨all5 tw_708 tw_709 tw_710 tw_43 tw_711, by decide, by decide, by decide +kernel⟩
theorem tw_430 : Cond.code yX5_bestSwapGain cX5_bestSwapGain 1 (some .long) ∈ gtb := tw_mk 430 (by decide +kernel) (by decide +kernel)
theorem tw_427 : Cond.methodLink RL 134 yX5_bestSwapGain ∈ gtb := tw_mk 427 (by decide +kernel) (by decide +kernel)
theorem tw_429 : Cond.selects RX5 yX5_bestSwapGain yX5_bestSwapGain ∈ gtb := tw_mk 429 (by decide +kernel) (by decide +kernel)
theorem tw_428 : Cond.instanceMethod yX5_bestSwapGain ∈ gtb := tw_mk 428 (by decide +kernel) (by decide +kernel)
theorem k_L_134_X5 : LkV RL 134 yX5_bestSwapGain cX5_bestSwapGain 1 (some .long) 0 := ⟨all5 tw_427 tw_428 tw_429 tw_37 tw_430, by decide, by decide, by decide +kernel⟩
theorem tw_715 : Cond.code yX6_bestSwapGain cX6_bestSwapGain 1 (some .long) ∈ gtb := tw_mk 715 (by decide +kernel) (by decide +kernel)
theorem tw_712 : Cond.methodLink RL 137 yX6_bestSwapGain ∈ gtb := tw_mk 712 (by decide +kernel) (by decide +kernel)
theorem tw_714 : Cond.selects RX6 yX6_bestSwapGain yX6_bestSwapGain ∈ gtb := tw_mk 714 (by decide +kernel) (by decide +kernel)
theorem tw_713 : Cond.instanceMethod yX6_bestSwapGain ∈ gtb := tw_mk 713 (by decide +kernel) (by decide +kernel)
theorem k_L_137_X6 : LkV RL 137 yX6_bestSwapGain cX6_bestSwapGain 1 (some .long) 0 := ⟨all5 tw_712 tw_713 tw_714 tw_43 tw_715, by decide, by decide, by decide +kernel⟩
theorem tw_438 : Cond.code yX5_bestSwapLower cX5_bestSwapLower 1 (some .int) ∈ gtb := tw_mk 438 (by decide +kernel) (by decide +kernel)
theorem tw_435 : Cond.methodLink RL 138 yX5_bestSwapLower ∈ gtb := tw_mk 435 (by decide +kernel) (by decide +kernel)
theorem tw_437 : Cond.selects RX5 yX5_bestSwapLower yX5_bestSwapLower ∈ gtb := tw_mk 437 (by decide +kernel) (by decide +kernel)
theorem tw_436 : Cond.instanceMethod yX5_bestSwapLower ∈ gtb := tw_mk 436 (by decide +kernel) (by decide +kernel)
theorem k_L_138_X5 : LkV RL 138 yX5_bestSwapLower cX5_bestSwapLower 1 (some .int) 0 := ⟨all5 tw_435 tw_436 tw_437 tw_37 tw_438, by decide, by decide, by decide +kernel⟩
theorem tw_723 : Cond.code yX6_bestSwapLower cX6_bestSwapLower 1 (some .int) ∈ gtb := tw_mk 723 (by decide +kernel) (by decide +kernel)
theorem tw_720 : Cond.methodLink RL 141 yX6_bestSwapLower ∈ gtb := tw_mk 720 (by decide +kernel) (by decide +kernel)
theorem tw_722 : Cond.selects RX6 yX6_bestSwapLower yX6_bestSwapLower ∈ gtb := tw_mk 722 (by decide +kernel) (by decide +kernel)
theorem tw_721 : Cond.instanceMethod yX6_bestSwapLower ∈ gtb := tw_mk 721 (by decide +kernel) (by decide +kernel)
theorem k_L_141_X6 : LkV RL 141 yX6_bestSwapLower cX6_bestSwapLower 1 (some .int) 0 := ⟨all5 tw_720 tw_721 tw_722 tw_43 tw_723, by decide, by decide, by decide +kernel⟩
theorem tw_442 : Cond.code yX5_bestSwapHigher cX5_bestSwapHigher 1 (some .int) ∈ gtb := tw_mk 442 (by decide +kernel) (by decide +kernel)
theorem tw_439 : Cond.methodLink RL 142 yX5_bestSwapHigher ∈ gtb := tw_mk 439 (by decide +kernel) (by decide +kernel)
theorem tw_441 : Cond.selects RX5 yX5_bestSwapHigher yX5_bestSwapHigher ∈ gtb := tw_mk 441 (by decide +kernel) (by decide +kernel)
theorem tw_440 : Cond.instanceMethod yX5_bestSwapHigher ∈ gtb := tw_mk 440 (by decide +kernel) (by decide +kernel)
theorem k_L_142_X5 : LkV RL 142 yX5_bestSwapHigher cX5_bestSwapHigher 1 (some .int) 0 := ⟨all5 tw_439 tw_440 tw_441 tw_37 tw_442, by decide, by decide, by decide +kernel⟩
theorem tw_727 : Cond.code yX6_bestSwapHigher cX6_bestSwapHigher 1 (some .int) ∈ gtb := tw_mk 727 (by decide +kernel) (by decide +kernel)
theorem tw_724 : Cond.methodLink RL 145 yX6_bestSwapHigher ∈ gtb := tw_mk 724 (by decide +kernel) (by decide +kernel)
theorem tw_726 : Cond.selects RX6 yX6_bestSwapHigher yX6_bestSwapHigher ∈ gtb := tw_mk 726 (by decide +kernel) (by decide +kernel)
theorem tw_725 : Cond.instanceMethod yX6_bestSwapHigher ∈ gtb := tw_mk 725 (by decide +kernel) (by decide +kernel)
theorem k_L_145_X6 : LkV RL 145 yX6_bestSwapHigher cX6_bestSwapHigher 1 (some .int) 0 := ⟨all5 tw_724 tw_725 tw_726 tw_43 tw_727, by decide, by decide, by decide +kernel⟩
theorem tw_446 : Cond.code yX5_regroup cX5_regroup 6 (some .int) ∈ gtb := tw_mk 446 (by decide +kernel) (by decide +kernel)
theorem tw_443 : Cond.methodLink RL 146 yX5_regroup ∈ gtb := tw_mk 443 (by decide +kernel) (by decide +kernel)
theorem tw_445 : Cond.selects RX5 yX5_regroup yX5_regroup ∈ gtb := tw_mk 445 (by decide +kernel) (by decide +kernel)
theorem tw_444 : Cond.instanceMethod yX5_regroup ∈ gtb := tw_mk 444 (by decide +kernel) (by decide +kernel)
theorem k_L_146_X5 : LkV RL 146 yX5_regroup cX5_regroup 6 (some .int) 0 := ⟨all5 tw_443 tw_444 tw_445 tw_37 tw_446, by decide, by decide, by decide +kernel⟩
theorem tw_731 : Cond.code yX6_regroup cX6_regroup 4 (some .int) ∈ gtb := tw_mk 731 (by decide +kernel) (by decide +kernel)
theorem tw_728 : Cond.methodLink RL 149 yX6_regroup ∈ gtb := tw_mk 728 (by decide +kernel) (by decide +kernel)
theorem tw_730 : Cond.selects RX6 yX6_regroup yX6_regroup ∈ gtb := tw_mk 730 (by decide +kernel) (by decide +kernel)
theorem tw_729 : Cond.instanceMethod yX6_regroup ∈ gtb := tw_mk 729 (by decide +kernel) (by decide +kernel)
theorem k_L_149_X6 : LkV RL 149 yX6_regroup cX6_regroup 4 (some .int) 0 := ⟨all5 tw_728 tw_729 tw_730 tw_43 tw_731, by decide, by decide, by decide +kernel⟩
theorem tw_311 : Cond.code yX2_valueAt cX2_valueAt 4 (some .int) ∈ gtb := tw_mk 311 (by decide +kernel) (by decide +kernel)
theorem tw_42 : Cond.initialized RX2 ∈ gtb := tw_mk 42 (by decide +kernel) (by decide +kernel)
theorem tw_306 : Cond.methodLink RX0 9 ⟨"PvArray$Curve", "valueAt", "(I)I"⟩ ∈ gtb := tw_mk 306 (by decide +kernel) (by decide +kernel)
theorem tw_308 : Cond.sameMethod "PvArray$Curve" "PvArray$Curve" "valueAt" "(I)I" ∈ gtb := tw_mk 308 (by decide +kernel) (by decide +kernel)
theorem tw_309 : Cond.selects RX2 ⟨"PvArray$Curve", "valueAt", "(I)I"⟩ yX2_valueAt ∈ gtb := tw_mk 309 (by decide +kernel) (by decide +kernel)
theorem tn_307 : Cond.declares ⟨"PvArray$Curve", "valueAt", "(I)I"⟩ ∈ gnt := tn_mk 307 (by decide +kernel) (by decide +kernel)
theorem tw_310 : Cond.instanceMethod yX2_valueAt ∈ gtb := tw_mk 310 (by decide +kernel) (by decide +kernel)
theorem k_X0_9_X2 : LkU RX0 9 RX2 "PvArray$Curve" ⟨"PvArray$Curve", "valueAt", "(I)I"⟩ yX2_valueAt cX2_valueAt 4 (some .int) 1 := ⟨all6 tw_306 tw_308 tw_309 tw_310 tw_42 tw_311, Or.inr tn_307, by decide, by decide, by decide +kernel⟩
theorem tw_269 : Cond.code yX3_valueAt cX3_valueAt 3 (some .int) ∈ gtb := tw_mk 269 (by decide +kernel) (by decide +kernel)
theorem tw_40 : Cond.initialized RX3 ∈ gtb := tw_mk 40 (by decide +kernel) (by decide +kernel)
theorem tw_322 : Cond.selects RX3 ⟨"PvArray$Curve", "valueAt", "(I)I"⟩ yX3_valueAt ∈ gtb := tw_mk 322 (by decide +kernel) (by decide +kernel)
theorem tw_267 : Cond.instanceMethod yX3_valueAt ∈ gtb := tw_mk 267 (by decide +kernel) (by decide +kernel)
theorem k_X0_9_X3 : LkU RX0 9 RX3 "PvArray$Curve" ⟨"PvArray$Curve", "valueAt", "(I)I"⟩ yX3_valueAt cX3_valueAt 3 (some .int) 1 := ⟨all6 tw_306 tw_308 tw_322 tw_267 tw_40 tw_269, Or.inr tn_307, by decide, by decide, by decide +kernel⟩
theorem tw_320 : Cond.code yX4_valueAt cX4_valueAt 4 (some .int) ∈ gtb := tw_mk 320 (by decide +kernel) (by decide +kernel)
theorem tw_41 : Cond.initialized RX4 ∈ gtb := tw_mk 41 (by decide +kernel) (by decide +kernel)
theorem tw_323 : Cond.selects RX4 ⟨"PvArray$Curve", "valueAt", "(I)I"⟩ yX4_valueAt ∈ gtb := tw_mk 323 (by decide +kernel) (by decide +kernel)
theorem tw_318 : Cond.instanceMethod yX4_valueAt ∈ gtb := tw_mk 318 (by decide +kernel) (by decide +kernel)
theorem k_X0_9_X4 : LkU RX0 9 RX4 "PvArray$Curve" ⟨"PvArray$Curve", "valueAt", "(I)I"⟩ yX4_valueAt cX4_valueAt 4 (some .int) 1 := ⟨all6 tw_306 tw_308 tw_323 tw_318 tw_41 tw_320, Or.inr tn_307, by decide, by decide, by decide +kernel⟩
theorem tw_286 : Cond.code yX0_bestPoint cX0_bestPoint 8 (some .int) ∈ gtb := tw_mk 286 (by decide +kernel) (by decide +kernel)
theorem tw_39 : Cond.initialized RX0 ∈ gtb := tw_mk 39 (by decide +kernel) (by decide +kernel)
theorem tw_280 : Cond.methodLink RX0 15 ⟨"PvArray$Curve", "bestPoint", "()I"⟩ ∈ gtb := tw_mk 280 (by decide +kernel) (by decide +kernel)
theorem tw_282 : Cond.sameMethod "PvArray$Curve" "PvArray$Curve" "bestPoint" "()I" ∈ gtb := tw_mk 282 (by decide +kernel) (by decide +kernel)
theorem tw_283 : Cond.selects RX2 ⟨"PvArray$Curve", "bestPoint", "()I"⟩ yX0_bestPoint ∈ gtb := tw_mk 283 (by decide +kernel) (by decide +kernel)
theorem tw_281 : Cond.instanceMethod yX0_bestPoint ∈ gtb := tw_mk 281 (by decide +kernel) (by decide +kernel)
theorem k_X0_15_X2 : LkU RX0 15 RX2 "PvArray$Curve" ⟨"PvArray$Curve", "bestPoint", "()I"⟩ yX0_bestPoint cX0_bestPoint 8 (some .int) 0 := ⟨all6 tw_280 tw_282 tw_283 tw_281 tw_39 tw_286, Or.inl rfl, by decide, by decide, by decide +kernel⟩
theorem tw_284 : Cond.selects RX3 ⟨"PvArray$Curve", "bestPoint", "()I"⟩ yX0_bestPoint ∈ gtb := tw_mk 284 (by decide +kernel) (by decide +kernel)
theorem k_X0_15_X3 : LkU RX0 15 RX3 "PvArray$Curve" ⟨"PvArray$Curve", "bestPoint", "()I"⟩ yX0_bestPoint cX0_bestPoint 8 (some .int) 0 := ⟨all6 tw_280 tw_282 tw_284 tw_281 tw_39 tw_286, Or.inl rfl, by decide, by decide, by decide +kernel⟩
theorem tw_285 : Cond.selects RX4 ⟨"PvArray$Curve", "bestPoint", "()I"⟩ yX0_bestPoint ∈ gtb := tw_mk 285 (by decide +kernel) (by decide +kernel)
theorem k_X0_15_X4 : LkU RX0 15 RX4 "PvArray$Curve" ⟨"PvArray$Curve", "bestPoint", "()I"⟩ yX0_bestPoint cX0_bestPoint 8 (some .int) 0 := ⟨all6 tw_280 tw_282 tw_285 tw_281 tw_39 tw_286, Or.inl rfl, by decide, by decide, by decide +kernel⟩
theorem tw_333 : Cond.code yX0_productAt cX0_productAt 2 (some .long) ∈ gtb := tw_mk 333 (by decide +kernel) (by decide +kernel)
theorem tw_327 : Cond.methodLink RX0 19 ⟨"PvArray$Curve", "productAt", "(I)J"⟩ ∈ gtb := tw_mk 327 (by decide +kernel) (by decide +kernel)
theorem tw_329 : Cond.sameMethod "PvArray$Curve" "PvArray$Curve" "productAt" "(I)J" ∈ gtb := tw_mk 329 (by decide +kernel) (by decide +kernel)
theorem tw_330 : Cond.selects RX2 ⟨"PvArray$Curve", "productAt", "(I)J"⟩ yX0_productAt ∈ gtb := tw_mk 330 (by decide +kernel) (by decide +kernel)
theorem tw_328 : Cond.instanceMethod yX0_productAt ∈ gtb := tw_mk 328 (by decide +kernel) (by decide +kernel)
theorem k_X0_19_X2 : LkU RX0 19 RX2 "PvArray$Curve" ⟨"PvArray$Curve", "productAt", "(I)J"⟩ yX0_productAt cX0_productAt 2 (some .long) 1 := ⟨all6 tw_327 tw_329 tw_330 tw_328 tw_39 tw_333, Or.inl rfl, by decide, by decide, by decide +kernel⟩
theorem tw_331 : Cond.selects RX3 ⟨"PvArray$Curve", "productAt", "(I)J"⟩ yX0_productAt ∈ gtb := tw_mk 331 (by decide +kernel) (by decide +kernel)
theorem k_X0_19_X3 : LkU RX0 19 RX3 "PvArray$Curve" ⟨"PvArray$Curve", "productAt", "(I)J"⟩ yX0_productAt cX0_productAt 2 (some .long) 1 := ⟨all6 tw_327 tw_329 tw_331 tw_328 tw_39 tw_333, Or.inl rfl, by decide, by decide, by decide +kernel⟩
theorem tw_332 : Cond.selects RX4 ⟨"PvArray$Curve", "productAt", "(I)J"⟩ yX0_productAt ∈ gtb := tw_mk 332 (by decide +kernel) (by decide +kernel)
theorem k_X0_19_X4 : LkU RX0 19 RX4 "PvArray$Curve" ⟨"PvArray$Curve", "productAt", "(I)J"⟩ yX0_productAt cX0_productAt 2 (some .long) 1 := ⟨all6 tw_327 tw_329 tw_332 tw_328 tw_39 tw_333, Or.inl rfl, by decide, by decide, by decide +kernel⟩
theorem tw_292 : Cond.code yX2_end cX2_end 1 (some .int) ∈ gtb := tw_mk 292 (by decide +kernel) (by decide +kernel)
theorem tw_287 : Cond.methodLink RX0 23 ⟨"PvArray$Curve", "end", "()I"⟩ ∈ gtb := tw_mk 287 (by decide +kernel) (by decide +kernel)
theorem tw_289 : Cond.sameMethod "PvArray$Curve" "PvArray$Curve" "end" "()I" ∈ gtb := tw_mk 289 (by decide +kernel) (by decide +kernel)
theorem tw_290 : Cond.selects RX2 ⟨"PvArray$Curve", "end", "()I"⟩ yX2_end ∈ gtb := tw_mk 290 (by decide +kernel) (by decide +kernel)
theorem tn_288 : Cond.declares ⟨"PvArray$Curve", "end", "()I"⟩ ∈ gnt := tn_mk 288 (by decide +kernel) (by decide +kernel)
theorem tw_291 : Cond.instanceMethod yX2_end ∈ gtb := tw_mk 291 (by decide +kernel) (by decide +kernel)
theorem k_X0_23_X2 : LkU RX0 23 RX2 "PvArray$Curve" ⟨"PvArray$Curve", "end", "()I"⟩ yX2_end cX2_end 1 (some .int) 0 := ⟨all6 tw_287 tw_289 tw_290 tw_291 tw_42 tw_292, Or.inr tn_288, by decide, by decide, by decide +kernel⟩
theorem tw_295 : Cond.code yX3_end cX3_end 1 (some .int) ∈ gtb := tw_mk 295 (by decide +kernel) (by decide +kernel)
theorem tw_293 : Cond.selects RX3 ⟨"PvArray$Curve", "end", "()I"⟩ yX3_end ∈ gtb := tw_mk 293 (by decide +kernel) (by decide +kernel)
theorem tw_294 : Cond.instanceMethod yX3_end ∈ gtb := tw_mk 294 (by decide +kernel) (by decide +kernel)
theorem k_X0_23_X3 : LkU RX0 23 RX3 "PvArray$Curve" ⟨"PvArray$Curve", "end", "()I"⟩ yX3_end cX3_end 1 (some .int) 0 := ⟨all6 tw_287 tw_289 tw_293 tw_294 tw_40 tw_295, Or.inr tn_288, by decide, by decide, by decide +kernel⟩
theorem tw_298 : Cond.code yX4_end cX4_end 5 (some .int) ∈ gtb := tw_mk 298 (by decide +kernel) (by decide +kernel)
theorem tw_296 : Cond.selects RX4 ⟨"PvArray$Curve", "end", "()I"⟩ yX4_end ∈ gtb := tw_mk 296 (by decide +kernel) (by decide +kernel)
theorem tw_297 : Cond.instanceMethod yX4_end ∈ gtb := tw_mk 297 (by decide +kernel) (by decide +kernel)
theorem k_X0_23_X4 : LkU RX0 23 RX4 "PvArray$Curve" ⟨"PvArray$Curve", "end", "()I"⟩ yX4_end cX4_end 5 (some .int) 0 := ⟨all6 tw_287 tw_289 tw_296 tw_297 tw_41 tw_298, Or.inr tn_288, by decide, by decide, by decide +kernel⟩
theorem tw_315 : Cond.code yX4_deliveredAt cX4_deliveredAt 5 (some .int) ∈ gtb := tw_mk 315 (by decide +kernel) (by decide +kernel)
theorem tn_312 : Cond.methodLinkNest RX2 19 yX4_deliveredAt "PvArray" ∈ gnt := tn_mk 312 (by decide +kernel) (by decide +kernel)
theorem tw_8 : Cond.selects RX4 yX4_deliveredAt yX4_deliveredAt ∈ gtb := tw_mk 8 (by decide +kernel) (by decide +kernel)
theorem tw_314 : Cond.instanceMethod yX4_deliveredAt ∈ gtb := tw_mk 314 (by decide +kernel) (by decide +kernel)
theorem k_X2_19_X4 : LkN RX2 19 "PvArray" yX4_deliveredAt cX4_deliveredAt 5 (some .int) 1 := ⟨tn_312, all4 tw_314 tw_8 tw_41 tw_315, by decide, by decide, by decide +kernel⟩
theorem tw_321 : Cond.methodLink RX4 23 yX3_valueAt ∈ gtb := tw_mk 321 (by decide +kernel) (by decide +kernel)
theorem tw_268 : Cond.selects RX3 yX3_valueAt yX3_valueAt ∈ gtb := tw_mk 268 (by decide +kernel) (by decide +kernel)
theorem k_X4_23_X3 : LkV RX4 23 yX3_valueAt cX3_valueAt 3 (some .int) 1 := ⟨all5 tw_321 tw_267 tw_268 tw_40 tw_269, by decide, by decide, by decide +kernel⟩
theorem tw_369 : Cond.methodLink RX4 45 ⟨"PvArray$PvString", "productAt", "(I)J"⟩ ∈ gtb := tw_mk 369 (by decide +kernel) (by decide +kernel)
theorem tw_350 : Cond.sameMethod "PvArray$PvString" "PvArray$Curve" "productAt" "(I)J" ∈ gtb := tw_mk 350 (by decide +kernel) (by decide +kernel)
theorem tw_352 : Cond.selects RX4 ⟨"PvArray$PvString", "productAt", "(I)J"⟩ yX0_productAt ∈ gtb := tw_mk 352 (by decide +kernel) (by decide +kernel)
theorem k_X4_45_X4 : LkU RX4 45 RX4 "PvArray$Curve" ⟨"PvArray$PvString", "productAt", "(I)J"⟩ yX0_productAt cX0_productAt 2 (some .long) 1 := ⟨all6 tw_369 tw_350 tw_352 tw_328 tw_39 tw_333, Or.inl rfl, by decide, by decide, by decide +kernel⟩
theorem tw_316 : Cond.methodLink RX4 49 yX4_end ∈ gtb := tw_mk 316 (by decide +kernel) (by decide +kernel)
theorem tw_732 : Cond.selects RX4 yX4_end yX4_end ∈ gtb := tw_mk 732 (by decide +kernel) (by decide +kernel)
theorem k_X4_49_X4 : LkV RX4 49 yX4_end cX4_end 5 (some .int) 0 := ⟨all5 tw_316 tw_297 tw_732 tw_41 tw_298, by decide, by decide, by decide +kernel⟩
theorem tw_317 : Cond.methodLink RX4 53 yX4_valueAt ∈ gtb := tw_mk 317 (by decide +kernel) (by decide +kernel)
theorem tw_319 : Cond.selects RX4 yX4_valueAt yX4_valueAt ∈ gtb := tw_mk 319 (by decide +kernel) (by decide +kernel)
theorem k_X4_53_X4 : LkV RX4 53 yX4_valueAt cX4_valueAt 4 (some .int) 1 := ⟨all5 tw_317 tw_318 tw_319 tw_41 tw_320, by decide, by decide, by decide +kernel⟩
theorem tw_190 : Cond.code yX5_isString cX5_isString 2 (some .boolean) ∈ gtb := tw_mk 190 (by decide +kernel) (by decide +kernel)
theorem tw_187 : Cond.methodLink RX5 70 yX5_isString ∈ gtb := tw_mk 187 (by decide +kernel) (by decide +kernel)
theorem tw_0 : Cond.selects RX5 yX5_isString yX5_isString ∈ gtb := tw_mk 0 (by decide +kernel) (by decide +kernel)
theorem tw_189 : Cond.instanceMethod yX5_isString ∈ gtb := tw_mk 189 (by decide +kernel) (by decide +kernel)
theorem k_X5_70_X5 : LkV RX5 70 yX5_isString cX5_isString 2 (some .boolean) 1 := ⟨all5 tw_187 tw_189 tw_0 tw_37 tw_190, by decide, by decide, by decide +kernel⟩
theorem tw_193 : Cond.code yX5_isWithin cX5_isWithin 3 (some .boolean) ∈ gtb := tw_mk 193 (by decide +kernel) (by decide +kernel)
theorem tw_191 : Cond.methodLink RX5 74 yX5_isWithin ∈ gtb := tw_mk 191 (by decide +kernel) (by decide +kernel)
theorem tw_192 : Cond.static yX5_isWithin ∈ gtb := tw_mk 192 (by decide +kernel) (by decide +kernel)
theorem k_X5_74_X5 : LkS RX5 74 yX5_isWithin cX5_isWithin 3 (some .boolean) 3 := ⟨all4 tw_191 tw_192 tw_37 tw_193, by decide, by decide, by decide +kernel⟩
theorem tw_197 : Cond.code yX4_isFull cX4_isFull 1 (some .boolean) ∈ gtb := tw_mk 197 (by decide +kernel) (by decide +kernel)
theorem tn_194 : Cond.methodLinkNest RX5 78 yX4_isFull "PvArray" ∈ gnt := tn_mk 194 (by decide +kernel) (by decide +kernel)
theorem tw_1 : Cond.selects RX4 yX4_isFull yX4_isFull ∈ gtb := tw_mk 1 (by decide +kernel) (by decide +kernel)
theorem tw_196 : Cond.instanceMethod yX4_isFull ∈ gtb := tw_mk 196 (by decide +kernel) (by decide +kernel)
theorem k_X5_78_X4 : LkN RX5 78 "PvArray" yX4_isFull cX4_isFull 1 (some .boolean) 0 := ⟨tn_194, all4 tw_196 tw_1 tw_41 tw_197, by decide, by decide, by decide +kernel⟩
theorem tw_201 : Cond.code yX3_illuminate cX3_illuminate 2 none ∈ gtb := tw_mk 201 (by decide +kernel) (by decide +kernel)
theorem tn_198 : Cond.methodLinkNest RX5 88 yX3_illuminate "PvArray" ∈ gnt := tn_mk 198 (by decide +kernel) (by decide +kernel)
theorem tw_2 : Cond.selects RX3 yX3_illuminate yX3_illuminate ∈ gtb := tw_mk 2 (by decide +kernel) (by decide +kernel)
theorem tw_200 : Cond.instanceMethod yX3_illuminate ∈ gtb := tw_mk 200 (by decide +kernel) (by decide +kernel)
theorem k_X5_88_X3 : LkN RX5 88 "PvArray" yX3_illuminate cX3_illuminate 2 none 1 := ⟨tn_198, all4 tw_200 tw_2 tw_40 tw_201, by decide, by decide, by decide +kernel⟩
theorem tw_205 : Cond.code yX5_putLast cX5_putLast 4 (some .int) ∈ gtb := tw_mk 205 (by decide +kernel) (by decide +kernel)
theorem tw_202 : Cond.methodLink RX5 92 yX5_putLast ∈ gtb := tw_mk 202 (by decide +kernel) (by decide +kernel)
theorem tw_3 : Cond.selects RX5 yX5_putLast yX5_putLast ∈ gtb := tw_mk 3 (by decide +kernel) (by decide +kernel)
theorem tw_204 : Cond.instanceMethod yX5_putLast ∈ gtb := tw_mk 204 (by decide +kernel) (by decide +kernel)
theorem k_X5_92_X5 : LkV RX5 92 yX5_putLast cX5_putLast 4 (some .int) 2 := ⟨all5 tw_202 tw_204 tw_3 tw_37 tw_205, by decide, by decide, by decide +kernel⟩
theorem tw_217 : Cond.code yX5_isModule cX5_isModule 2 (some .boolean) ∈ gtb := tw_mk 217 (by decide +kernel) (by decide +kernel)
theorem tw_214 : Cond.methodLink RX5 96 yX5_isModule ∈ gtb := tw_mk 214 (by decide +kernel) (by decide +kernel)
theorem tw_5 : Cond.selects RX5 yX5_isModule yX5_isModule ∈ gtb := tw_mk 5 (by decide +kernel) (by decide +kernel)
theorem tw_216 : Cond.instanceMethod yX5_isModule ∈ gtb := tw_mk 216 (by decide +kernel) (by decide +kernel)
theorem k_X5_96_X5 : LkV RX5 96 yX5_isModule cX5_isModule 2 (some .boolean) 1 := ⟨all5 tw_214 tw_216 tw_5 tw_37 tw_217, by decide, by decide, by decide +kernel⟩
theorem tw_241 : Cond.code yX5_takeOut cX5_takeOut 5 none ∈ gtb := tw_mk 241 (by decide +kernel) (by decide +kernel)
theorem tw_238 : Cond.methodLink RX5 115 yX5_takeOut ∈ gtb := tw_mk 238 (by decide +kernel) (by decide +kernel)
theorem tw_6 : Cond.selects RX5 yX5_takeOut yX5_takeOut ∈ gtb := tw_mk 6 (by decide +kernel) (by decide +kernel)
theorem tw_240 : Cond.instanceMethod yX5_takeOut ∈ gtb := tw_mk 240 (by decide +kernel) (by decide +kernel)
theorem k_X5_115_X5 : LkV RX5 115 yX5_takeOut cX5_takeOut 5 none 1 := ⟨all5 tw_238 tw_240 tw_6 tw_37 tw_241, by decide, by decide, by decide +kernel⟩
theorem tw_249 : Cond.code yX5_exchange cX5_exchange 5 none ∈ gtb := tw_mk 249 (by decide +kernel) (by decide +kernel)
theorem tw_246 : Cond.methodLink RX5 118 yX5_exchange ∈ gtb := tw_mk 246 (by decide +kernel) (by decide +kernel)
theorem tw_7 : Cond.selects RX5 yX5_exchange yX5_exchange ∈ gtb := tw_mk 7 (by decide +kernel) (by decide +kernel)
theorem tw_248 : Cond.instanceMethod yX5_exchange ∈ gtb := tw_mk 248 (by decide +kernel) (by decide +kernel)
theorem k_X5_118_X5 : LkV RX5 118 yX5_exchange cX5_exchange 5 none 2 := ⟨all5 tw_246 tw_248 tw_7 tw_37 tw_249, by decide, by decide, by decide +kernel⟩
theorem tw_266 : Cond.methodLink RX5 129 yX3_valueAt ∈ gtb := tw_mk 266 (by decide +kernel) (by decide +kernel)
theorem k_X5_129_X3 : LkV RX5 129 yX3_valueAt cX3_valueAt 3 (some .int) 1 := ⟨all5 tw_266 tw_267 tw_268 tw_40 tw_269, by decide, by decide, by decide +kernel⟩
theorem tw_279 : Cond.code yX0_greatestProduct cX0_greatestProduct 1 (some .long) ∈ gtb := tw_mk 279 (by decide +kernel) (by decide +kernel)
theorem tw_274 : Cond.methodLink RX5 133 ⟨"PvArray$PvModule", "greatestProduct", "()J"⟩ ∈ gtb := tw_mk 274 (by decide +kernel) (by decide +kernel)
theorem tw_275 : Cond.sameMethod "PvArray$PvModule" "PvArray$Curve" "greatestProduct" "()J" ∈ gtb := tw_mk 275 (by decide +kernel) (by decide +kernel)
theorem tw_277 : Cond.selects RX3 ⟨"PvArray$PvModule", "greatestProduct", "()J"⟩ yX0_greatestProduct ∈ gtb := tw_mk 277 (by decide +kernel) (by decide +kernel)
theorem tw_278 : Cond.instanceMethod yX0_greatestProduct ∈ gtb := tw_mk 278 (by decide +kernel) (by decide +kernel)
theorem k_X5_133_X3 : LkU RX5 133 RX3 "PvArray$Curve" ⟨"PvArray$PvModule", "greatestProduct", "()J"⟩ yX0_greatestProduct cX0_greatestProduct 1 (some .long) 0 := ⟨all6 tw_274 tw_275 tw_277 tw_278 tw_39 tw_279, Or.inl rfl, by decide, by decide, by decide +kernel⟩
theorem tw_339 : Cond.methodLink RX5 139 yX4_end ∈ gtb := tw_mk 339 (by decide +kernel) (by decide +kernel)
theorem k_X5_139_X4 : LkV RX5 139 yX4_end cX4_end 5 (some .int) 0 := ⟨all5 tw_339 tw_297 tw_732 tw_41 tw_298, by decide, by decide, by decide +kernel⟩
theorem tw_344 : Cond.methodLink RX5 143 yX4_valueAt ∈ gtb := tw_mk 344 (by decide +kernel) (by decide +kernel)
theorem k_X5_143_X4 : LkV RX5 143 yX4_valueAt cX4_valueAt 4 (some .int) 1 := ⟨all5 tw_344 tw_318 tw_319 tw_41 tw_320, by decide, by decide, by decide +kernel⟩
theorem tw_349 : Cond.methodLink RX5 144 ⟨"PvArray$PvString", "productAt", "(I)J"⟩ ∈ gtb := tw_mk 349 (by decide +kernel) (by decide +kernel)
theorem k_X5_144_X4 : LkU RX5 144 RX4 "PvArray$Curve" ⟨"PvArray$PvString", "productAt", "(I)J"⟩ yX0_productAt cX0_productAt 2 (some .long) 1 := ⟨all6 tw_349 tw_350 tw_352 tw_328 tw_39 tw_333, Or.inl rfl, by decide, by decide, by decide +kernel⟩
theorem tw_360 : Cond.code yX4_bypassedAt cX4_bypassedAt 4 (some .int) ∈ gtb := tw_mk 360 (by decide +kernel) (by decide +kernel)
theorem tn_357 : Cond.methodLinkNest RX5 148 yX4_bypassedAt "PvArray" ∈ gnt := tn_mk 357 (by decide +kernel) (by decide +kernel)
theorem tw_9 : Cond.selects RX4 yX4_bypassedAt yX4_bypassedAt ∈ gtb := tw_mk 9 (by decide +kernel) (by decide +kernel)
theorem tw_359 : Cond.instanceMethod yX4_bypassedAt ∈ gtb := tw_mk 359 (by decide +kernel) (by decide +kernel)
theorem k_X5_148_X4 : LkN RX5 148 "PvArray" yX4_bypassedAt cX4_bypassedAt 4 (some .int) 1 := ⟨tn_357, all4 tw_359 tw_9 tw_41 tw_360, by decide, by decide, by decide +kernel⟩
theorem tw_368 : Cond.code yX4_isPeak cX4_isPeak 5 (some .boolean) ∈ gtb := tw_mk 368 (by decide +kernel) (by decide +kernel)
theorem tn_365 : Cond.methodLinkNest RX5 151 yX4_isPeak "PvArray" ∈ gnt := tn_mk 365 (by decide +kernel) (by decide +kernel)
theorem tw_10 : Cond.selects RX4 yX4_isPeak yX4_isPeak ∈ gtb := tw_mk 10 (by decide +kernel) (by decide +kernel)
theorem tw_367 : Cond.instanceMethod yX4_isPeak ∈ gtb := tw_mk 367 (by decide +kernel) (by decide +kernel)
theorem k_X5_151_X4 : LkN RX5 151 "PvArray" yX4_isPeak cX4_isPeak 5 (some .boolean) 2 := ⟨tn_365, all4 tw_367 tw_10 tw_41 tw_368, by decide, by decide, by decide +kernel⟩
theorem tw_378 : Cond.methodLink RX5 155 ⟨"PvArray$PvString", "bestPoint", "()I"⟩ ∈ gtb := tw_mk 378 (by decide +kernel) (by decide +kernel)
theorem tw_379 : Cond.sameMethod "PvArray$PvString" "PvArray$Curve" "bestPoint" "()I" ∈ gtb := tw_mk 379 (by decide +kernel) (by decide +kernel)
theorem tw_381 : Cond.selects RX4 ⟨"PvArray$PvString", "bestPoint", "()I"⟩ yX0_bestPoint ∈ gtb := tw_mk 381 (by decide +kernel) (by decide +kernel)
theorem k_X5_155_X4 : LkU RX5 155 RX4 "PvArray$Curve" ⟨"PvArray$PvString", "bestPoint", "()I"⟩ yX0_bestPoint cX0_bestPoint 8 (some .int) 0 := ⟨all6 tw_378 tw_379 tw_381 tw_281 tw_39 tw_286, Or.inl rfl, by decide, by decide, by decide +kernel⟩
theorem tw_386 : Cond.methodLink RX5 158 ⟨"PvArray$PvString", "greatestProduct", "()J"⟩ ∈ gtb := tw_mk 386 (by decide +kernel) (by decide +kernel)
theorem tw_387 : Cond.sameMethod "PvArray$PvString" "PvArray$Curve" "greatestProduct" "()J" ∈ gtb := tw_mk 387 (by decide +kernel) (by decide +kernel)
theorem tw_388 : Cond.selects RX4 ⟨"PvArray$PvString", "greatestProduct", "()J"⟩ yX0_greatestProduct ∈ gtb := tw_mk 388 (by decide +kernel) (by decide +kernel)
theorem k_X5_158_X4 : LkU RX5 158 RX4 "PvArray$Curve" ⟨"PvArray$PvString", "greatestProduct", "()J"⟩ yX0_greatestProduct cX0_greatestProduct 1 (some .long) 0 := ⟨all6 tw_386 tw_387 tw_388 tw_278 tw_39 tw_279, Or.inl rfl, by decide, by decide, by decide +kernel⟩
theorem tw_402 : Cond.code yX4_bestOfScan cX4_bestOfScan 9 (some .int) ∈ gtb := tw_mk 402 (by decide +kernel) (by decide +kernel)
theorem tn_399 : Cond.methodLinkNest RX5 167 yX4_bestOfScan "PvArray" ∈ gnt := tn_mk 399 (by decide +kernel) (by decide +kernel)
theorem tw_11 : Cond.selects RX4 yX4_bestOfScan yX4_bestOfScan ∈ gtb := tw_mk 11 (by decide +kernel) (by decide +kernel)
theorem tw_401 : Cond.instanceMethod yX4_bestOfScan ∈ gtb := tw_mk 401 (by decide +kernel) (by decide +kernel)
theorem k_X5_167_X4 : LkN RX5 167 "PvArray" yX4_bestOfScan cX4_bestOfScan 9 (some .int) 1 := ⟨tn_399, all4 tw_401 tw_11 tw_41 tw_402, by decide, by decide, by decide +kernel⟩
theorem tw_406 : Cond.code yX4_climbFrom cX4_climbFrom 7 (some .int) ∈ gtb := tw_mk 406 (by decide +kernel) (by decide +kernel)
theorem tn_403 : Cond.methodLinkNest RX5 170 yX4_climbFrom "PvArray" ∈ gnt := tn_mk 403 (by decide +kernel) (by decide +kernel)
theorem tw_12 : Cond.selects RX4 yX4_climbFrom yX4_climbFrom ∈ gtb := tw_mk 12 (by decide +kernel) (by decide +kernel)
theorem tw_405 : Cond.instanceMethod yX4_climbFrom ∈ gtb := tw_mk 405 (by decide +kernel) (by decide +kernel)
theorem k_X5_170_X4 : LkN RX5 170 "PvArray" yX4_climbFrom cX4_climbFrom 7 (some .int) 1 := ⟨tn_403, all4 tw_405 tw_12 tw_41 tw_406, by decide, by decide, by decide +kernel⟩
theorem tw_411 : Cond.methodLink RX5 173 yX2_valueAt ∈ gtb := tw_mk 411 (by decide +kernel) (by decide +kernel)
theorem tw_733 : Cond.selects RX2 yX2_valueAt yX2_valueAt ∈ gtb := tw_mk 733 (by decide +kernel) (by decide +kernel)
theorem k_X5_173_X2 : LkV RX5 173 yX2_valueAt cX2_valueAt 4 (some .int) 1 := ⟨all5 tw_411 tw_310 tw_733 tw_42 tw_311, by decide, by decide, by decide +kernel⟩
theorem tw_416 : Cond.methodLink RX5 174 ⟨"PvArray$Parallel", "bestPoint", "()I"⟩ ∈ gtb := tw_mk 416 (by decide +kernel) (by decide +kernel)
theorem tw_417 : Cond.sameMethod "PvArray$Parallel" "PvArray$Curve" "bestPoint" "()I" ∈ gtb := tw_mk 417 (by decide +kernel) (by decide +kernel)
theorem tw_418 : Cond.selects RX2 ⟨"PvArray$Parallel", "bestPoint", "()I"⟩ yX0_bestPoint ∈ gtb := tw_mk 418 (by decide +kernel) (by decide +kernel)
theorem k_X5_174_X2 : LkU RX5 174 RX2 "PvArray$Curve" ⟨"PvArray$Parallel", "bestPoint", "()I"⟩ yX0_bestPoint cX0_bestPoint 8 (some .int) 0 := ⟨all6 tw_416 tw_417 tw_418 tw_281 tw_39 tw_286, Or.inl rfl, by decide, by decide, by decide +kernel⟩
theorem tw_434 : Cond.code yX5_findBestSwap cX5_findBestSwap 9 none ∈ gtb := tw_mk 434 (by decide +kernel) (by decide +kernel)
theorem tw_431 : Cond.methodLink RX5 175 yX5_findBestSwap ∈ gtb := tw_mk 431 (by decide +kernel) (by decide +kernel)
theorem tw_13 : Cond.selects RX5 yX5_findBestSwap yX5_findBestSwap ∈ gtb := tw_mk 13 (by decide +kernel) (by decide +kernel)
theorem tw_433 : Cond.instanceMethod yX5_findBestSwap ∈ gtb := tw_mk 433 (by decide +kernel) (by decide +kernel)
theorem k_X5_175_X5 : LkV RX5 175 yX5_findBestSwap cX5_findBestSwap 9 none 0 := ⟨all5 tw_431 tw_433 tw_13 tw_37 tw_434, by decide, by decide, by decide +kernel⟩
theorem tw_450 : Cond.code yX5_sortByLightCurrent cX5_sortByLightCurrent 3 none ∈ gtb := tw_mk 450 (by decide +kernel) (by decide +kernel)
theorem tw_447 : Cond.methodLink RX5 178 yX5_sortByLightCurrent ∈ gtb := tw_mk 447 (by decide +kernel) (by decide +kernel)
theorem tw_14 : Cond.selects RX5 yX5_sortByLightCurrent yX5_sortByLightCurrent ∈ gtb := tw_mk 14 (by decide +kernel) (by decide +kernel)
theorem tw_449 : Cond.instanceMethod yX5_sortByLightCurrent ∈ gtb := tw_mk 449 (by decide +kernel) (by decide +kernel)
theorem k_X5_178_X5 : LkV RX5 178 yX5_sortByLightCurrent cX5_sortByLightCurrent 3 none 0 := ⟨all5 tw_447 tw_449 tw_14 tw_37 tw_450, by decide, by decide, by decide +kernel⟩
theorem tw_209 : Cond.code yX5_place cX5_place 4 none ∈ gtb := tw_mk 209 (by decide +kernel) (by decide +kernel)
theorem tw_206 : Cond.methodLink RX5 181 yX5_place ∈ gtb := tw_mk 206 (by decide +kernel) (by decide +kernel)
theorem tw_4 : Cond.selects RX5 yX5_place yX5_place ∈ gtb := tw_mk 4 (by decide +kernel) (by decide +kernel)
theorem tw_208 : Cond.instanceMethod yX5_place ∈ gtb := tw_mk 208 (by decide +kernel) (by decide +kernel)
theorem k_X5_181_X5 : LkV RX5 181 yX5_place cX5_place 4 none 3 := ⟨all5 tw_206 tw_208 tw_4 tw_37 tw_209, by decide, by decide, by decide +kernel⟩
theorem tw_530 : Cond.code yX6_isBetween cX6_isBetween 3 (some .boolean) ∈ gtb := tw_mk 530 (by decide +kernel) (by decide +kernel)
theorem tw_528 : Cond.methodLink RX6 55 yX6_isBetween ∈ gtb := tw_mk 528 (by decide +kernel) (by decide +kernel)
theorem tw_529 : Cond.static yX6_isBetween ∈ gtb := tw_mk 529 (by decide +kernel) (by decide +kernel)
theorem k_X6_55_X6 : LkS RX6 55 yX6_isBetween cX6_isBetween 3 (some .boolean) 3 := ⟨all4 tw_528 tw_529 tw_43 tw_530, by decide, by decide, by decide +kernel⟩
theorem tw_527 : Cond.code yX6_isString cX6_isString 2 (some .boolean) ∈ gtb := tw_mk 527 (by decide +kernel) (by decide +kernel)
theorem tw_524 : Cond.methodLink RX6 62 yX6_isString ∈ gtb := tw_mk 524 (by decide +kernel) (by decide +kernel)
theorem tw_15 : Cond.selects RX6 yX6_isString yX6_isString ∈ gtb := tw_mk 15 (by decide +kernel) (by decide +kernel)
theorem tw_526 : Cond.instanceMethod yX6_isString ∈ gtb := tw_mk 526 (by decide +kernel) (by decide +kernel)
theorem k_X6_62_X6 : LkV RX6 62 yX6_isString cX6_isString 2 (some .boolean) 1 := ⟨all5 tw_524 tw_526 tw_15 tw_43 tw_527, by decide, by decide, by decide +kernel⟩
theorem tw_534 : Cond.code yX6_append cX6_append 3 none ∈ gtb := tw_mk 534 (by decide +kernel) (by decide +kernel)
theorem tw_531 : Cond.methodLink RX6 66 yX6_append ∈ gtb := tw_mk 531 (by decide +kernel) (by decide +kernel)
theorem tw_16 : Cond.selects RX6 yX6_append yX6_append ∈ gtb := tw_mk 16 (by decide +kernel) (by decide +kernel)
theorem tw_533 : Cond.instanceMethod yX6_append ∈ gtb := tw_mk 533 (by decide +kernel) (by decide +kernel)
theorem k_X6_66_X6 : LkV RX6 66 yX6_append cX6_append 3 none 2 := ⟨all5 tw_531 tw_533 tw_16 tw_43 tw_534, by decide, by decide, by decide +kernel⟩
theorem tw_542 : Cond.code yX6_isModule cX6_isModule 2 (some .boolean) ∈ gtb := tw_mk 542 (by decide +kernel) (by decide +kernel)
theorem tw_539 : Cond.methodLink RX6 70 yX6_isModule ∈ gtb := tw_mk 539 (by decide +kernel) (by decide +kernel)
theorem tw_17 : Cond.selects RX6 yX6_isModule yX6_isModule ∈ gtb := tw_mk 17 (by decide +kernel) (by decide +kernel)
theorem tw_541 : Cond.instanceMethod yX6_isModule ∈ gtb := tw_mk 541 (by decide +kernel) (by decide +kernel)
theorem k_X6_70_X6 : LkV RX6 70 yX6_isModule cX6_isModule 2 (some .boolean) 1 := ⟨all5 tw_539 tw_541 tw_17 tw_43 tw_542, by decide, by decide, by decide +kernel⟩
theorem tw_566 : Cond.code yX6_placeOf cX6_placeOf 4 (some .int) ∈ gtb := tw_mk 566 (by decide +kernel) (by decide +kernel)
theorem tw_563 : Cond.methodLink RX6 73 yX6_placeOf ∈ gtb := tw_mk 563 (by decide +kernel) (by decide +kernel)
theorem tw_18 : Cond.selects RX6 yX6_placeOf yX6_placeOf ∈ gtb := tw_mk 18 (by decide +kernel) (by decide +kernel)
theorem tw_565 : Cond.instanceMethod yX6_placeOf ∈ gtb := tw_mk 565 (by decide +kernel) (by decide +kernel)
theorem k_X6_73_X6 : LkV RX6 73 yX6_placeOf cX6_placeOf 4 (some .int) 1 := ⟨all5 tw_563 tw_565 tw_18 tw_43 tw_566, by decide, by decide, by decide +kernel⟩
theorem tw_570 : Cond.code yX6_remove cX6_remove 5 none ∈ gtb := tw_mk 570 (by decide +kernel) (by decide +kernel)
theorem tw_567 : Cond.methodLink RX6 77 yX6_remove ∈ gtb := tw_mk 567 (by decide +kernel) (by decide +kernel)
theorem tw_19 : Cond.selects RX6 yX6_remove yX6_remove ∈ gtb := tw_mk 19 (by decide +kernel) (by decide +kernel)
theorem tw_569 : Cond.instanceMethod yX6_remove ∈ gtb := tw_mk 569 (by decide +kernel) (by decide +kernel)
theorem k_X6_77_X6 : LkV RX6 77 yX6_remove cX6_remove 5 none 1 := ⟨all5 tw_567 tw_569 tw_19 tw_43 tw_570, by decide, by decide, by decide +kernel⟩
theorem tw_578 : Cond.code yX6_exchange cX6_exchange 5 none ∈ gtb := tw_mk 578 (by decide +kernel) (by decide +kernel)
theorem tw_575 : Cond.methodLink RX6 81 yX6_exchange ∈ gtb := tw_mk 575 (by decide +kernel) (by decide +kernel)
theorem tw_20 : Cond.selects RX6 yX6_exchange yX6_exchange ∈ gtb := tw_mk 20 (by decide +kernel) (by decide +kernel)
theorem tw_577 : Cond.instanceMethod yX6_exchange ∈ gtb := tw_mk 577 (by decide +kernel) (by decide +kernel)
theorem k_X6_81_X6 : LkV RX6 81 yX6_exchange cX6_exchange 5 none 2 := ⟨all5 tw_575 tw_577 tw_20 tw_43 tw_578, by decide, by decide, by decide +kernel⟩
theorem tw_594 : Cond.code yX6_photocurrentOf cX6_photocurrentOf 2 (some .int) ∈ gtb := tw_mk 594 (by decide +kernel) (by decide +kernel)
theorem tw_591 : Cond.methodLink RX6 84 yX6_photocurrentOf ∈ gtb := tw_mk 591 (by decide +kernel) (by decide +kernel)
theorem tw_21 : Cond.selects RX6 yX6_photocurrentOf yX6_photocurrentOf ∈ gtb := tw_mk 21 (by decide +kernel) (by decide +kernel)
theorem tw_593 : Cond.instanceMethod yX6_photocurrentOf ∈ gtb := tw_mk 593 (by decide +kernel) (by decide +kernel)
theorem k_X6_84_X6 : LkV RX6 84 yX6_photocurrentOf cX6_photocurrentOf 2 (some .int) 1 := ⟨all5 tw_591 tw_593 tw_21 tw_43 tw_594, by decide, by decide, by decide +kernel⟩
theorem tw_606 : Cond.code yX6_litVoltage cX6_litVoltage 4 (some .int) ∈ gtb := tw_mk 606 (by decide +kernel) (by decide +kernel)
theorem tw_603 : Cond.methodLink RX6 87 yX6_litVoltage ∈ gtb := tw_mk 603 (by decide +kernel) (by decide +kernel)
theorem tw_23 : Cond.selects RX6 yX6_litVoltage yX6_litVoltage ∈ gtb := tw_mk 23 (by decide +kernel) (by decide +kernel)
theorem tw_605 : Cond.instanceMethod yX6_litVoltage ∈ gtb := tw_mk 605 (by decide +kernel) (by decide +kernel)
theorem k_X6_87_X6 : LkV RX6 87 yX6_litVoltage cX6_litVoltage 4 (some .int) 2 := ⟨all5 tw_603 tw_605 tw_23 tw_43 tw_606, by decide, by decide, by decide +kernel⟩
theorem tw_602 : Cond.code yX6_voltageOf cX6_voltageOf 3 (some .int) ∈ gtb := tw_mk 602 (by decide +kernel) (by decide +kernel)
theorem tw_599 : Cond.methodLink RX6 91 yX6_voltageOf ∈ gtb := tw_mk 599 (by decide +kernel) (by decide +kernel)
theorem tw_22 : Cond.selects RX6 yX6_voltageOf yX6_voltageOf ∈ gtb := tw_mk 22 (by decide +kernel) (by decide +kernel)
theorem tw_601 : Cond.instanceMethod yX6_voltageOf ∈ gtb := tw_mk 601 (by decide +kernel) (by decide +kernel)
theorem k_X6_91_X6 : LkV RX6 91 yX6_voltageOf cX6_voltageOf 3 (some .int) 2 := ⟨all5 tw_599 tw_601 tw_22 tw_43 tw_602, by decide, by decide, by decide +kernel⟩
theorem tw_614 : Cond.code yX6_peakPowerOf cX6_peakPowerOf 7 (some .long) ∈ gtb := tw_mk 614 (by decide +kernel) (by decide +kernel)
theorem tw_611 : Cond.methodLink RX6 94 yX6_peakPowerOf ∈ gtb := tw_mk 611 (by decide +kernel) (by decide +kernel)
theorem tw_24 : Cond.selects RX6 yX6_peakPowerOf yX6_peakPowerOf ∈ gtb := tw_mk 24 (by decide +kernel) (by decide +kernel)
theorem tw_613 : Cond.instanceMethod yX6_peakPowerOf ∈ gtb := tw_mk 613 (by decide +kernel) (by decide +kernel)
theorem k_X6_94_X6 : LkV RX6 94 yX6_peakPowerOf cX6_peakPowerOf 7 (some .long) 1 := ⟨all5 tw_611 tw_613 tw_24 tw_43 tw_614, by decide, by decide, by decide +kernel⟩
theorem tw_631 : Cond.code yX6_voltageAt cX6_voltageAt 5 (some .int) ∈ gtb := tw_mk 631 (by decide +kernel) (by decide +kernel)
theorem tw_628 : Cond.methodLink RX6 100 yX6_voltageAt ∈ gtb := tw_mk 628 (by decide +kernel) (by decide +kernel)
theorem tw_26 : Cond.selects RX6 yX6_voltageAt yX6_voltageAt ∈ gtb := tw_mk 26 (by decide +kernel) (by decide +kernel)
theorem tw_630 : Cond.instanceMethod yX6_voltageAt ∈ gtb := tw_mk 630 (by decide +kernel) (by decide +kernel)
theorem k_X6_100_X6 : LkV RX6 100 yX6_voltageAt cX6_voltageAt 5 (some .int) 2 := ⟨all5 tw_628 tw_630 tw_26 tw_43 tw_631, by decide, by decide, by decide +kernel⟩
theorem tw_623 : Cond.code yX6_limitOf cX6_limitOf 6 (some .int) ∈ gtb := tw_mk 623 (by decide +kernel) (by decide +kernel)
theorem tw_620 : Cond.methodLink RX6 103 yX6_limitOf ∈ gtb := tw_mk 620 (by decide +kernel) (by decide +kernel)
theorem tw_25 : Cond.selects RX6 yX6_limitOf yX6_limitOf ∈ gtb := tw_mk 25 (by decide +kernel) (by decide +kernel)
theorem tw_622 : Cond.instanceMethod yX6_limitOf ∈ gtb := tw_mk 622 (by decide +kernel) (by decide +kernel)
theorem k_X6_103_X6 : LkV RX6 103 yX6_limitOf cX6_limitOf 6 (some .int) 1 := ⟨all5 tw_620 tw_622 tw_25 tw_43 tw_623, by decide, by decide, by decide +kernel⟩
theorem tw_639 : Cond.code yX6_powerAt cX6_powerAt 3 (some .long) ∈ gtb := tw_mk 639 (by decide +kernel) (by decide +kernel)
theorem tw_636 : Cond.methodLink RX6 106 yX6_powerAt ∈ gtb := tw_mk 636 (by decide +kernel) (by decide +kernel)
theorem tw_27 : Cond.selects RX6 yX6_powerAt yX6_powerAt ∈ gtb := tw_mk 27 (by decide +kernel) (by decide +kernel)
theorem tw_638 : Cond.instanceMethod yX6_powerAt ∈ gtb := tw_mk 638 (by decide +kernel) (by decide +kernel)
theorem k_X6_106_X6 : LkV RX6 106 yX6_powerAt cX6_powerAt 3 (some .long) 2 := ⟨all5 tw_636 tw_638 tw_27 tw_43 tw_639, by decide, by decide, by decide +kernel⟩
theorem tw_651 : Cond.code yX6_layOut cX6_layOut 3 none ∈ gtb := tw_mk 651 (by decide +kernel) (by decide +kernel)
theorem tw_648 : Cond.methodLink RX6 113 yX6_layOut ∈ gtb := tw_mk 648 (by decide +kernel) (by decide +kernel)
theorem tw_28 : Cond.selects RX6 yX6_layOut yX6_layOut ∈ gtb := tw_mk 28 (by decide +kernel) (by decide +kernel)
theorem tw_650 : Cond.instanceMethod yX6_layOut ∈ gtb := tw_mk 650 (by decide +kernel) (by decide +kernel)
theorem k_X6_113_X6 : LkV RX6 113 yX6_layOut cX6_layOut 3 none 1 := ⟨all5 tw_648 tw_650 tw_28 tw_43 tw_651, by decide, by decide, by decide +kernel⟩
theorem tw_655 : Cond.code yX6_isPeak cX6_isPeak 2 (some .boolean) ∈ gtb := tw_mk 655 (by decide +kernel) (by decide +kernel)
theorem tw_652 : Cond.methodLink RX6 116 yX6_isPeak ∈ gtb := tw_mk 652 (by decide +kernel) (by decide +kernel)
theorem tw_29 : Cond.selects RX6 yX6_isPeak yX6_isPeak ∈ gtb := tw_mk 29 (by decide +kernel) (by decide +kernel)
theorem tw_654 : Cond.instanceMethod yX6_isPeak ∈ gtb := tw_mk 654 (by decide +kernel) (by decide +kernel)
theorem k_X6_116_X6 : LkV RX6 116 yX6_isPeak cX6_isPeak 2 (some .boolean) 1 := ⟨all5 tw_652 tw_654 tw_29 tw_43 tw_655, by decide, by decide, by decide +kernel⟩
theorem tw_667 : Cond.code yX6_bestOf cX6_bestOf 4 (some .int) ∈ gtb := tw_mk 667 (by decide +kernel) (by decide +kernel)
theorem tw_664 : Cond.methodLink RX6 119 yX6_bestOf ∈ gtb := tw_mk 664 (by decide +kernel) (by decide +kernel)
theorem tw_30 : Cond.selects RX6 yX6_bestOf yX6_bestOf ∈ gtb := tw_mk 30 (by decide +kernel) (by decide +kernel)
theorem tw_666 : Cond.instanceMethod yX6_bestOf ∈ gtb := tw_mk 666 (by decide +kernel) (by decide +kernel)
theorem k_X6_119_X6 : LkV RX6 119 yX6_bestOf cX6_bestOf 4 (some .int) 1 := ⟨all5 tw_664 tw_666 tw_30 tw_43 tw_667, by decide, by decide, by decide +kernel⟩
theorem tw_675 : Cond.code yX6_bestPowerOf cX6_bestPowerOf 2 (some .long) ∈ gtb := tw_mk 675 (by decide +kernel) (by decide +kernel)
theorem tw_672 : Cond.methodLink RX6 122 yX6_bestPowerOf ∈ gtb := tw_mk 672 (by decide +kernel) (by decide +kernel)
theorem tw_31 : Cond.selects RX6 yX6_bestPowerOf yX6_bestPowerOf ∈ gtb := tw_mk 31 (by decide +kernel) (by decide +kernel)
theorem tw_674 : Cond.instanceMethod yX6_bestPowerOf ∈ gtb := tw_mk 674 (by decide +kernel) (by decide +kernel)
theorem k_X6_122_X6 : LkV RX6 122 yX6_bestPowerOf cX6_bestPowerOf 2 (some .long) 1 := ⟨all5 tw_672 tw_674 tw_31 tw_43 tw_675, by decide, by decide, by decide +kernel⟩
theorem tw_695 : Cond.code yX6_addDelivered cX6_addDelivered 5 none ∈ gtb := tw_mk 695 (by decide +kernel) (by decide +kernel)
theorem tw_692 : Cond.methodLink RX6 125 yX6_addDelivered ∈ gtb := tw_mk 692 (by decide +kernel) (by decide +kernel)
theorem tw_33 : Cond.selects RX6 yX6_addDelivered yX6_addDelivered ∈ gtb := tw_mk 33 (by decide +kernel) (by decide +kernel)
theorem tw_694 : Cond.instanceMethod yX6_addDelivered ∈ gtb := tw_mk 694 (by decide +kernel) (by decide +kernel)
theorem k_X6_125_X6 : LkV RX6 125 yX6_addDelivered cX6_addDelivered 5 none 1 := ⟨all5 tw_692 tw_694 tw_33 tw_43 tw_695, by decide, by decide, by decide +kernel⟩
theorem tw_691 : Cond.code yX6_layOutArray cX6_layOutArray 2 none ∈ gtb := tw_mk 691 (by decide +kernel) (by decide +kernel)
theorem tw_688 : Cond.methodLink RX6 128 yX6_layOutArray ∈ gtb := tw_mk 688 (by decide +kernel) (by decide +kernel)
theorem tw_32 : Cond.selects RX6 yX6_layOutArray yX6_layOutArray ∈ gtb := tw_mk 32 (by decide +kernel) (by decide +kernel)
theorem tw_690 : Cond.instanceMethod yX6_layOutArray ∈ gtb := tw_mk 690 (by decide +kernel) (by decide +kernel)
theorem k_X6_128_X6 : LkV RX6 128 yX6_layOutArray cX6_layOutArray 2 none 0 := ⟨all5 tw_688 tw_690 tw_32 tw_43 tw_691, by decide, by decide, by decide +kernel⟩
theorem tw_707 : Cond.code yX6_totalNow cX6_totalNow 4 (some .long) ∈ gtb := tw_mk 707 (by decide +kernel) (by decide +kernel)
theorem tw_704 : Cond.methodLink RX6 131 yX6_totalNow ∈ gtb := tw_mk 704 (by decide +kernel) (by decide +kernel)
theorem tw_34 : Cond.selects RX6 yX6_totalNow yX6_totalNow ∈ gtb := tw_mk 34 (by decide +kernel) (by decide +kernel)
theorem tw_706 : Cond.instanceMethod yX6_totalNow ∈ gtb := tw_mk 706 (by decide +kernel) (by decide +kernel)
theorem k_X6_131_X6 : LkV RX6 131 yX6_totalNow cX6_totalNow 4 (some .long) 0 := ⟨all5 tw_704 tw_706 tw_34 tw_43 tw_707, by decide, by decide, by decide +kernel⟩
theorem tw_719 : Cond.code yX6_findBestSwap cX6_findBestSwap 7 none ∈ gtb := tw_mk 719 (by decide +kernel) (by decide +kernel)
theorem tw_716 : Cond.methodLink RX6 145 yX6_findBestSwap ∈ gtb := tw_mk 716 (by decide +kernel) (by decide +kernel)
theorem tw_35 : Cond.selects RX6 yX6_findBestSwap yX6_findBestSwap ∈ gtb := tw_mk 35 (by decide +kernel) (by decide +kernel)
theorem tw_718 : Cond.instanceMethod yX6_findBestSwap ∈ gtb := tw_mk 718 (by decide +kernel) (by decide +kernel)
theorem k_X6_145_X6 : LkV RX6 145 yX6_findBestSwap cX6_findBestSwap 7 none 0 := ⟨all5 tw_716 tw_718 tw_35 tw_43 tw_719, by decide, by decide, by decide +kernel⟩
theorem tw_44 : Cond.initialized "java/lang/Math" ∈ gtb := tw_mk 44 (by decide +kernel) (by decide +kernel)
theorem ma_i : Cond.initialized "java/lang/Math" ∈ gtb := tw_44
theorem ma_max_c : Cond.code Lib.Math.max.name Lib.Math.max.code 2 (some .int) ∈ gtb := tw_mk 301 (by decide +kernel) (by decide +kernel)
theorem ma_max_s : Cond.static Lib.Math.max.name ∈ gtb := tw_mk 300 (by decide +kernel) (by decide +kernel)
theorem ma_max_X4_32 : Cond.methodLink RX4 32 Lib.Math.max.name ∈ gtb := tw_mk 299 (by decide +kernel) (by decide +kernel)
theorem ma_max_X5_164 : Cond.methodLink RX5 164 Lib.Math.max.name ∈ gtb := tw_mk 394 (by decide +kernel) (by decide +kernel)
theorem ma_min_c : Cond.code Lib.Math.min.name Lib.Math.min.code 2 (some .int) ∈ gtb := tw_mk 304 (by decide +kernel) (by decide +kernel)
theorem ma_min_s : Cond.static Lib.Math.min.name ∈ gtb := tw_mk 303 (by decide +kernel) (by decide +kernel)
theorem ma_min_X4_42 : Cond.methodLink RX4 42 Lib.Math.min.name ∈ gtb := tw_mk 302 (by decide +kernel) (by decide +kernel)
theorem ma_min_X5_159 : Cond.methodLink RX5 159 Lib.Math.min.name ∈ gtb := tw_mk 393 (by decide +kernel) (by decide +kernel)
theorem ma_maxl_c : Cond.code Lib.MathLoose.max_long.x Lib.MathLoose.max_long.code 4 (some .long) ∈ gtb := tw_mk 326 (by decide +kernel) (by decide +kernel)
theorem ma_maxl_s : Cond.static Lib.MathLoose.max_long.x ∈ gtb := tw_mk 325 (by decide +kernel) (by decide +kernel)
theorem ma_maxl_X0_28 : Cond.methodLink RX0 28 Lib.MathLoose.max_long.x ∈ gtb := tw_mk 324 (by decide +kernel) (by decide +kernel)
theorem cl_X0_26 : Cond.constantLong RX0 26 (zJ (-1)) ∈ gtb := tw_mk 305 (by decide +kernel) (by decide +kernel)
theorem cl_X5_137 : Cond.constantLong RX5 137 (zJ (-9223372036854775808)) ∈ gtb := tw_mk 334 (by decide +kernel) (by decide +kernel)
theorem cl_X6_98 : Cond.constantLong RX6 98 (zJ (-9223372036854775808)) ∈ gtb := tw_mk 615 (by decide +kernel) (by decide +kernel)
end
section
/-! small rows over the two worlds -/
section GO3
variable {D : va_G} {cy : Nat → ClassId} {l : Launch} {R : Room} {cc : ByteArray} {nL : Nat} {own : String} {ret : Option FieldType} {w0 : va_W} {Q : Option Value → va_W → Prop} {w : va_W} {pc : Nat} {lv lv' : List (Nat × Value)} {st : List Value}
theorem g_one {v : Value} (k : GO D cy l R cc nL own ret w0 Q w pc lv (v :: st)) : GO D cy l R cc nL own ret w0 Q w pc lv ((some v).toList ++ st) := k
theorem g_none (k : GO D cy l R cc nL own ret w0 Q w pc lv st) : GO D cy l R cc nL own ret w0 Q w pc lv ((none : Option Value).toList ++ st) := k
theorem g_topI {a b : Int} (h : a = b) (k : GO D cy l R cc nL own ret w0 Q w pc lv (.int (zI b) :: st)) : GO D cy l R cc nL own ret w0 Q w pc lv (.int (zI a) :: st) := by subst h; exact k
theorem g_topJ {a b : Int} (h : a = b) (k : GO D cy l R cc nL own ret w0 Q w pc lv (.long (zJ b) :: st)) : GO D cy l R cc nL own ret w0 Q w pc lv (.long (zJ a) :: st) := by subst h; exact k
theorem g_world {w' : va_W} (h : w = w') (k : GO D cy l R cc nL own ret w0 Q w' pc lv st) : GO D cy l R cc nL own ret w0 Q w pc lv st := by subst h; exact k
theorem g_lv (h : lv = lv') (k : GO D cy l R cc nL own ret w0 Q w pc lv' st) : GO D cy l R cc nL own ret w0 Q w pc lv st := by subst h; exact k
theorem g_ldc2 {idx : Nat} {z : Int} (hc : Cond.constantLong own idx (zJ z) ∈ gtb) (hd : decode cc pc = .ok (.ldc2_w idx, 3)) (k : GO D cy l R cc nL own ret w0 Q w (pc + 3) lv (.long (zJ z) :: st)) : GO D cy l R cc nL own ret w0 Q w pc lv st := by
  intro p e s m args below meth c H locs ls C hP hD hS hl
  exact lv_ldc2 C.1 C.2.1 C.2.2.2.2.2.1 (C.2.2.2.2.2.2.1 _ hc) hd (k p e s m args below meth c H locs ls C hP hD hS hl)
variable {ad : Nat → Nat} {σ : Nat → Int → Int} {X : va_W}
theorem g_mem {s p : Int} (hs : 0 ≤ s ∧ s < 6) (hp : 0 ≤ p ∧ p < 12) (hd : decode cc pc = .ok (.iaload, 1)) (kk : GO D cy l R cc nL own ret w0 Q (CW cy ad σ ++ X) (pc + 1) lv (.int (zI (σ 7 (12 * s + p))) :: st)) : GO D cy l R cc nL own ret w0 Q (CW cy ad σ ++ X) pc lv (.int (zI p) :: .ref (ad (37 + s.toNat)) :: st) := by
  refine g_iald (37 + s.toNat) (at_mem hs) (by omega) (by decide) hd ?_
  rw [memF_at hp.2]
  exact kk
theorem g_memst {s p v : Int} (hs : 0 ≤ s ∧ s < 6) (hp : 0 ≤ p ∧ p < 12) (hd : decode cc pc = .ok (.iastore, 1)) (kk : GO D cy l R cc nL own ret w0 Q (CW cy ad (up σ 7 (12 * s + p) v) ++ X) (pc + 1) lv st) : GO D cy l R cc nL own ret w0 Q (CW cy ad σ ++ X) pc lv (.int (zI v) :: .int (zI p) :: .ref (ad (37 + s.toNat)) :: st) :=
  g_iast (37 + s.toNat) (at_mem hs) (by omega) (by decide) (st_7 hs hp) hd kk
end GO3
/-- ends of contracts: a number, or a yes or no, the world as it was -/
def rdI (r : Int) (w : va_W) : Option Value → va_W → Prop := fun v w' => v = some (.int (zI r)) ∧ w' = w
def rdJ (r : Int) (w : va_W) : Option Value → va_W → Prop := fun v w' => v = some (.long (zJ r)) ∧ w' = w
def rdB (c : Prop) (w : va_W) : Option Value → va_W → Prop := fun v w' => (v = some (.int (zI 1)) ∧ w' = w ∧ c) ∨ (v = some (.int (zI 0)) ∧ w' = w ∧ ¬ c)
end
section
/-! the rooms of the methods; bounds; what a state means -/
abbrev rm_X0_bestPoint : Room := { frames := 4, cells := 0, slots := 0, locals := 95 }
abbrev rm_X0_greatestProduct : Room := { frames := 5, cells := 0, slots := 0, locals := 122 }
abbrev rm_X0_productAt : Room := { frames := 4, cells := 0, slots := 0, locals := 95 }
abbrev rm_X2_end : Room := { frames := 0, cells := 0, slots := 0, locals := 0 }
abbrev rm_X2_valueAt : Room := { frames := 3, cells := 0, slots := 0, locals := 72 }
abbrev rm_X3_end : Room := { frames := 0, cells := 0, slots := 0, locals := 0 }
abbrev rm_X3_illuminate : Room := { frames := 0, cells := 0, slots := 0, locals := 0 }
abbrev rm_X3_valueAt : Room := { frames := 0, cells := 0, slots := 0, locals := 0 }
abbrev rm_X4_bestOfScan : Room := { frames := 5, cells := 0, slots := 0, locals := 116 }
abbrev rm_X4_bypassedAt : Room := { frames := 0, cells := 0, slots := 0, locals := 0 }
abbrev rm_X4_climbFrom : Room := { frames := 5, cells := 0, slots := 0, locals := 116 }
abbrev rm_X4_deliveredAt : Room := { frames := 2, cells := 0, slots := 0, locals := 48 }
abbrev rm_X4_end : Room := { frames := 1, cells := 0, slots := 0, locals := 24 }
abbrev rm_X4_isFull : Room := { frames := 0, cells := 0, slots := 0, locals := 0 }
abbrev rm_X4_isPeak : Room := { frames := 5, cells := 0, slots := 0, locals := 116 }
abbrev rm_X4_valueAt : Room := { frames := 1, cells := 0, slots := 0, locals := 22 }
abbrev rm_X5_addModule : Room := { frames := 2, cells := 0, slots := 0, locals := 46 }
abbrev rm_X5_addString : Room := { frames := 0, cells := 0, slots := 0, locals := 0 }
abbrev rm_X5_arrayCurrent : Room := { frames := 4, cells := 0, slots := 0, locals := 95 }
abbrev rm_X5_bestArrayVoltage : Room := { frames := 5, cells := 0, slots := 0, locals := 122 }
abbrev rm_X5_bestCurrent : Room := { frames := 5, cells := 0, slots := 0, locals := 122 }
abbrev rm_X5_bestPower : Room := { frames := 6, cells := 0, slots := 0, locals := 142 }
abbrev rm_X5_bestSwapGain : Room := { frames := 7, cells := 0, slots := 0, locals := 170 }
abbrev rm_X5_bestSwapHigher : Room := { frames := 7, cells := 0, slots := 0, locals := 170 }
abbrev rm_X5_bestSwapLower : Room := { frames := 7, cells := 0, slots := 0, locals := 170 }
abbrev rm_X5_bypassedModules : Room := { frames := 2, cells := 0, slots := 0, locals := 48 }
abbrev rm_X5_currentLimit : Room := { frames := 2, cells := 0, slots := 0, locals := 48 }
abbrev rm_X5_exchange : Room := { frames := 1, cells := 0, slots := 0, locals := 23 }
abbrev rm_X5_findBestSwap : Room := { frames := 6, cells := 0, slots := 0, locals := 142 }
abbrev rm_X5_isModule : Room := { frames := 0, cells := 0, slots := 0, locals := 0 }
abbrev rm_X5_isString : Room := { frames := 0, cells := 0, slots := 0, locals := 0 }
abbrev rm_X5_isWithin : Room := { frames := 0, cells := 0, slots := 0, locals := 0 }
abbrev rm_X5_mismatchLoss : Room := { frames := 6, cells := 0, slots := 0, locals := 142 }
abbrev rm_X5_moduleAt : Room := { frames := 1, cells := 0, slots := 0, locals := 21 }
abbrev rm_X5_modulePeakPower : Room := { frames := 6, cells := 0, slots := 0, locals := 142 }
abbrev rm_X5_moduleVoltage : Room := { frames := 1, cells := 0, slots := 0, locals := 22 }
abbrev rm_X5_moveModule : Room := { frames := 2, cells := 0, slots := 0, locals := 47 }
abbrev rm_X5_peakCount : Room := { frames := 6, cells := 0, slots := 0, locals := 140 }
abbrev rm_X5_peakCurrent : Room := { frames := 6, cells := 0, slots := 0, locals := 140 }
abbrev rm_X5_perturbAndObserve : Room := { frames := 5, cells := 0, slots := 0, locals := 116 }
abbrev rm_X5_photocurrent : Room := { frames := 1, cells := 0, slots := 0, locals := 21 }
abbrev rm_X5_place : Room := { frames := 0, cells := 0, slots := 0, locals := 0 }
abbrev rm_X5_putLast : Room := { frames := 1, cells := 0, slots := 0, locals := 23 }
abbrev rm_X5_regroup : Room := { frames := 1, cells := 0, slots := 0, locals := 23 }
abbrev rm_X5_scanAndClimb : Room := { frames := 6, cells := 0, slots := 0, locals := 144 }
abbrev rm_X5_setBypassDiode : Room := { frames := 1, cells := 0, slots := 0, locals := 21 }
abbrev rm_X5_setDiodeDrop : Room := { frames := 1, cells := 0, slots := 0, locals := 22 }
abbrev rm_X5_setIrradiance : Room := { frames := 1, cells := 0, slots := 0, locals := 22 }
abbrev rm_X5_setResistance : Room := { frames := 1, cells := 0, slots := 0, locals := 22 }
abbrev rm_X5_shade : Room := { frames := 1, cells := 0, slots := 0, locals := 22 }
abbrev rm_X5_sortByLightCurrent : Room := { frames := 0, cells := 0, slots := 0, locals := 0 }
abbrev rm_X5_stringOf : Room := { frames := 1, cells := 0, slots := 0, locals := 21 }
abbrev rm_X5_stringPower : Room := { frames := 5, cells := 0, slots := 0, locals := 116 }
abbrev rm_X5_stringVoltage : Room := { frames := 2, cells := 0, slots := 0, locals := 48 }
abbrev rm_X5_swapModules : Room := { frames := 2, cells := 0, slots := 0, locals := 47 }
abbrev rm_X5_takeOut : Room := { frames := 1, cells := 0, slots := 0, locals := 23 }
abbrev rm_X5_totalBestPower : Room := { frames := 6, cells := 0, slots := 0, locals := 142 }
abbrev rm_X6_addDelivered : Room := { frames := 3, cells := 0, slots := 0, locals := 69 }
abbrev rm_X6_addModule : Room := { frames := 2, cells := 0, slots := 0, locals := 43 }
abbrev rm_X6_addString : Room := { frames := 0, cells := 0, slots := 0, locals := 0 }
abbrev rm_X6_append : Room := { frames := 0, cells := 0, slots := 0, locals := 0 }
abbrev rm_X6_arrayCurrent : Room := { frames := 5, cells := 0, slots := 0, locals := 114 }
abbrev rm_X6_bestArrayVoltage : Room := { frames := 5, cells := 0, slots := 0, locals := 114 }
abbrev rm_X6_bestCurrent : Room := { frames := 6, cells := 0, slots := 0, locals := 136 }
abbrev rm_X6_bestOf : Room := { frames := 5, cells := 0, slots := 0, locals := 113 }
abbrev rm_X6_bestPower : Room := { frames := 7, cells := 0, slots := 0, locals := 157 }
abbrev rm_X6_bestPowerOf : Room := { frames := 6, cells := 0, slots := 0, locals := 136 }
abbrev rm_X6_bestSwapGain : Room := { frames := 8, cells := 0, slots := 0, locals := 183 }
abbrev rm_X6_bestSwapHigher : Room := { frames := 8, cells := 0, slots := 0, locals := 183 }
abbrev rm_X6_bestSwapLower : Room := { frames := 8, cells := 0, slots := 0, locals := 183 }
abbrev rm_X6_bypassedModules : Room := { frames := 2, cells := 0, slots := 0, locals := 46 }
abbrev rm_X6_currentLimit : Room := { frames := 2, cells := 0, slots := 0, locals := 46 }
abbrev rm_X6_exchange : Room := { frames := 1, cells := 0, slots := 0, locals := 23 }
abbrev rm_X6_findBestSwap : Room := { frames := 7, cells := 0, slots := 0, locals := 157 }
abbrev rm_X6_isBetween : Room := { frames := 0, cells := 0, slots := 0, locals := 0 }
abbrev rm_X6_isModule : Room := { frames := 1, cells := 0, slots := 0, locals := 22 }
abbrev rm_X6_isPeak : Room := { frames := 0, cells := 0, slots := 0, locals := 0 }
abbrev rm_X6_isString : Room := { frames := 1, cells := 0, slots := 0, locals := 22 }
abbrev rm_X6_layOut : Room := { frames := 4, cells := 0, slots := 0, locals := 91 }
abbrev rm_X6_layOutArray : Room := { frames := 4, cells := 0, slots := 0, locals := 93 }
abbrev rm_X6_limitOf : Room := { frames := 1, cells := 0, slots := 0, locals := 21 }
abbrev rm_X6_litVoltage : Room := { frames := 0, cells := 0, slots := 0, locals := 0 }
abbrev rm_X6_mismatchLoss : Room := { frames := 8, cells := 0, slots := 0, locals := 180 }
abbrev rm_X6_moduleAt : Room := { frames := 2, cells := 0, slots := 0, locals := 43 }
abbrev rm_X6_modulePeakPower : Room := { frames := 2, cells := 0, slots := 0, locals := 49 }
abbrev rm_X6_moduleVoltage : Room := { frames := 2, cells := 0, slots := 0, locals := 45 }
abbrev rm_X6_moveModule : Room := { frames := 2, cells := 0, slots := 0, locals := 47 }
abbrev rm_X6_peakCount : Room := { frames := 5, cells := 0, slots := 0, locals := 113 }
abbrev rm_X6_peakCurrent : Room := { frames := 5, cells := 0, slots := 0, locals := 113 }
abbrev rm_X6_peakPowerOf : Room := { frames := 1, cells := 0, slots := 0, locals := 23 }
abbrev rm_X6_perturbAndObserve : Room := { frames := 5, cells := 0, slots := 0, locals := 113 }
abbrev rm_X6_photocurrent : Room := { frames := 2, cells := 0, slots := 0, locals := 43 }
abbrev rm_X6_photocurrentOf : Room := { frames := 0, cells := 0, slots := 0, locals := 0 }
abbrev rm_X6_placeOf : Room := { frames := 0, cells := 0, slots := 0, locals := 0 }
abbrev rm_X6_powerAt : Room := { frames := 3, cells := 0, slots := 0, locals := 69 }
abbrev rm_X6_regroup : Room := { frames := 1, cells := 0, slots := 0, locals := 23 }
abbrev rm_X6_remove : Room := { frames := 1, cells := 0, slots := 0, locals := 23 }
abbrev rm_X6_scanAndClimb : Room := { frames := 5, cells := 0, slots := 0, locals := 113 }
abbrev rm_X6_setBypassDiode : Room := { frames := 2, cells := 0, slots := 0, locals := 43 }
abbrev rm_X6_setDiodeDrop : Room := { frames := 1, cells := 0, slots := 0, locals := 22 }
abbrev rm_X6_setIrradiance : Room := { frames := 2, cells := 0, slots := 0, locals := 43 }
abbrev rm_X6_setResistance : Room := { frames := 2, cells := 0, slots := 0, locals := 43 }
abbrev rm_X6_shade : Room := { frames := 2, cells := 0, slots := 0, locals := 43 }
abbrev rm_X6_stringOf : Room := { frames := 2, cells := 0, slots := 0, locals := 43 }
abbrev rm_X6_stringPower : Room := { frames := 4, cells := 0, slots := 0, locals := 91 }
abbrev rm_X6_stringVoltage : Room := { frames := 3, cells := 0, slots := 0, locals := 69 }
abbrev rm_X6_swapModules : Room := { frames := 2, cells := 0, slots := 0, locals := 47 }
abbrev rm_X6_totalBestPower : Room := { frames := 8, cells := 0, slots := 0, locals := 180 }
abbrev rm_X6_totalNow : Room := { frames := 7, cells := 0, slots := 0, locals := 157 }
abbrev rm_X6_voltageAt : Room := { frames := 2, cells := 0, slots := 0, locals := 45 }
abbrev rm_X6_voltageOf : Room := { frames := 1, cells := 0, slots := 0, locals := 23 }
def Bd (g : Nat → Int → Int) : Prop :=
  (0 ≤ g 0 0 ∧ g 0 0 ≤ 20) ∧ (0 ≤ g 0 1 ∧ g 0 1 ≤ 24) ∧ (0 ≤ g 0 2 ∧ g 0 2 ≤ 6) ∧
  (∀ i, 0 ≤ g 1 i ∧ g 1 i ≤ 1000) ∧ (∀ i, 0 ≤ g 2 i ∧ g 2 i ≤ 600) ∧ (∀ i, 0 ≤ g 3 i ∧ g 3 i ≤ 1200) ∧ (∀ i, 0 ≤ g 4 i ∧ g 4 i ≤ 5000) ∧ (∀ i, 0 ≤ g 5 i ∧ g 5 i ≤ 1) ∧ (∀ s, 0 ≤ g 6 s ∧ g 6 s ≤ 12) ∧ (∀ j, 0 ≤ g 7 j ∧ g 7 j ≤ 23)
theorem Bd.d {g : Nat → Int → Int} (h : Bd g) : 0 ≤ g 0 0 ∧ g 0 0 ≤ 20 := h.1
theorem Bd.mc {g : Nat → Int → Int} (h : Bd g) : 0 ≤ g 0 1 ∧ g 0 1 ≤ 24 := h.2.1
theorem Bd.sc {g : Nat → Int → Int} (h : Bd g) : 0 ≤ g 0 2 ∧ g 0 2 ≤ 6 := h.2.2.1
theorem Bd.b1 {g : Nat → Int → Int} (h : Bd g) (i : Int) : 0 ≤ g 1 i ∧ g 1 i ≤ 1000 := h.2.2.2.1 i
theorem Bd.b2 {g : Nat → Int → Int} (h : Bd g) (i : Int) : 0 ≤ g 2 i ∧ g 2 i ≤ 600 := h.2.2.2.2.1 i
theorem Bd.b3 {g : Nat → Int → Int} (h : Bd g) (i : Int) : 0 ≤ g 3 i ∧ g 3 i ≤ 1200 := h.2.2.2.2.2.1 i
theorem Bd.b4 {g : Nat → Int → Int} (h : Bd g) (i : Int) : 0 ≤ g 4 i ∧ g 4 i ≤ 5000 := h.2.2.2.2.2.2.1 i
theorem Bd.b5 {g : Nat → Int → Int} (h : Bd g) (i : Int) : 0 ≤ g 5 i ∧ g 5 i ≤ 1 := h.2.2.2.2.2.2.2.1 i
theorem Bd.b6 {g : Nat → Int → Int} (h : Bd g) (i : Int) : 0 ≤ g 6 i ∧ g 6 i ≤ 12 := h.2.2.2.2.2.2.2.2.1 i
theorem Bd.b7 {g : Nat → Int → Int} (h : Bd g) (i : Int) : 0 ≤ g 7 i ∧ g 7 i ≤ 23 := h.2.2.2.2.2.2.2.2.2 i
theorem mul_b {a b A B : Int} (ha : 0 ≤ a ∧ a ≤ A) (hb : 0 ≤ b ∧ b ≤ B) : 0 ≤ a * b ∧ a * b ≤ A * B := ⟨Int.mul_nonneg ha.1 hb.1, Int.mul_le_mul ha.2 hb.2 hb.1 (Int.le_trans ha.1 ha.2)⟩
def photo (g : Nat → Int → Int) (i : Int) : Int := g 3 i * g 1 i / 1000
theorem photo_b {g : Nat → Int → Int} (h : Bd g) (i : Int) : 0 ≤ photo g i ∧ photo g i ≤ 1200 := by
  have h1 := mul_b (h.b3 i) (h.b1 i)
  unfold photo
  omega
def lit (g : Nat → Int → Int) (i c : Int) : Int := max 0 (g 2 i - g 4 i * c / 10000)
def volt (g : Nat → Int → Int) (i c : Int) : Int := if photo g i < c then - g 0 0 else lit g i c
theorem lit_b {g : Nat → Int → Int} (h : Bd g) (i : Int) {c : Int} (hc : 0 ≤ c) : 0 ≤ lit g i c ∧ lit g i c ≤ 600 := by
  have h1 := h.b2 i
  have h2 : 0 ≤ g 4 i * c := Int.mul_nonneg (h.b4 i).1 hc
  unfold lit
  omega
theorem volt_b {g : Nat → Int → Int} (h : Bd g) (i : Int) {c : Int} (hc : 0 ≤ c) : -20 ≤ volt g i c ∧ volt g i c ≤ 600 := by
  have h1 := lit_b h i hc
  have h2 := h.d
  unfold volt
  split <;> omega
/-- sums, greatest and least over the first n places -/
def sumP (F : Int → Int) : Nat → Int
  | 0 => 0
  | n + 1 => sumP F n + F n
def mxP (F : Int → Int) : Nat → Int
  | 0 => 0
  | n + 1 => max (mxP F n) (F n)
def cpP (B F : Int → Int) : Nat → Int
  | 0 => 1200
  | n + 1 => if B n = 0 then min (cpP B F n) (F n) else cpP B F n
theorem sumP_s (F : Int → Int) {p : Int} (h : 0 ≤ p) : sumP F (p + 1).toNat = sumP F p.toNat + F p := by
  rw [show (p + 1).toNat = p.toNat + 1 by omega]
  show sumP F p.toNat + F (p.toNat : Int) = _
  rw [show (p.toNat : Int) = p by omega]
theorem mxP_s (F : Int → Int) {p : Int} (h : 0 ≤ p) : mxP F (p + 1).toNat = max (mxP F p.toNat) (F p) := by
  rw [show (p + 1).toNat = p.toNat + 1 by omega]
  show max (mxP F p.toNat) (F (p.toNat : Int)) = _
  rw [show (p.toNat : Int) = p by omega]
theorem cpP_s (B F : Int → Int) {p : Int} (h : 0 ≤ p) : cpP B F (p + 1).toNat = if B p = 0 then min (cpP B F p.toNat) (F p) else cpP B F p.toNat := by
  rw [show (p + 1).toNat = p.toNat + 1 by omega]
  show (if B (p.toNat : Int) = 0 then min (cpP B F p.toNat) (F (p.toNat : Int)) else cpP B F p.toNat) = _
  rw [show (p.toNat : Int) = p by omega]
theorem sumP_b {F : Int → Int} {a b : Int} (h : ∀ i, a ≤ F i ∧ F i ≤ b) : ∀ n : Nat, a * n ≤ sumP F n ∧ sumP F n ≤ b * n
  | 0 => by simp [sumP]
  | n + 1 => by
    have h1 := sumP_b h n
    have h2 := h n
    show a * ((n + 1 : Nat) : Int) ≤ sumP F n + F n ∧ sumP F n + F n ≤ b * ((n + 1 : Nat) : Int)
    rw [show ((n + 1 : Nat) : Int) = (n : Int) + 1 by omega, Int.mul_add, Int.mul_add]
    omega
theorem mxP_b {F : Int → Int} {b : Int} (hb : 0 ≤ b) (h : ∀ i, F i ≤ b) : ∀ n : Nat, 0 ≤ mxP F n ∧ mxP F n ≤ b
  | 0 => by simp [mxP]; exact hb
  | n + 1 => by
    have h1 := mxP_b hb h n
    have h2 := h n
    show 0 ≤ max (mxP F n) (F n) ∧ max (mxP F n) (F n) ≤ b
    omega
theorem cpP_b {B F : Int → Int} (h : ∀ i, 0 ≤ F i) : ∀ n : Nat, 0 ≤ cpP B F n ∧ cpP B F n ≤ 1200
  | 0 => by simp [cpP]
  | n + 1 => by
    have h1 := cpP_b (B := B) h n
    have h2 := h n
    show 0 ≤ (if B n = 0 then min (cpP B F n) (F n) else cpP B F n) ∧ (if B n = 0 then min (cpP B F n) (F n) else cpP B F n) ≤ 1200
    split <;> omega
def memb (g : Nat → Int → Int) (s p : Int) : Int := g 7 (12 * s + p)
def svolt (g : Nat → Int → Int) (s c : Int) : Int := sumP (fun p => volt g (memb g s p) c) (g 6 s).toNat
def limit (g : Nat → Int → Int) (s : Int) : Int := min (mxP (fun p => photo g (memb g s p)) (g 6 s).toNat) (cpP (fun p => g 5 (memb g s p)) (fun p => photo g (memb g s p)) (g 6 s).toNat)
def spow (g : Nat → Int → Int) (s c : Int) : Int := c * svolt g s c
theorem limit_b {g : Nat → Int → Int} (h : Bd g) (s : Int) : 0 ≤ limit g s ∧ limit g s ≤ 1200 := by
  have h1 := mxP_b (F := fun p => photo g (memb g s p)) (b := 1200) (by omega) (fun p => (photo_b h _).2) (g 6 s).toNat
  have h2 := cpP_b (B := fun p => g 5 (memb g s p)) (F := fun p => photo g (memb g s p)) (fun p => (photo_b h _).1) (g 6 s).toNat
  unfold limit
  omega
theorem sv_b {g : Nat → Int → Int} (h : Bd g) (s : Int) {c : Int} (hc : 0 ≤ c) {n : Nat} (hn : n ≤ 12) : -240 ≤ sumP (fun p => volt g (memb g s p) c) n ∧ sumP (fun p => volt g (memb g s p) c) n ≤ 7200 := by
  have h1 := sumP_b (F := fun p => volt g (memb g s p) c) (a := -20) (b := 600) (fun p => volt_b h _ hc) n
  omega
theorem svolt_b {g : Nat → Int → Int} (h : Bd g) (s : Int) {c : Int} (hc : 0 ≤ c) : -240 ≤ svolt g s c ∧ svolt g s c ≤ 7200 := sv_b h s hc (by have := h.b6 s; omega)
theorem mul_bb {a b A B C : Int} (ha : 0 ≤ a ∧ a ≤ A) (hb : -B ≤ b ∧ b ≤ C) (hB : 0 ≤ B) (hC : 0 ≤ C) : -(A * B) ≤ a * b ∧ a * b ≤ A * C := by
  have hA : 0 ≤ A := Int.le_trans ha.1 ha.2
  constructor
  · have h1 : a * (-b) ≤ a * B := Int.mul_le_mul_of_nonneg_left (by omega) ha.1
    have h2 : a * B ≤ A * B := Int.mul_le_mul_of_nonneg_right ha.2 hB
    rw [Int.mul_neg] at h1
    omega
  · have h1 : a * b ≤ a * C := Int.mul_le_mul_of_nonneg_left hb.2 ha.1
    have h2 : a * C ≤ A * C := Int.mul_le_mul_of_nonneg_right ha.2 hC
    omega
theorem spow_b {g : Nat → Int → Int} (h : Bd g) (s : Int) {c : Int} (hc : 0 ≤ c ∧ c ≤ 1200) : -288000 ≤ spow g s c ∧ spow g s c ≤ 8640000 := by
  have h1 := mul_bb hc (svolt_b h s hc.1) (by omega) (by omega)
  unfold spow
  omega
theorem rdI_of {x r : Int} {w : va_W} (h : x = r) : rdI r w (some (.int (zI x))) w := ⟨by rw [h], rfl⟩
theorem rdJ_of {x r : Int} {w : va_W} (h : x = r) : rdJ r w (some (.long (zJ x))) w := ⟨by rw [h], rfl⟩
theorem rdB_1 {c : Prop} {w : va_W} (h : c) : rdB c w (some (.int (zI 1))) w := Or.inl ⟨rfl, rfl, h⟩
theorem rdB_0 {c : Prop} {w : va_W} (h : ¬ c) : rdB c w (some (.int (zI 0))) w := Or.inr ⟨rfl, rfl, h⟩
/-- the light current of each module is kept right -/
def LC (σ : Nat → Int → Int) : Prop := ∀ i, σ 8 i = photo σ i
end
section
set_option maxRecDepth 100000 in
set_option maxHeartbeats 2000000 in
/-- PvArray.isWithin  -/
theorem c_X5_isWithin {D : va_G} {cy : Nat → ClassId} {l : Launch} {ad : Nat → Nat} {σ : Nat → Int → Int} {X : va_W} (v a b : Int) (hv : -2147483648 ≤ v ∧ v ≤ 2147483647) (ha : -2147483648 ≤ a ∧ a ≤ 2147483647) (hb : -2147483648 ≤ b ∧ b ≤ 2147483647) : Con D cy l yX5_isWithin cX5_isWithin 3 (some .boolean) rm_X5_isWithin [.int (zI v), .int (zI a), .int (zI b)] (CW cy ad σ ++ X) (rdB (a ≤ v ∧ v ≤ b) (CW cy ad σ ++ X)) := by
  refine Con.of (lv := [(0, .int (zI v)), (1, .int (zI a)), (2, .int (zI b))]) (by decide) (Nat.le_of_ble_eq_true rfl) rfl ?_
  refine g_iload_n (pc := 0) dX5_isWithin_0 0 rfl ?_
  refine g_iload_n (pc := 1) dX5_isWithin_1 1 rfl ?_
  refine g_icmp_lt (pc := 2) 14 dX5_isWithin_2 (by decide) (by omega) (by omega) (fun h_1 => ?_) (fun h_1 => ?_)
  · refine g_iconst (pc := 14) dX5_isWithin_14 ?_
    exact g_zret (pc := 15) dX5_isWithin_15 rfl rfl (rdB_0 (by omega))
  · refine g_iload_n (pc := 5) dX5_isWithin_5 0 rfl ?_
    refine g_iload_n (pc := 6) dX5_isWithin_6 2 rfl ?_
    refine g_icmp_gt (pc := 7) 14 dX5_isWithin_7 (by decide) (by omega) (by omega) (fun h_2 => ?_) (fun h_2 => ?_)
    · refine g_iconst (pc := 14) dX5_isWithin_14 ?_
      exact g_zret (pc := 15) dX5_isWithin_15 rfl rfl (rdB_0 (by omega))
    · refine g_iconst (pc := 10) dX5_isWithin_10 ?_
      refine g_goto (pc := 11) 15 dX5_isWithin_11 (by decide) ?_
      exact g_zret (pc := 15) dX5_isWithin_15 rfl rfl (rdB_1 (by omega))
set_option maxRecDepth 100000 in
set_option maxHeartbeats 2000000 in
/-- PvArrayModel.isBetween  -/
theorem c_X6_isBetween {D : va_G} {cy : Nat → ClassId} {l : Launch} {bd : Nat → Nat} {τ : Nat → Int → Int} {X : va_W} (v a b : Int) (hv : -2147483648 ≤ v ∧ v ≤ 2147483647) (ha : -2147483648 ≤ a ∧ a ≤ 2147483647) (hb : -2147483648 ≤ b ∧ b ≤ 2147483647) : Con D cy l yX6_isBetween cX6_isBetween 3 (some .boolean) rm_X6_isBetween [.int (zI v), .int (zI a), .int (zI b)] (MW cy bd τ ++ X) (rdB (a ≤ v ∧ v ≤ b) (MW cy bd τ ++ X)) := by
  refine Con.of (lv := [(0, .int (zI v)), (1, .int (zI a)), (2, .int (zI b))]) (by decide) (Nat.le_of_ble_eq_true rfl) rfl ?_
  refine g_iload_n (pc := 0) dX6_isBetween_0 0 rfl ?_
  refine g_iload_n (pc := 1) dX6_isBetween_1 1 rfl ?_
  refine g_icmp_lt (pc := 2) 14 dX6_isBetween_2 (by decide) (by omega) (by omega) (fun h_1 => ?_) (fun h_1 => ?_)
  · refine g_iconst (pc := 14) dX6_isBetween_14 ?_
    exact g_zret (pc := 15) dX6_isBetween_15 rfl rfl (rdB_0 (by omega))
  · refine g_iload_n (pc := 5) dX6_isBetween_5 0 rfl ?_
    refine g_iload_n (pc := 6) dX6_isBetween_6 2 rfl ?_
    refine g_icmp_gt (pc := 7) 14 dX6_isBetween_7 (by decide) (by omega) (by omega) (fun h_2 => ?_) (fun h_2 => ?_)
    · refine g_iconst (pc := 14) dX6_isBetween_14 ?_
      exact g_zret (pc := 15) dX6_isBetween_15 rfl rfl (rdB_0 (by omega))
    · refine g_iconst (pc := 10) dX6_isBetween_10 ?_
      refine g_goto (pc := 11) 15 dX6_isBetween_11 (by decide) ?_
      exact g_zret (pc := 15) dX6_isBetween_15 rfl rfl (rdB_1 (by omega))
set_option maxRecDepth 100000 in
set_option maxHeartbeats 2000000 in
/-- PvArray.isString  -/
theorem c_X5_isString {D : va_G} {cy : Nat → ClassId} {l : Launch} {ad : Nat → Nat} {σ : Nat → Int → Int} {X : va_W} (hB : Bd σ) (z : Int) (hz : -2147483648 ≤ z ∧ z ≤ 2147483647) : Con D cy l yX5_isString cX5_isString 2 (some .boolean) rm_X5_isString [.ref (ad 0), .int (zI z)] (CW cy ad σ ++ X) (rdB (0 ≤ z ∧ z < σ 0 2) (CW cy ad σ ++ X)) := by
  refine Con.of (lv := [(0, .ref (ad 0)), (1, .int (zI z))]) (by decide) (Nat.le_of_ble_eq_true rfl) rfl ?_
  have h0 := hB.sc
  refine g_iload_n (pc := 0) dX5_isString_0 1 rfl ?_
  refine g_if_lt (pc := 1) 19 dX5_isString_1 (by decide) (by omega) (fun h_1 => ?_) (fun h_1 => ?_)
  · refine g_iconst (pc := 19) dX5_isString_19 ?_
    exact g_zret (pc := 20) dX5_isString_20 rfl rfl (rdB_0 (by omega))
  · refine g_iload_n (pc := 4) dX5_isString_4 1 rfl ?_
    refine g_aload_n (pc := 5) dX5_isString_5 0 rfl ?_
    refine g_get (pc := 6) (ci := 4) inG_X5 rfl 4 (by decide) rfl fl_X5_51 (0) at_arr rfl dX5_isString_6 ?_
    refine g_getN (pc := 9) (ci := 1) inG_X2 rfl 1 (by decide) rfl fl_X5_67 (4) at_par rfl dX5_isString_9 ?_
    refine g_icmp_ge (pc := 12) 19 dX5_isString_12 (by decide) (by omega) (by omega) (fun h_2 => ?_) (fun h_2 => ?_)
    · refine g_iconst (pc := 19) dX5_isString_19 ?_
      exact g_zret (pc := 20) dX5_isString_20 rfl rfl (rdB_0 (by omega))
    · refine g_iconst (pc := 15) dX5_isString_15 ?_
      refine g_goto (pc := 16) 20 dX5_isString_16 (by decide) ?_
      exact g_zret (pc := 20) dX5_isString_20 rfl rfl (rdB_1 (by omega))
set_option maxRecDepth 100000 in
set_option maxHeartbeats 2000000 in
/-- PvArray.isModule  -/
theorem c_X5_isModule {D : va_G} {cy : Nat → ClassId} {l : Launch} {ad : Nat → Nat} {σ : Nat → Int → Int} {X : va_W} (hB : Bd σ) (z : Int) (hz : -2147483648 ≤ z ∧ z ≤ 2147483647) : Con D cy l yX5_isModule cX5_isModule 2 (some .boolean) rm_X5_isModule [.ref (ad 0), .int (zI z)] (CW cy ad σ ++ X) (rdB (0 ≤ z ∧ z < σ 0 1) (CW cy ad σ ++ X)) := by
  refine Con.of (lv := [(0, .ref (ad 0)), (1, .int (zI z))]) (by decide) (Nat.le_of_ble_eq_true rfl) rfl ?_
  have h0 := hB.mc
  refine g_iload_n (pc := 0) dX5_isModule_0 1 rfl ?_
  refine g_if_lt (pc := 1) 16 dX5_isModule_1 (by decide) (by omega) (fun h_1 => ?_) (fun h_1 => ?_)
  · refine g_iconst (pc := 16) dX5_isModule_16 ?_
    exact g_zret (pc := 17) dX5_isModule_17 rfl rfl (rdB_0 (by omega))
  · refine g_iload_n (pc := 4) dX5_isModule_4 1 rfl ?_
    refine g_aload_n (pc := 5) dX5_isModule_5 0 rfl ?_
    refine g_get (pc := 6) (ci := 4) inG_X5 rfl 2 (by decide) rfl fl_X5_9 (0) at_arr rfl dX5_isModule_6 ?_
    refine g_icmp_ge (pc := 9) 16 dX5_isModule_9 (by decide) (by omega) (by omega) (fun h_2 => ?_) (fun h_2 => ?_)
    · refine g_iconst (pc := 16) dX5_isModule_16 ?_
      exact g_zret (pc := 17) dX5_isModule_17 rfl rfl (rdB_0 (by omega))
    · refine g_iconst (pc := 12) dX5_isModule_12 ?_
      refine g_goto (pc := 13) 17 dX5_isModule_13 (by decide) ?_
      exact g_zret (pc := 17) dX5_isModule_17 rfl rfl (rdB_1 (by omega))
set_option maxRecDepth 100000 in
set_option maxHeartbeats 2000000 in
/-- PvArrayModel.isString  -/
theorem c_X6_isString {D : va_G} {cy : Nat → ClassId} {l : Launch} {bd : Nat → Nat} {τ : Nat → Int → Int} {X : va_W} (hB : Bd τ) (z : Int) (hz : -2147483648 ≤ z ∧ z ≤ 2147483647) : Con D cy l yX6_isString cX6_isString 2 (some .boolean) rm_X6_isString [.ref (bd 0), .int (zI z)] (MW cy bd τ ++ X) (rdB (0 ≤ z ∧ z < τ 0 2) (MW cy bd τ ++ X)) := by
  refine Con.of (lv := [(0, .ref (bd 0)), (1, .int (zI z))]) (by decide) (Nat.le_of_ble_eq_true rfl) rfl ?_
  have h0 := hB.sc
  refine g_iload_n (pc := 0) dX6_isString_0 1 rfl ?_
  refine g_iconst (pc := 1) dX6_isString_1 ?_
  refine g_aload_n (pc := 2) dX6_isString_2 0 rfl ?_
  refine g_get (pc := 3) (ci := 5) inG_X6 rfl 7 (by decide) rfl fl_X6_59 (0) am_obj rfl dX6_isString_3 ?_
  refine g_iconst (pc := 6) dX6_isString_6 ?_
  refine g_isub (pc := 7) dX6_isString_7 ?_
  refine g_callS (pc := 8) (As := [.int (zI z), .int (zI 0), .int (zI ((τ 0 2) - 1))]) (rest := []) k_X6_55_X6 (c_X6_isBetween (τ := τ) z 0 ((τ 0 2) - 1) (by omega) (by omega) (by omega)) ⟨rfl, rfl, Nat.le_of_ble_eq_true rfl, Nat.le_of_ble_eq_true rfl⟩ rfl rfl (Nat.le_of_ble_eq_true rfl) dX6_isString_8 (fun v_ w_ hq_ => ?_)
  rcases hq_ with ⟨rfl, rfl, hw_1⟩ | ⟨rfl, rfl, hw_1⟩
  · refine g_one ?_
    exact g_zret (pc := 11) dX6_isString_11 rfl rfl (rdB_1 (by omega))
  · refine g_one ?_
    exact g_zret (pc := 11) dX6_isString_11 rfl rfl (rdB_0 (by omega))
set_option maxRecDepth 100000 in
set_option maxHeartbeats 2000000 in
/-- PvArrayModel.isModule  -/
theorem c_X6_isModule {D : va_G} {cy : Nat → ClassId} {l : Launch} {bd : Nat → Nat} {τ : Nat → Int → Int} {X : va_W} (hB : Bd τ) (z : Int) (hz : -2147483648 ≤ z ∧ z ≤ 2147483647) : Con D cy l yX6_isModule cX6_isModule 2 (some .boolean) rm_X6_isModule [.ref (bd 0), .int (zI z)] (MW cy bd τ ++ X) (rdB (0 ≤ z ∧ z < τ 0 1) (MW cy bd τ ++ X)) := by
  refine Con.of (lv := [(0, .ref (bd 0)), (1, .int (zI z))]) (by decide) (Nat.le_of_ble_eq_true rfl) rfl ?_
  have h0 := hB.mc
  refine g_iload_n (pc := 0) dX6_isModule_0 1 rfl ?_
  refine g_iconst (pc := 1) dX6_isModule_1 ?_
  refine g_aload_n (pc := 2) dX6_isModule_2 0 rfl ?_
  refine g_get (pc := 3) (ci := 5) inG_X6 rfl 1 (by decide) rfl fl_X6_52 (0) am_obj rfl dX6_isModule_3 ?_
  refine g_iconst (pc := 6) dX6_isModule_6 ?_
  refine g_isub (pc := 7) dX6_isModule_7 ?_
  refine g_callS (pc := 8) (As := [.int (zI z), .int (zI 0), .int (zI ((τ 0 1) - 1))]) (rest := []) k_X6_55_X6 (c_X6_isBetween (τ := τ) z 0 ((τ 0 1) - 1) (by omega) (by omega) (by omega)) ⟨rfl, rfl, Nat.le_of_ble_eq_true rfl, Nat.le_of_ble_eq_true rfl⟩ rfl rfl (Nat.le_of_ble_eq_true rfl) dX6_isModule_8 (fun v_ w_ hq_ => ?_)
  rcases hq_ with ⟨rfl, rfl, hw_1⟩ | ⟨rfl, rfl, hw_1⟩
  · refine g_one ?_
    exact g_zret (pc := 11) dX6_isModule_11 rfl rfl (rdB_1 (by omega))
  · refine g_one ?_
    exact g_zret (pc := 11) dX6_isModule_11 rfl rfl (rdB_0 (by omega))
set_option maxRecDepth 100000 in
set_option maxHeartbeats 2000000 in
/-- PvArray$PvModule.valueAt  -/
theorem c_X3_valueAt {D : va_G} {cy : Nat → ClassId} {l : Launch} {ad : Nat → Nat} {σ : Nat → Int → Int} {X : va_W} (hB : Bd σ) (hL : LC σ) (i : Int) (hi : 0 ≤ i ∧ i < 24) (c : Int) (hc : 0 ≤ c ∧ c ≤ 10000) : Con D cy l yX3_valueAt cX3_valueAt 3 (some .int) rm_X3_valueAt [.ref (ad (7 + i.toNat)), .int (zI c)] (CW cy ad σ ++ X) (rdI (volt σ i c) (CW cy ad σ ++ X)) := by
  refine Con.of (lv := [(0, .ref (ad (7 + i.toNat))), (1, .int (zI c))]) (by decide) (Nat.le_of_ble_eq_true rfl) rfl ?_
  have h1 := hL i
  have h2 := photo_b hB i
  have h3 := hB.d
  have h4 := hB.b2 i
  have h5 := mul_b (hB.b4 i) hc
  refine g_iload_n (pc := 0) dX3_valueAt_0 1 rfl ?_
  refine g_aload_n (pc := 1) dX3_valueAt_1 0 rfl ?_
  refine g_get (pc := 2) (ci := 2) inG_X3 rfl 4 (by decide) rfl fl_X3_19 (7 + i.toNat) (at_mod (i := i) (by omega)) rfl dX3_valueAt_2 ?_
  refine g_icmp_le (pc := 5) 17 dX3_valueAt_5 (by decide) (by omega) (by omega) (fun h_1 => ?_) (fun h_1 => ?_)
  · refine g_aload_n (pc := 17) dX3_valueAt_17 0 rfl ?_
    refine g_get (pc := 18) (ci := 2) inG_X3 rfl 2 (by decide) rfl fl_X3_13 (7 + i.toNat) (at_mod (i := i) (by omega)) rfl dX3_valueAt_18 ?_
    refine g_aload_n (pc := 21) dX3_valueAt_21 0 rfl ?_
    refine g_get (pc := 22) (ci := 2) inG_X3 rfl 5 (by decide) rfl fl_X3_22 (7 + i.toNat) (at_mod (i := i) (by omega)) rfl dX3_valueAt_22 ?_
    refine g_iload_n (pc := 25) dX3_valueAt_25 1 rfl ?_
    refine g_imul (pc := 26) dX3_valueAt_26 ?_
    refine g_sipush (pc := 27) dX3_valueAt_27 (by omega) ?_
    refine g_idiv (pc := 30) dX3_valueAt_30 (by omega) (by omega) ?_
    refine g_isub (pc := 31) dX3_valueAt_31 ?_
    refine g_istore_n (pc := 32) (lv' := [(2, .int (zI ((σ 2 i) - (((σ 4 i) * c) / 10000)))), (0, .ref (ad (7 + i.toNat))), (1, .int (zI c))]) dX3_valueAt_32 (by decide) rfl ?_
    refine g_iload_n (pc := 33) dX3_valueAt_33 0 rfl ?_
    refine g_if_le (pc := 34) 41 dX3_valueAt_34 (by decide) (by omega) (fun h_2 => ?_) (fun h_2 => ?_)
    · refine g_iconst (pc := 41) dX3_valueAt_41 ?_
      exact g_iret (pc := 42) dX3_valueAt_42 rfl (rdI_of (by unfold volt lit; rw [if_neg (by omega)]; omega))
    · refine g_iload_n (pc := 37) dX3_valueAt_37 0 rfl ?_
      refine g_goto (pc := 38) 42 dX3_valueAt_38 (by decide) ?_
      exact g_iret (pc := 42) dX3_valueAt_42 rfl (rdI_of (by unfold volt lit; rw [if_neg (by omega)]; omega))
  · refine g_aload_n (pc := 8) dX3_valueAt_8 0 rfl ?_
    refine g_get (pc := 9) (ci := 2) inG_X3 rfl 0 (by decide) rfl fl_X3_35 (7 + i.toNat) (at_mod (i := i) (by omega)) rfl dX3_valueAt_9 ?_
    refine g_getN (pc := 12) (ci := 0) inG_X1 rfl 0 (by decide) rfl fl_X3_39 (1) at_dio rfl dX3_valueAt_12 ?_
    refine g_ineg (pc := 15) dX3_valueAt_15 ?_
    exact g_iret (pc := 16) dX3_valueAt_16 rfl (rdI_of (by unfold volt; rw [if_pos (by omega)]))
set_option maxRecDepth 100000 in
set_option maxHeartbeats 2000000 in
/-- PvArray$PvModule.end  -/
theorem c_X3_end {D : va_G} {cy : Nat → ClassId} {l : Launch} {ad : Nat → Nat} {σ : Nat → Int → Int} {X : va_W} (hL : LC σ) (i : Int) (hi : 0 ≤ i ∧ i < 24) : Con D cy l yX3_end cX3_end 1 (some .int) rm_X3_end [.ref (ad (7 + i.toNat))] (CW cy ad σ ++ X) (rdI (photo σ i) (CW cy ad σ ++ X)) := by
  refine Con.of (lv := [(0, .ref (ad (7 + i.toNat)))]) (by decide) (Nat.le_of_ble_eq_true rfl) rfl ?_
  refine g_aload_n (pc := 0) dX3_end_0 0 rfl ?_
  refine g_get (pc := 1) (ci := 2) inG_X3 rfl 4 (by decide) rfl fl_X3_19 (7 + i.toNat) (at_mod (i := i) (by omega)) rfl dX3_end_1 ?_
  exact g_iret (pc := 4) dX3_end_4 rfl (rdI_of (hL i))
set_option maxRecDepth 100000 in
set_option maxHeartbeats 2000000 in
/-- PvArray$PvModule.illuminate  -/
theorem c_X3_illuminate {D : va_G} {cy : Nat → ClassId} {l : Launch} {ad : Nat → Nat} {σ : Nat → Int → Int} {X : va_W} (i : Int) (hr : 0 ≤ σ 1 i ∧ σ 1 i ≤ 1000) (hi : 0 ≤ i ∧ i < 24) (z : Int) (hz : 0 ≤ z ∧ z ≤ 1200) : Con D cy l yX3_illuminate cX3_illuminate 2 none rm_X3_illuminate [.ref (ad (7 + i.toNat)), .int (zI z)] (CW cy ad σ ++ X) (fun v w' => v = none ∧ w' = CW cy ad (up (up σ 3 i z) 8 i (z * σ 1 i / 1000)) ++ X) := by
  refine Con.of (lv := [(0, .ref (ad (7 + i.toNat))), (1, .int (zI z))]) (by decide) (Nat.le_of_ble_eq_true rfl) rfl ?_
  have h1 := mul_b hz hr
  refine g_aload_n (pc := 0) dX3_illuminate_0 0 rfl ?_
  refine g_iload_n (pc := 1) dX3_illuminate_1 1 rfl ?_
  refine g_put (pc := 2) (ci := 2) inG_X3 tyX3 tyX3_ok nmX3 rfl 3 (by decide) rfl rfl fl_X3_16 (7 + i.toNat) (at_mod (i := i) (by omega)) rfl rfl (Nat.le_of_ble_eq_true rfl) (st_3 (by omega)) dX3_illuminate_2 ?_
  refine g_aload_n (pc := 5) dX3_illuminate_5 0 rfl ?_
  refine g_iload_n (pc := 6) dX3_illuminate_6 1 rfl ?_
  refine g_aload_n (pc := 7) dX3_illuminate_7 0 rfl ?_
  refine g_get (pc := 8) (ci := 2) inG_X3 rfl 1 (by decide) rfl fl_X3_7 (7 + i.toNat) (at_mod (i := i) (by omega)) rfl dX3_illuminate_8 ?_
  refine g_imul (pc := 11) dX3_illuminate_11 ?_
  refine g_sipush (pc := 12) dX3_illuminate_12 (by omega) ?_
  refine g_idiv (pc := 15) dX3_illuminate_15 (by have h2 : up σ 3 i z 1 i = σ 1 i := rfl; rw [h2]; omega) (by omega) ?_
  refine g_put (pc := 16) (ci := 2) inG_X3 tyX3 tyX3_ok nmX3 rfl 4 (by decide) rfl rfl fl_X3_19 (7 + i.toNat) (at_mod (i := i) (by omega)) rfl rfl (Nat.le_of_ble_eq_true rfl) (st_8 (by omega)) dX3_illuminate_16 ?_
  exact g_vret (pc := 19) dX3_illuminate_19 rfl (⟨rfl, rfl⟩)
set_option maxRecDepth 100000 in
set_option maxHeartbeats 2000000 in
/-- PvArray$PvString.isFull  -/
theorem c_X4_isFull {D : va_G} {cy : Nat → ClassId} {l : Launch} {ad : Nat → Nat} {σ : Nat → Int → Int} {X : va_W} (hB : Bd σ) (s : Int) (hs : 0 ≤ s ∧ s < 6) : Con D cy l yX4_isFull cX4_isFull 1 (some .boolean) rm_X4_isFull [.ref (ad (31 + s.toNat))] (CW cy ad σ ++ X) (rdB (12 ≤ σ 6 s) (CW cy ad σ ++ X)) := by
  refine Con.of (lv := [(0, .ref (ad (31 + s.toNat)))]) (by decide) (Nat.le_of_ble_eq_true rfl) rfl ?_
  have h0 := hB.b6 s
  refine g_aload_n (pc := 0) dX4_isFull_0 0 rfl ?_
  refine g_get (pc := 1) (ci := 3) inG_X4 rfl 2 (by decide) rfl fl_X4_15 (31 + s.toNat) (at_str (s := s) (by omega)) rfl dX4_isFull_1 ?_
  refine g_bipush (pc := 4) dX4_isFull_4 (by omega) ?_
  refine g_icmp_lt (pc := 6) 13 dX4_isFull_6 (by decide) (by omega) (by omega) (fun h_1 => ?_) (fun h_1 => ?_)
  · refine g_iconst (pc := 13) dX4_isFull_13 ?_
    exact g_zret (pc := 14) dX4_isFull_14 rfl rfl (rdB_0 (by omega))
  · refine g_iconst (pc := 9) dX4_isFull_9 ?_
    refine g_goto (pc := 10) 14 dX4_isFull_10 (by decide) ?_
    exact g_zret (pc := 14) dX4_isFull_14 rfl rfl (rdB_1 (by omega))
end
section
set_option maxRecDepth 100000 in
set_option maxHeartbeats 2000000 in
/-- PvArray$PvString.valueAt, the loop at 4  -/
theorem lp_X4_valueAt {D : va_G} {cy : Nat → ClassId} {l : Launch} {ad : Nat → Nat} {σ : Nat → Int → Int} {X : va_W} (hB : Bd σ) (hL : LC σ) (s : Int) (hs : 0 ≤ s ∧ s < 6) (c : Int) (hc : 0 ≤ c ∧ c ≤ 10000) : ∀ (n : Nat) (p : Int), 0 ≤ p → p ≤ σ 6 s → (σ 6 s - p).toNat < n → GO D cy l rm_X4_valueAt cX4_valueAt 4 yX4_valueAt.cls (some .int) (CW cy ad σ ++ X) (rdI (svolt σ s c) (CW cy ad σ ++ X)) (CW cy ad σ ++ X) 4 [(0, .ref (ad (31 + s.toNat))), (1, .int (zI c)), (2, .int (zI (sumP (fun p => volt σ (memb σ s p) c) p.toNat))), (3, .int (zI p))] [] := by
  intro n
  induction n with
  | zero =>
    intro p hp hp2 hn
    exact absurd hn (Nat.not_lt_zero _)
  | succ n ih =>
    intro p hp hp2 hn
    have h1 := hB.b6 s
    have h2 := hB.b7 (12 * s + p)
    have h3 := sv_b hB s hc.1 (n := p.toNat) (by omega)
    have h4 := volt_b hB (memb σ s p) hc.1
    refine g_iload_n (pc := 4) dX4_valueAt_4 3 rfl ?_
    refine g_aload_n (pc := 5) dX4_valueAt_5 0 rfl ?_
    refine g_get (pc := 6) (ci := 3) inG_X4 rfl 2 (by decide) rfl fl_X4_15 (31 + s.toNat) (at_str (s := s) (by omega)) rfl dX4_valueAt_6 ?_
    refine g_icmp_ge (pc := 9) 36 dX4_valueAt_9 (by decide) (by omega) (by omega) (fun h_1 => ?_) (fun h_1 => ?_)
    · refine g_iload_n (pc := 36) dX4_valueAt_36 2 rfl ?_
      exact g_iret (pc := 37) dX4_valueAt_37 rfl (rdI_of (by unfold svolt; congr 1; omega))
    · refine g_iload_n (pc := 12) dX4_valueAt_12 2 rfl ?_
      refine g_aload_n (pc := 13) dX4_valueAt_13 0 rfl ?_
      refine g_get (pc := 14) (ci := 3) inG_X4 rfl 0 (by decide) rfl fl_X4_19 (31 + s.toNat) (at_str (s := s) (by omega)) rfl dX4_valueAt_14 ?_
      refine g_aload_n (pc := 17) dX4_valueAt_17 0 rfl ?_
      refine g_get (pc := 18) (ci := 3) inG_X4 rfl 1 (by decide) rfl fl_X4_9 (31 + s.toNat) (at_str (s := s) (by omega)) rfl dX4_valueAt_18 ?_
      refine g_iload_n (pc := 21) dX4_valueAt_21 3 rfl ?_
      refine g_mem (pc := 22) (by omega) (by omega) dX4_valueAt_22 ?_
      refine g_aald (pc := 23) 2 3 at_mods rfl (by omega) (by decide) rfl dX4_valueAt_23 ?_
      refine g_iload_n (pc := 24) dX4_valueAt_24 1 rfl ?_
      refine g_callV (pc := 25) (As := [.int (zI c)]) (rest := [.int (zI (sumP (fun p => volt σ (memb σ s p) c) p.toNat))]) k_X4_23_X3 (c_X3_valueAt (σ := σ) hB hL (σ 7 (12 * s + p)) (by omega) c (by omega)) ⟨rfl, rfl, Nat.le_of_ble_eq_true rfl, Nat.le_of_ble_eq_true rfl⟩ (7 + (σ 7 (12 * s + p)).toNat) 2 rfl rfl (at_mod (i := (σ 7 (12 * s + p))) (by omega)) rfl rfl (Nat.le_of_ble_eq_true rfl) dX4_valueAt_25 (fun v_ w_ hq_ => ?_)
      obtain ⟨rfl, rfl⟩ := hq_
      refine g_one ?_
      refine g_iadd (pc := 28) dX4_valueAt_28 ?_
      refine g_istore_n (pc := 29) (lv' := [(2, .int (zI ((sumP (fun p => volt σ (memb σ s p) c) p.toNat) + (volt σ (σ 7 (12 * s + p)) c)))), (0, .ref (ad (31 + s.toNat))), (1, .int (zI c)), (3, .int (zI p))]) dX4_valueAt_29 (by decide) rfl ?_
      refine g_iinc (pc := 30) (lv' := [(3, .int (zI (p + 1))), (2, .int (zI ((sumP (fun p => volt σ (memb σ s p) c) p.toNat) + (volt σ (σ 7 (12 * s + p)) c)))), (0, .ref (ad (31 + s.toNat))), (1, .int (zI c))]) dX4_valueAt_30 (by decide) 3 rfl rfl ?_
      refine g_goto (pc := 33) 4 dX4_valueAt_33 (by decide) ?_
      refine g_sub (lv' := [(0, .ref (ad (31 + s.toNat))), (1, .int (zI c)), (2, .int (zI ((sumP (fun p => volt σ (memb σ s p) c) p.toNat) + (volt σ (σ 7 (12 * s + p)) c)))), (3, .int (zI (p + 1)))]) [2, 3, 1, 0] rfl ?_
      refine g_lv (lv' := [(0, .ref (ad (31 + s.toNat))), (1, .int (zI c)), (2, .int (zI (sumP (fun p => volt σ (memb σ s p) c) (p + 1).toNat))), (3, .int (zI (p + 1)))]) (by rw [sumP_s _ hp]; rfl) ?_
      exact ih (p + 1) (by omega) (by omega) (by omega)
set_option maxRecDepth 100000 in
set_option maxHeartbeats 2000000 in
/-- PvArray$PvString.valueAt  -/
theorem c_X4_valueAt {D : va_G} {cy : Nat → ClassId} {l : Launch} {ad : Nat → Nat} {σ : Nat → Int → Int} {X : va_W} (hB : Bd σ) (hL : LC σ) (s : Int) (hs : 0 ≤ s ∧ s < 6) (c : Int) (hc : 0 ≤ c ∧ c ≤ 10000) : Con D cy l yX4_valueAt cX4_valueAt 4 (some .int) rm_X4_valueAt [.ref (ad (31 + s.toNat)), .int (zI c)] (CW cy ad σ ++ X) (rdI (svolt σ s c) (CW cy ad σ ++ X)) := by
  refine Con.of (lv := [(0, .ref (ad (31 + s.toNat))), (1, .int (zI c))]) (by decide) (Nat.le_of_ble_eq_true rfl) rfl ?_
  have h1 := hB.b6 s
  refine g_iconst (pc := 0) dX4_valueAt_0 ?_
  refine g_istore_n (pc := 1) (lv' := [(2, .int (zI 0)), (0, .ref (ad (31 + s.toNat))), (1, .int (zI c))]) dX4_valueAt_1 (by decide) rfl ?_
  refine g_iconst (pc := 2) dX4_valueAt_2 ?_
  refine g_istore_n (pc := 3) (lv' := [(3, .int (zI 0)), (2, .int (zI 0)), (0, .ref (ad (31 + s.toNat))), (1, .int (zI c))]) dX4_valueAt_3 (by decide) rfl ?_
  refine g_sub (lv' := [(0, .ref (ad (31 + s.toNat))), (1, .int (zI c)), (2, .int (zI 0)), (3, .int (zI 0))]) [2, 3, 1, 0] rfl ?_
  exact lp_X4_valueAt hB hL s hs c hc ((σ 6 s).toNat + 1) 0 (by omega) (by omega) (by omega)
end
section
/-! the lowest best point; search by halving; climbing; scanning; peaks; the tracker: plain facts -/
def IsBest (f : Int → Int) (N b : Int) : Prop := 0 ≤ b ∧ b ≤ N ∧ (∀ i, 0 ≤ i → i < b → f i < f b) ∧ (∀ i, b ≤ i → i ≤ N → f i ≤ f b)
def bestTo (f : Int → Int) : Nat → Int
  | 0 => 0
  | n + 1 => if f (bestTo f n) < f ((n + 1 : Nat) : Int) then ((n + 1 : Nat) : Int) else bestTo f n
theorem bestTo_is (f : Int → Int) : ∀ n : Nat, IsBest f n (bestTo f n)
  | 0 => by
    refine ⟨Int.le_refl _, Int.le_refl _, fun i h1 h2 => ?_, fun i h1 h2 => ?_⟩
    · have h2 : i < 0 := h2
      omega
    · have h1 : 0 ≤ i := h1
      have : i = 0 := by omega
      subst this; exact Int.le_refl _
  | n + 1 => by
    obtain ⟨h1, h2, h3, h4⟩ := bestTo_is f n
    unfold bestTo
    by_cases h : f (bestTo f n) < f ((n + 1 : Nat) : Int)
    · rw [if_pos h]
      refine ⟨by omega, Int.le_refl _, fun i q1 q2 => ?_, fun i q1 q2 => ?_⟩
      · by_cases q : i < bestTo f n
        · have := h3 i q1 q; omega
        · have := h4 i (by omega) (by omega); omega
      · have : i = ((n + 1 : Nat) : Int) := by omega
        subst this; exact Int.le_refl _
    · rw [if_neg h]
      refine ⟨h1, by omega, h3, fun i q1 q2 => ?_⟩
      by_cases q : i = ((n + 1 : Nat) : Int)
      · subst q; omega
      · exact h4 i q1 (by omega)
theorem IsBest.uniq {f : Int → Int} {N a b : Int} (ha : IsBest f N a) (hb : IsBest f N b) : a = b := by
  obtain ⟨a1, a2, a3, a4⟩ := ha
  obtain ⟨b1, b2, b3, b4⟩ := hb
  rcases Int.lt_trichotomy a b with h | h | h
  · have q1 := b3 a a1 h
    have q2 := a4 b (by omega) b2
    omega
  · exact h
  · have q1 := a3 b b1 h
    have q2 := b4 a (by omega) a2
    omega
theorem IsBest.eq {f : Int → Int} {N b : Int} (hN : 0 ≤ N) (hb : IsBest f N b) : b = bestTo f N.toNat := by
  have h := bestTo_is f N.toNat
  rw [show ((N.toNat : Nat) : Int) = N by omega] at h
  exact hb.uniq h
theorem bestTo_b (f : Int → Int) {N : Int} (hN : 0 ≤ N) : 0 ≤ bestTo f N.toNat ∧ bestTo f N.toNat ≤ N := by
  have h := bestTo_is f N.toNat
  exact ⟨h.1, by have := h.2.1; omega⟩
def Mono (V : Int → Int) (N : Int) : Prop := ∀ i j, 0 ≤ i → i ≤ j → j ≤ N → V j ≤ V i
def CR (V : Int → Int) (N tb : Int) : Prop := -1 ≤ tb ∧ tb ≤ 52000000 ∧ ∃ j, 0 ≤ j ∧ j ≤ N ∧ tb < j * V j
def BP (V : Int → Int) (N tb best pt : Int) : Prop := 0 ≤ pt ∧ 0 ≤ best ∧ best ≤ N ∧ pt ≤ 52000001 ∧ (0 ≤ tb ∨ tb = -1 ∧ pt = 0) ∧ tb ≤ 52000000 ∧ ((tb = best * V best ∧ (∀ i, 0 ≤ i → i < best → i * V i < tb) ∧ (∀ i, best ≤ i → i < pt → i ≤ N → i * V i ≤ tb)) ∨ (best = 0 ∧ (∀ i, 0 ≤ i → i < pt → i ≤ N → i * V i ≤ tb) ∧ ∃ j, 0 ≤ j ∧ j ≤ N ∧ tb < j * V j))
theorem CR.zero {V : Int → Int} {N : Int} (hN : 0 ≤ N) : CR V N (-1) := ⟨by omega, by omega, 0, by omega, hN, by rw [Int.zero_mul]; omega⟩
theorem CR.step {V : Int → Int} {N tb c : Int} (h : CR V N tb) (hc : 0 ≤ c ∧ c ≤ N) (hb : c * V c ≤ 52000000) : CR V N (max tb (c * V c - 1)) := by
  obtain ⟨h1, h2, j, h3, h4, h5⟩ := h
  by_cases q : tb ≤ c * V c - 1
  · rw [Int.max_eq_right q]
    exact ⟨by omega, by omega, c, hc.1, hc.2, by omega⟩
  · rw [Int.max_eq_left (by omega)]
    exact ⟨h1, h2, j, h3, h4, h5⟩
theorem BP.init {V : Int → Int} {N tb : Int} (hN : 0 ≤ N) (h : CR V N tb) : BP V N tb 0 0 := by
  obtain ⟨h1, h2, h3⟩ := h
  exact ⟨by omega, by omega, hN, by omega, by omega, h2, Or.inr ⟨rfl, fun i q1 q2 => absurd q1 (by omega), h3⟩⟩
theorem BP.out {V : Int → Int} {N tb best pt : Int} (h : BP V N tb best pt) (hp : N < pt) : IsBest (fun i => i * V i) N best := by
  obtain ⟨h1, h2, h3, -, h4, h5, h6⟩ := h
  rcases h6 with ⟨q1, q2, q3⟩ | ⟨q1, q2, j, q3, q4, q5⟩
  · exact ⟨h2, h3, fun i r1 r2 => by show i * V i < best * V best; rw [← q1]; exact q2 i r1 r2, fun i r1 r2 => by show i * V i ≤ best * V best; rw [← q1]; exact q3 i r1 (by omega) r2⟩
  · exact absurd (q2 j q3 (by omega) q4) (by omega)
theorem mul_np {a b : Int} (ha : 0 ≤ a) (hb : b ≤ 0) : a * b ≤ 0 := by
  have := Int.mul_nonneg ha (show 0 ≤ -b by omega)
  rw [Int.mul_neg] at this
  omega
theorem BP.out0 {V : Int → Int} {N tb best pt : Int} (h : BP V N tb best pt) (hm : Mono V N) (hp : pt ≤ N) (hv : V pt ≤ 0) : IsBest (fun i => i * V i) N best := by
  obtain ⟨h1, h2, h3, -, h4, h5, h6⟩ := h
  have np : ∀ i, pt ≤ i → i ≤ N → i * V i ≤ 0 := fun i r1 r2 => mul_np (by omega) (by have := hm pt i h1 r1 r2; omega)
  rcases h6 with ⟨q1, q2, q3⟩ | ⟨q1, q2, j, q3, q4, q5⟩
  · have h0 : 0 ≤ best * V best := by
      by_cases hb : best = 0
      · rw [hb, Int.zero_mul]; omega
      · have := q2 0 (by omega) (by omega)
        rw [Int.zero_mul] at this
        omega
    refine ⟨h2, h3, fun i r1 r2 => by show i * V i < best * V best; rw [← q1]; exact q2 i r1 r2, fun i r1 r2 => ?_⟩
    show i * V i ≤ best * V best
    by_cases hi : i < pt
    · rw [← q1]; exact q3 i r1 hi r2
    · have := np i (by omega) r2; omega
  · have hj : pt ≤ j := by
      by_cases hj : pt ≤ j
      · exact hj
      · exact absurd (q2 j q3 (by omega) q4) (by omega)
    have hj0 := np j hj q4
    have hpt : pt = 0 := by
      by_cases hpt : pt = 0
      · exact hpt
      · have := q2 0 (by omega) (by omega) (by omega)
        rw [Int.zero_mul] at this
        omega
    subst q1
    refine ⟨by omega, h3, fun i r1 r2 => absurd r1 (by omega), fun i r1 r2 => ?_⟩
    show i * V i ≤ 0 * V 0
    rw [Int.zero_mul]
    exact np i (by omega) r2
theorem leap {V : Int → Int} {N tb pt i : Int} (hm : Mono V N) (h1 : 0 ≤ pt) (htb : 0 ≤ tb) (hv : 0 < V pt) (hf : pt * V pt ≤ tb) (r1 : pt ≤ i) (r2 : i < max (pt + 1) (tb / V pt + 1)) (r3 : i ≤ N) : i * V i ≤ tb := by
  by_cases hi : i = pt
  · subst hi; exact hf
  · have hq : i ≤ tb / V pt := by omega
    have e1 : i * V i ≤ i * V pt := Int.mul_le_mul_of_nonneg_left (hm pt i h1 r1 r3) (by omega)
    have e2 : i * V pt ≤ tb / V pt * V pt := Int.mul_le_mul_of_nonneg_right hq (by omega)
    have e3 : tb / V pt * V pt ≤ tb := Int.ediv_mul_le tb (by omega)
    omega
theorem div_b {tb v : Int} (h : 0 ≤ tb ∧ tb ≤ 52000000) (hv : 0 < v) : 0 ≤ tb / v ∧ tb / v ≤ 52000000 := by
  have h1 : 0 ≤ tb / v := Int.ediv_nonneg h.1 (by omega)
  have h2 : tb / v ≤ tb := Int.ediv_le_self _ h.1
  omega
theorem BP.nn {V : Int → Int} {N tb best pt : Int} (h : BP V N tb best pt) (hf : pt * V pt ≤ tb) : 0 ≤ tb := by
  obtain ⟨h1, h2, h3, -, h4, h5, h6⟩ := h
  rcases h4 with h4 | ⟨h4, h7⟩
  · exact h4
  · subst h7
    rw [Int.zero_mul] at hf
    exact hf
theorem BP.no {V : Int → Int} {N tb best pt : Int} (h : BP V N tb best pt) (hm : Mono V N) (hN : N ≤ 7200) (hp : pt ≤ N) (hv : 0 < V pt) (hf : pt * V pt ≤ tb) : BP V N tb best (max (pt + 1) (tb / V pt + 1)) := by
  have h0 := h.nn hf
  obtain ⟨h1, h2, h3, h9, h4, h5, h6⟩ := h
  have hd := div_b ⟨h0, h5⟩ hv
  refine ⟨by omega, h2, h3, by omega, Or.inl h0, h5, ?_⟩
  have key : ∀ i, pt ≤ i → i < max (pt + 1) (tb / V pt + 1) → i ≤ N → i * V i ≤ tb := fun i r1 r2 r3 => leap hm h1 h0 hv hf r1 r2 r3
  rcases h6 with ⟨q1, q2, q3⟩ | ⟨q1, q2, q3⟩
  · refine Or.inl ⟨q1, q2, fun i r1 r2 r3 => ?_⟩
    by_cases hi : i < pt
    · exact q3 i r1 hi r3
    · exact key i (by omega) r2 r3
  · refine Or.inr ⟨q1, fun i r1 r2 r3 => ?_, q3⟩
    by_cases hi : i < pt
    · exact q2 i r1 hi r3
    · exact key i (by omega) r2 r3
theorem BP.yes {V : Int → Int} {N tb best pt : Int} (h : BP V N tb best pt) (hm : Mono V N) (hN : N ≤ 7200) (hp : pt ≤ N) (hv : 0 < V pt) (hf : tb < pt * V pt) (hb : pt * V pt ≤ 52000000) : BP V N (pt * V pt) pt (max (pt + 1) (pt * V pt / V pt + 1)) := by
  obtain ⟨h1, h2, h3, h9, h4, h5, h6⟩ := h
  have h0 : 0 ≤ pt * V pt := Int.mul_nonneg h1 (by omega)
  have hd := div_b ⟨h0, hb⟩ hv
  refine ⟨by omega, h1, hp, by omega, Or.inl h0, hb, Or.inl ⟨rfl, fun i r1 r2 => ?_, fun i r1 r2 r3 => leap hm h1 h0 hv (Int.le_refl _) r1 r2 r3⟩⟩
  have : i * V i ≤ tb := by
    rcases h6 with ⟨q1, q2, q3⟩ | ⟨q1, q2, q3⟩
    · by_cases hi : i < best
      · have := q2 i r1 hi; omega
      · exact q3 i (by omega) r2 (by omega)
    · exact q2 i r1 r2 (by omega)
  omega
/-- halving -/
def dlvT (F : Int → Int) (v : Int) : Nat → Int
  | 0 => 0
  | n + 1 => if v ≤ F ((n + 1 : Nat) : Int) then ((n + 1 : Nat) : Int) else dlvT F v n
theorem dlvT_b (F : Int → Int) (v : Int) : ∀ n : Nat, 0 ≤ dlvT F v n ∧ dlvT F v n ≤ n
  | 0 => by simp [dlvT]
  | n + 1 => by
    have := dlvT_b F v n
    unfold dlvT
    split <;> omega
theorem dlvT_eq {F : Int → Int} {v : Int} : ∀ (n : Nat) {a : Int}, 0 ≤ a → a ≤ n → (a = 0 ∨ v ≤ F a) → (∀ i, a < i → i ≤ n → F i < v) → dlvT F v n = a
  | 0, a, h1, h2, h3, h4 => by
    have : a = 0 := by omega
    subst this; rfl
  | n + 1, a, h1, h2, h3, h4 => by
    unfold dlvT
    by_cases h : a = ((n + 1 : Nat) : Int)
    · subst h
      rw [if_pos (by rcases h3 with h3 | h3
                     · omega
                     · exact h3)]
    · have := h4 ((n + 1 : Nat) : Int) (by omega) (by omega)
      rw [if_neg (by omega)]
      exact dlvT_eq n h1 (by omega) h3 (fun i q1 q2 => h4 i q1 (by omega))
/-- climbing -/
def climbR (f : Int → Int) (N : Int) : Nat → Int → Int
  | 0, c => c
  | n + 1, c => if c < N ∧ f c < f (c + 1) then climbR f N n (c + 1) else if 0 < c ∧ f c < f (c - 1) then climbR f N n (c - 1) else c
/-- how many points up to n have more than x -/
def more (f : Int → Int) (x : Int) : Nat → Nat
  | 0 => 0
  | n + 1 => more f x n + (if x < f n then 1 else 0)
theorem more_le {f : Int → Int} {x y : Int} (h : x ≤ y) : ∀ n : Nat, more f y n ≤ more f x n
  | 0 => Nat.le_refl _
  | n + 1 => by
    have := more_le (f := f) h n
    unfold more
    split <;> split <;> omega
theorem more_lt {f : Int → Int} {x : Int} : ∀ (n : Nat) {c : Int}, 0 ≤ c → c < n → x < f c → more f (f c) n < more f x n
  | 0, c, h1, h2, h3 => absurd h1 (by omega)
  | n + 1, c, h1, h2, h3 => by
    unfold more
    by_cases h : c = (n : Int)
    · subst h
      have := more_le (f := f) (Int.le_of_lt h3) n
      rw [if_pos h3, if_neg (by omega)]
      omega
    · have := more_lt n h1 (by omega) h3
      split <;> split <;> omega
theorem more_n (f : Int → Int) (x : Int) : ∀ n : Nat, more f x n ≤ n
  | 0 => Nat.le_refl _
  | n + 1 => by
    have := more_n f x n
    unfold more
    split <;> omega
theorem more_c {f : Int → Int} : ∀ (n : Nat) {c : Int}, 0 ≤ c → c < n → more f (f c) n + 1 ≤ n
  | 0, c, h1, h2 => absurd h1 (by omega)
  | n + 1, c, h1, h2 => by
    unfold more
    by_cases h : c = (n : Int)
    · subst h
      have := more_n f (f n) n
      rw [if_neg (by omega)]
      omega
    · have := more_c (f := f) n h1 (by omega)
      split <;> omega
theorem climb_more {f : Int → Int} {N : Int} : ∀ (n : Nat) (c : Int), 0 ≤ c → c ≤ N → more f (f c) (N + 1).toNat ≤ n → climbR f N (n + 1) c = climbR f N n c
  | 0, c, h1, h2, h3 => by
    show (if c < N ∧ f c < f (c + 1) then climbR f N 0 (c + 1) else if 0 < c ∧ f c < f (c - 1) then climbR f N 0 (c - 1) else c) = c
    rw [if_neg, if_neg]
    · rintro ⟨q1, q2⟩
      have := more_lt (N + 1).toNat (f := f) (x := f c) (c := c - 1) (by omega) (by omega) q2
      omega
    · rintro ⟨q1, q2⟩
      have := more_lt (N + 1).toNat (f := f) (x := f c) (c := c + 1) (by omega) (by omega) q2
      omega
  | n + 1, c, h1, h2, h3 => by
    rw [climbR]
    conv => rhs; rw [climbR]
    by_cases q : c < N ∧ f c < f (c + 1)
    · rw [if_pos q, if_pos q]
      have := more_lt (N + 1).toNat (f := f) (x := f c) (c := c + 1) (by omega) (by omega) q.2
      exact climb_more n (c + 1) (by omega) (by omega) (by omega)
    · rw [if_neg q, if_neg q]
      by_cases q : 0 < c ∧ f c < f (c - 1)
      · rw [if_pos q, if_pos q]
        have := more_lt (N + 1).toNat (f := f) (x := f c) (c := c - 1) (by omega) (by omega) q.2
        exact climb_more n (c - 1) (by omega) (by omega) (by omega)
      · rw [if_neg q, if_neg q]
def climb (f : Int → Int) (N c : Int) : Int := climbR f N N.toNat c
theorem climb_eq {f : Int → Int} {N c : Int} (h1 : 0 ≤ c) (h2 : c ≤ N) : climb f N c = if c < N ∧ f c < f (c + 1) then climb f N (c + 1) else if 0 < c ∧ f c < f (c - 1) then climb f N (c - 1) else c := by
  unfold climb
  have h3 := more_c (f := f) (N + 1).toNat h1 (by omega)
  rw [← climb_more N.toNat c h1 h2 (by omega), climbR]
theorem climbR_b {f : Int → Int} {N : Int} : ∀ (n : Nat) (c : Int), 0 ≤ c → c ≤ N → 0 ≤ climbR f N n c ∧ climbR f N n c ≤ N
  | 0, c, h1, h2 => ⟨h1, h2⟩
  | n + 1, c, h1, h2 => by
    rw [climbR]
    split
    · exact climbR_b n _ (by omega) (by omega)
    · split
      · exact climbR_b n _ (by omega) (by omega)
      · exact ⟨h1, h2⟩
/-- scanning the multiples of v -/
def scanT (f : Int → Int) (v : Int) : Nat → Int
  | 0 => 0
  | n + 1 => if f (scanT f v n) < f (n * v) then n * v else scanT f v n
def scan (f : Int → Int) (N v : Int) : Int := scanT f v (N / v + 1).toNat
/-- peaks -/
abbrev isPk (f : Int → Int) (N i : Int) : Prop := f (i - 1) < f i ∧ (i = N ∨ f (i + 1) < f i)
def pkB (f : Int → Int) (N i : Int) : Bool := decide (isPk f N i)
theorem pkB_t {f : Int → Int} {N i : Int} (h : isPk f N i) : pkB f N i = true := decide_eq_true h
theorem pkB_f {f : Int → Int} {N i : Int} (h : ¬ isPk f N i) : pkB f N i = false := decide_eq_false h
def pkN (f : Int → Int) (N : Int) : Nat → Int
  | 0 => 0
  | n + 1 => pkN f N n + (if pkB f N ((n + 1 : Nat) : Int) = true then 1 else 0)
def pkS (f : Int → Int) (N : Int) : Nat → Int → Int → Int
  | 0, _, _ => -1005
  | n + 1, i, k => if pkB f N i = true then (if k = 0 then i else pkS f N n (i + 1) (k - 1)) else pkS f N n (i + 1) k
/-- the tracker -/
def pobs (f : Int → Int) (N step : Int) : Nat → Int → Bool → Int
  | 0, c, _ => c
  | n + 1, c, u => if f c < f (if u = true then min (c + step) N else max (c - step) 0) then pobs f N step n (if u = true then min (c + step) N else max (c - step) 0) u else pobs f N step n c (!u)
end
section
theorem volt_mono {g : Nat → Int → Int} (h : Bd g) (m : Int) {i j : Int} (hi : 0 ≤ i) (hij : i ≤ j) : volt g m j ≤ volt g m i := by
  have h1 := lit_b h m hi
  have h2 := lit_b h m (Int.le_trans hi hij)
  have h3 := h.d
  have h4 : g 4 m * i ≤ g 4 m * j := Int.mul_le_mul_of_nonneg_left hij (h.b4 m).1
  unfold volt
  split <;> split <;> first | omega | (unfold lit at *; omega)
theorem sumP_mono {F G : Int → Int} (h : ∀ p, F p ≤ G p) : ∀ n : Nat, sumP F n ≤ sumP G n
  | 0 => Int.le_refl _
  | n + 1 => by
    have h1 := sumP_mono h n
    have h2 := h n
    show sumP F n + F n ≤ sumP G n + G n
    omega
theorem volt_Mono {g : Nat → Int → Int} (h : Bd g) (m N : Int) : Mono (volt g m) N := fun _ _ h1 h2 _ => volt_mono h m h1 h2
theorem svolt_Mono {g : Nat → Int → Int} (h : Bd g) (s N : Int) : Mono (svolt g s) N := fun _ _ h1 h2 _ => sumP_mono (fun _ => volt_mono h _ h1 h2) _
def mpow (g : Nat → Int → Int) (i c : Int) : Int := c * volt g i c
def mbest (g : Nat → Int → Int) (i : Int) : Int := bestTo (mpow g i) (photo g i).toNat
def mpeak (g : Nat → Int → Int) (i : Int) : Int := mpow g i (mbest g i)
def bestC (g : Nat → Int → Int) (s : Int) : Int := bestTo (spow g s) (limit g s).toNat
def bestP (g : Nat → Int → Int) (s : Int) : Int := spow g s (bestC g s)
def dlv (g : Nat → Int → Int) (s v : Int) : Int := dlvT (svolt g s) v (limit g s).toNat
def acur (g : Nat → Int → Int) (v : Int) : Int := sumP (fun s => dlv g s v) (g 0 2).toNat
def apow (g : Nat → Int → Int) (v : Int) : Int := v * acur g v
def bestV (g : Nat → Int → Int) : Int := bestTo (apow g) 7200
theorem dlv_b {g : Nat → Int → Int} (h : Bd g) (s v : Int) : 0 ≤ dlv g s v ∧ dlv g s v ≤ 1200 := by
  have h1 := dlvT_b (svolt g s) v (limit g s).toNat
  have h2 := limit_b h s
  unfold dlv
  omega
theorem dlvT_mono (F : Int → Int) {v u : Int} (h : v ≤ u) : ∀ n : Nat, dlvT F u n ≤ dlvT F v n
  | 0 => Int.le_refl _
  | n + 1 => by
    have h1 := dlvT_mono F h n
    have h2 := dlvT_b F u n
    have h3 := dlvT_b F v n
    unfold dlvT
    split <;> split <;> omega
theorem acur_Mono {g : Nat → Int → Int} (N : Int) : Mono (acur g) N := fun _ _ _ h2 _ => sumP_mono (fun _ => dlvT_mono _ h2 _) _
theorem ac_b {g : Nat → Int → Int} (h : Bd g) (v : Int) {n : Nat} (hn : n ≤ 6) : 0 ≤ sumP (fun s => dlv g s v) n ∧ sumP (fun s => dlv g s v) n ≤ 7200 := by
  have h1 := sumP_b (F := fun s => dlv g s v) (a := 0) (b := 1200) (fun s => dlv_b h s v) n
  omega
theorem acur_b {g : Nat → Int → Int} (h : Bd g) (v : Int) : 0 ≤ acur g v ∧ acur g v ≤ 7200 := ac_b h v (by have := h.sc; omega)
theorem mpow_b {g : Nat → Int → Int} (h : Bd g) (i : Int) {c : Int} (hc : 0 ≤ c ∧ c ≤ 7200) : -1728000 ≤ mpow g i c ∧ mpow g i c ≤ 51840000 := by
  have h0 := volt_b h i hc.1
  have h1 := mul_bb hc (B := 240) (C := 7200) (show -240 ≤ volt g i c ∧ volt g i c ≤ 7200 by omega) (by omega) (by omega)
  unfold mpow
  omega
theorem spow_b2 {g : Nat → Int → Int} (h : Bd g) (s : Int) {c : Int} (hc : 0 ≤ c ∧ c ≤ 7200) : -1728000 ≤ spow g s c ∧ spow g s c ≤ 51840000 := by
  have h1 := mul_bb hc (svolt_b h s hc.1) (by omega) (by omega)
  unfold spow
  omega
theorem apow_b {g : Nat → Int → Int} (h : Bd g) {c : Int} (hc : 0 ≤ c ∧ c ≤ 7200) : -1728000 ≤ apow g c ∧ apow g c ≤ 51840000 := by
  have h0 := acur_b h c
  have h1 := mul_bb hc (B := 240) (C := 7200) (show -240 ≤ acur g c ∧ acur g c ≤ 7200 by omega) (by omega) (by omega)
  unfold apow
  omega
def bitP (B : Int → Bool) : Nat → Int32
  | 0 => 0
  | n + 1 => if B n = true then bitP B n ||| (zI 1 <<< (zI n &&& 31)) else bitP B n
def byp (g : Nat → Int → Int) (s c : Int) : Int32 := bitP (fun p => decide (photo g (memb g s p) < c)) (g 6 s).toNat
theorem bitP_s (B : Int → Bool) {p : Int} (h : 0 ≤ p) : bitP B (p + 1).toNat = if B p = true then bitP B p.toNat ||| (zI 1 <<< (zI p &&& 31)) else bitP B p.toNat := by
  rw [show (p + 1).toNat = p.toNat + 1 by omega]
  show (if B (p.toNat : Int) = true then bitP B p.toNat ||| (zI 1 <<< (zI (p.toNat : Int) &&& 31)) else bitP B p.toNat) = _
  rw [show (p.toNat : Int) = p by omega]
section GO4
variable {D : va_G} {cy : Nat → ClassId} {l : Launch} {R : Room} {cc : ByteArray} {nL : Nat} {own : String} {ret : Option FieldType} {w0 : va_W} {Q : Option Value → va_W → Prop} {w : va_W} {pc : Nat} {lv lv' : List (Nat × Value)} {st : List Value}
theorem g_ishl {a b : Int32} (hd : decode cc pc = .ok (.ishl, 1)) (k : GO D cy l R cc nL own ret w0 Q w (pc + 1) lv (.int (a <<< (b &&& 31)) :: st)) : GO D cy l R cc nL own ret w0 Q w pc lv (.int b :: .int a :: st) := by
  intro p e s m args below meth c H locs ls C hP hD hS hl
  exact lv_ishl C.1 C.2.1 hd (k p e s m args below meth c H locs ls C hP hD hS hl)
end GO4
end
section
set_option maxRecDepth 100000 in
set_option maxHeartbeats 2000000 in
/-- PvArray$PvString.end, the loop at 8  -/
theorem lp_X4_end {D : va_G} {cy : Nat → ClassId} {l : Launch} {ad : Nat → Nat} {σ : Nat → Int → Int} {X : va_W} (hB : Bd σ) (hL : LC σ) (s : Int) (hs : 0 ≤ s ∧ s < 6) : ∀ (n : Nat) (p : Int), 0 ≤ p → p ≤ σ 6 s → (σ 6 s - p).toNat < n → GO D cy l rm_X4_end cX4_end 5 yX4_end.cls (some .int) (CW cy ad σ ++ X) (rdI (limit σ s) (CW cy ad σ ++ X)) (CW cy ad σ ++ X) 8 [(0, .ref (ad (31 + s.toNat))), (1, .int (zI (mxP (fun p => photo σ (memb σ s p)) p.toNat))), (2, .int (zI (cpP (fun p => σ 5 (memb σ s p)) (fun p => photo σ (memb σ s p)) p.toNat))), (3, .int (zI p))] [] := by
  intro n
  induction n with
  | zero =>
    intro p hp hp2 hn
    exact absurd hn (Nat.not_lt_zero _)
  | succ n ih =>
    intro p hp hp2 hn
    have h1 := hB.b6 s
    have h2 := hB.b7 (12 * s + p)
    have h3 := mxP_b (F := (fun p => photo σ (memb σ s p))) (b := 1200) (by omega) (fun p => (photo_b hB _).2) p.toNat
    have h4 := cpP_b (B := (fun p => σ 5 (memb σ s p))) (F := (fun p => photo σ (memb σ s p))) (fun p => (photo_b hB _).1) p.toNat
    have h5 := photo_b hB (σ 7 (12 * s + p))
    have h6 := hB.b5 (σ 7 (12 * s + p))
    refine g_iload_n (pc := 8) dX4_end_8 3 rfl ?_
    refine g_aload_n (pc := 9) dX4_end_9 0 rfl ?_
    refine g_get (pc := 10) (ci := 3) inG_X4 rfl 2 (by decide) rfl fl_X4_15 (31 + s.toNat) (at_str (s := s) (by omega)) rfl dX4_end_10 ?_
    refine g_icmp_ge (pc := 13) 63 dX4_end_13 (by decide) (by omega) (by omega) (fun h_1 => ?_) (fun h_1 => ?_)
    · refine g_iload_n (pc := 63) dX4_end_63 1 rfl ?_
      refine g_iload_n (pc := 64) dX4_end_64 2 rfl ?_
      refine g_min (pc := 65) ma_min_X4_42 ma_min_s ma_i ma_min_c (Nat.le_of_ble_eq_true rfl) (Nat.le_of_ble_eq_true rfl) (by omega) (by omega) dX4_end_65 ?_
      exact g_iret (pc := 68) dX4_end_68 rfl (rdI_of (by unfold limit; rw [show p = σ 6 s by omega]))
    · refine g_aload_n (pc := 16) dX4_end_16 0 rfl ?_
      refine g_get (pc := 17) (ci := 3) inG_X4 rfl 0 (by decide) rfl fl_X4_19 (31 + s.toNat) (at_str (s := s) (by omega)) rfl dX4_end_17 ?_
      refine g_aload_n (pc := 20) dX4_end_20 0 rfl ?_
      refine g_get (pc := 21) (ci := 3) inG_X4 rfl 1 (by decide) rfl fl_X4_9 (31 + s.toNat) (at_str (s := s) (by omega)) rfl dX4_end_21 ?_
      refine g_iload_n (pc := 24) dX4_end_24 3 rfl ?_
      refine g_mem (pc := 25) (by omega) (by omega) dX4_end_25 ?_
      refine g_aald (pc := 26) 2 3 at_mods rfl (by omega) (by decide) rfl dX4_end_26 ?_
      refine g_astore (pc := 27) (lv' := [(4, .ref (ad (7 + (σ 7 (12 * s + p)).toNat))), (0, .ref (ad (31 + s.toNat))), (1, .int (zI (mxP (fun p => photo σ (memb σ s p)) p.toNat))), (2, .int (zI (cpP (fun p => σ 5 (memb σ s p)) (fun p => photo σ (memb σ s p)) p.toNat))), (3, .int (zI p))]) dX4_end_27 (by decide) rfl ?_
      refine g_iload_n (pc := 29) dX4_end_29 2 rfl ?_
      refine g_aload (pc := 30) dX4_end_30 0 rfl ?_
      refine g_getN (pc := 32) (ci := 2) inG_X3 rfl 4 (by decide) rfl fl_X4_29 (7 + (σ 7 (12 * s + p)).toNat) (at_mod (i := (σ 7 (12 * s + p))) (by omega)) rfl dX4_end_32 ?_
      refine g_topI (hL _) ?_
      refine g_max (pc := 35) ma_max_X4_32 ma_max_s ma_i ma_max_c (Nat.le_of_ble_eq_true rfl) (Nat.le_of_ble_eq_true rfl) (by omega) (by omega) dX4_end_35 ?_
      refine g_istore_n (pc := 38) (lv' := [(1, .int (zI (max (mxP (fun p => photo σ (memb σ s p)) p.toNat) (photo σ (σ 7 (12 * s + p)))))), (4, .ref (ad (7 + (σ 7 (12 * s + p)).toNat))), (0, .ref (ad (31 + s.toNat))), (2, .int (zI (cpP (fun p => σ 5 (memb σ s p)) (fun p => photo σ (memb σ s p)) p.toNat))), (3, .int (zI p))]) dX4_end_38 (by decide) rfl ?_
      refine g_aload (pc := 39) dX4_end_39 1 rfl ?_
      refine g_getN (pc := 41) (ci := 2) inG_X3 rfl 6 (by decide) rfl fl_X4_38 (7 + (σ 7 (12 * s + p)).toNat) (at_mod (i := (σ 7 (12 * s + p))) (by omega)) rfl dX4_end_41 ?_
      refine g_if_ne (pc := 44) 57 dX4_end_44 (by decide) (by omega) (fun h_2 => ?_) (fun h_2 => ?_)
      · refine g_iinc (pc := 57) (lv' := [(3, .int (zI (p + 1))), (1, .int (zI (max (mxP (fun p => photo σ (memb σ s p)) p.toNat) (photo σ (σ 7 (12 * s + p)))))), (4, .ref (ad (7 + (σ 7 (12 * s + p)).toNat))), (0, .ref (ad (31 + s.toNat))), (2, .int (zI (cpP (fun p => σ 5 (memb σ s p)) (fun p => photo σ (memb σ s p)) p.toNat)))]) dX4_end_57 (by decide) 4 rfl rfl ?_
        refine g_goto (pc := 60) 8 dX4_end_60 (by decide) ?_
        refine g_sub (lv' := [(0, .ref (ad (31 + s.toNat))), (1, .int (zI (max (mxP (fun p => photo σ (memb σ s p)) p.toNat) (photo σ (σ 7 (12 * s + p)))))), (2, .int (zI (cpP (fun p => σ 5 (memb σ s p)) (fun p => photo σ (memb σ s p)) p.toNat))), (3, .int (zI (p + 1)))]) [3, 1, 4, 0] rfl ?_
        refine g_lv (lv' := [(0, .ref (ad (31 + s.toNat))), (1, .int (zI (mxP (fun p => photo σ (memb σ s p)) (p + 1).toNat))), (2, .int (zI (cpP (fun p => σ 5 (memb σ s p)) (fun p => photo σ (memb σ s p)) (p + 1).toNat))), (3, .int (zI (p + 1)))]) (by rw [mxP_s _ hp, cpP_s _ _ hp, if_neg (show ¬ σ 5 (memb σ s p) = 0 by unfold memb; omega)]; rfl) ?_
        exact ih (p + 1) (by omega) (by omega) (by omega)
      · refine g_iload_n (pc := 47) dX4_end_47 3 rfl ?_
        refine g_aload (pc := 48) dX4_end_48 1 rfl ?_
        refine g_getN (pc := 50) (ci := 2) inG_X3 rfl 4 (by decide) rfl fl_X4_29 (7 + (σ 7 (12 * s + p)).toNat) (at_mod (i := (σ 7 (12 * s + p))) (by omega)) rfl dX4_end_50 ?_
        refine g_topI (hL _) ?_
        refine g_min (pc := 53) ma_min_X4_42 ma_min_s ma_i ma_min_c (Nat.le_of_ble_eq_true rfl) (Nat.le_of_ble_eq_true rfl) (by omega) (by omega) dX4_end_53 ?_
        refine g_istore_n (pc := 56) (lv' := [(2, .int (zI (min (cpP (fun p => σ 5 (memb σ s p)) (fun p => photo σ (memb σ s p)) p.toNat) (photo σ (σ 7 (12 * s + p)))))), (1, .int (zI (max (mxP (fun p => photo σ (memb σ s p)) p.toNat) (photo σ (σ 7 (12 * s + p)))))), (4, .ref (ad (7 + (σ 7 (12 * s + p)).toNat))), (0, .ref (ad (31 + s.toNat))), (3, .int (zI p))]) dX4_end_56 (by decide) rfl ?_
        refine g_iinc (pc := 57) (lv' := [(3, .int (zI (p + 1))), (2, .int (zI (min (cpP (fun p => σ 5 (memb σ s p)) (fun p => photo σ (memb σ s p)) p.toNat) (photo σ (σ 7 (12 * s + p)))))), (1, .int (zI (max (mxP (fun p => photo σ (memb σ s p)) p.toNat) (photo σ (σ 7 (12 * s + p)))))), (4, .ref (ad (7 + (σ 7 (12 * s + p)).toNat))), (0, .ref (ad (31 + s.toNat)))]) dX4_end_57 (by decide) 4 rfl rfl ?_
        refine g_goto (pc := 60) 8 dX4_end_60 (by decide) ?_
        refine g_sub (lv' := [(0, .ref (ad (31 + s.toNat))), (1, .int (zI (max (mxP (fun p => photo σ (memb σ s p)) p.toNat) (photo σ (σ 7 (12 * s + p)))))), (2, .int (zI (min (cpP (fun p => σ 5 (memb σ s p)) (fun p => photo σ (memb σ s p)) p.toNat) (photo σ (σ 7 (12 * s + p)))))), (3, .int (zI (p + 1)))]) [4, 2, 1, 0] rfl ?_
        refine g_lv (lv' := [(0, .ref (ad (31 + s.toNat))), (1, .int (zI (mxP (fun p => photo σ (memb σ s p)) (p + 1).toNat))), (2, .int (zI (cpP (fun p => σ 5 (memb σ s p)) (fun p => photo σ (memb σ s p)) (p + 1).toNat))), (3, .int (zI (p + 1)))]) (by rw [mxP_s _ hp, cpP_s _ _ hp, if_pos (show σ 5 (memb σ s p) = 0 by unfold memb; omega)]; rfl) ?_
        exact ih (p + 1) (by omega) (by omega) (by omega)
set_option maxRecDepth 100000 in
set_option maxHeartbeats 2000000 in
/-- PvArray$PvString.end  -/
theorem c_X4_end {D : va_G} {cy : Nat → ClassId} {l : Launch} {ad : Nat → Nat} {σ : Nat → Int → Int} {X : va_W} (hB : Bd σ) (hL : LC σ) (s : Int) (hs : 0 ≤ s ∧ s < 6) : Con D cy l yX4_end cX4_end 5 (some .int) rm_X4_end [.ref (ad (31 + s.toNat))] (CW cy ad σ ++ X) (rdI (limit σ s) (CW cy ad σ ++ X)) := by
  refine Con.of (lv := [(0, .ref (ad (31 + s.toNat)))]) (by decide) (Nat.le_of_ble_eq_true rfl) rfl ?_
  have h1 := hB.b6 s
  refine g_iconst (pc := 0) dX4_end_0 ?_
  refine g_istore_n (pc := 1) (lv' := [(1, .int (zI 0)), (0, .ref (ad (31 + s.toNat)))]) dX4_end_1 (by decide) rfl ?_
  refine g_sipush (pc := 2) dX4_end_2 (by omega) ?_
  refine g_istore_n (pc := 5) (lv' := [(2, .int (zI 1200)), (1, .int (zI 0)), (0, .ref (ad (31 + s.toNat)))]) dX4_end_5 (by decide) rfl ?_
  refine g_iconst (pc := 6) dX4_end_6 ?_
  refine g_istore_n (pc := 7) (lv' := [(3, .int (zI 0)), (2, .int (zI 1200)), (1, .int (zI 0)), (0, .ref (ad (31 + s.toNat)))]) dX4_end_7 (by decide) rfl ?_
  refine g_sub (lv' := [(0, .ref (ad (31 + s.toNat))), (1, .int (zI 0)), (2, .int (zI 1200)), (3, .int (zI 0))]) [3, 2, 1, 0] rfl ?_
  exact lp_X4_end hB hL s hs ((σ 6 s).toNat + 1) 0 (by omega) (by omega) (by omega)
set_option maxRecDepth 100000 in
set_option maxHeartbeats 2000000 in
/-- PvArray$Curve.productAt  -/
theorem c_X0_productAt_mod {D : va_G} {cy : Nat → ClassId} {l : Launch} {ad : Nat → Nat} {σ : Nat → Int → Int} {X : va_W} (hB : Bd σ) (hL : LC σ) (i : Int) (hi : 0 ≤ i ∧ i < 24) (c : Int) (hc : 0 ≤ c ∧ c ≤ 7200) : Con D cy l yX0_productAt cX0_productAt 2 (some .long) rm_X0_productAt [.ref (ad (7 + i.toNat)), .int (zI c)] (CW cy ad σ ++ X) (rdJ (mpow σ i c) (CW cy ad σ ++ X)) := by
  refine Con.of (lv := [(0, .ref (ad (7 + i.toNat))), (1, .int (zI c))]) (by decide) (Nat.le_of_ble_eq_true rfl) rfl ?_
  have h1 := volt_b hB i hc.1
  refine g_iload_n (pc := 0) dX0_productAt_0 1 rfl ?_
  refine g_i2l (pc := 1) dX0_productAt_1 (by omega) ?_
  refine g_aload_n (pc := 2) dX0_productAt_2 0 rfl ?_
  refine g_iload_n (pc := 3) dX0_productAt_3 1 rfl ?_
  refine g_callU (pc := 4) (As := [.int (zI c)]) (rest := [.long (zJ c)]) k_X0_9_X3 (c_X3_valueAt (σ := σ) hB hL i (by omega) c (by omega)) ⟨rfl, rfl, Nat.le_of_ble_eq_true rfl, Nat.le_of_ble_eq_true rfl⟩ (7 + i.toNat) 2 rfl rfl (at_mod (i := i) (by omega)) rfl rfl (Nat.le_of_ble_eq_true rfl) dX0_productAt_4 (fun v_ w_ hq_ => ?_)
  obtain ⟨rfl, rfl⟩ := hq_
  refine g_one ?_
  refine g_i2l (pc := 7) dX0_productAt_7 (by omega) ?_
  refine g_lmul (pc := 8) dX0_productAt_8 ?_
  exact g_lret (pc := 9) dX0_productAt_9 rfl (rdJ_of rfl)
set_option maxRecDepth 100000 in
set_option maxHeartbeats 2000000 in
/-- PvArray$Curve.productAt  -/
theorem c_X0_productAt_str {D : va_G} {cy : Nat → ClassId} {l : Launch} {ad : Nat → Nat} {σ : Nat → Int → Int} {X : va_W} (hB : Bd σ) (hL : LC σ) (s : Int) (hs : 0 ≤ s ∧ s < 6) (c : Int) (hc : 0 ≤ c ∧ c ≤ 7200) : Con D cy l yX0_productAt cX0_productAt 2 (some .long) rm_X0_productAt [.ref (ad (31 + s.toNat)), .int (zI c)] (CW cy ad σ ++ X) (rdJ (spow σ s c) (CW cy ad σ ++ X)) := by
  refine Con.of (lv := [(0, .ref (ad (31 + s.toNat))), (1, .int (zI c))]) (by decide) (Nat.le_of_ble_eq_true rfl) rfl ?_
  have h1 := svolt_b hB s hc.1
  refine g_iload_n (pc := 0) dX0_productAt_0 1 rfl ?_
  refine g_i2l (pc := 1) dX0_productAt_1 (by omega) ?_
  refine g_aload_n (pc := 2) dX0_productAt_2 0 rfl ?_
  refine g_iload_n (pc := 3) dX0_productAt_3 1 rfl ?_
  refine g_callU (pc := 4) (As := [.int (zI c)]) (rest := [.long (zJ c)]) k_X0_9_X4 (c_X4_valueAt (σ := σ) hB hL s (by omega) c (by omega)) ⟨rfl, rfl, Nat.le_of_ble_eq_true rfl, Nat.le_of_ble_eq_true rfl⟩ (31 + s.toNat) 3 rfl rfl (at_str (s := s) (by omega)) rfl rfl (Nat.le_of_ble_eq_true rfl) dX0_productAt_4 (fun v_ w_ hq_ => ?_)
  obtain ⟨rfl, rfl⟩ := hq_
  refine g_one ?_
  refine g_i2l (pc := 7) dX0_productAt_7 (by omega) ?_
  refine g_lmul (pc := 8) dX0_productAt_8 ?_
  exact g_lret (pc := 9) dX0_productAt_9 rfl (rdJ_of rfl)
set_option maxRecDepth 100000 in
set_option maxHeartbeats 2000000 in
/-- PvArray$Curve.bestPoint, the loop at 58  -/
theorem lp_X0_best_mod {D : va_G} {cy : Nat → ClassId} {l : Launch} {ad : Nat → Nat} {σ : Nat → Int → Int} {X : va_W} (hB : Bd σ) (hL : LC σ) (i : Int) (hi : 0 ≤ i ∧ i < 24) : ∀ (n : Nat) (tb be pt : Int), BP (volt σ i) (photo σ i) tb be pt → ((photo σ i) + 1 - pt).toNat < n → GO D cy l rm_X0_bestPoint cX0_bestPoint 8 yX0_bestPoint.cls (some .int) (CW cy ad σ ++ X) (rdI (mbest σ i) (CW cy ad σ ++ X)) (CW cy ad σ ++ X) 58 [(0, .ref (ad (7 + i.toNat))), (1, .int (zI (photo σ i))), (2, .int (zI ((photo σ i) / 32 + 1))), (3, .long (zJ tb)), (5, .int (zI be)), (6, .int (zI pt))] [] := by
  intro n
  induction n with
  | zero =>
    intro tb be pt hbp hn
    exact absurd hn (Nat.not_lt_zero _)
  | succ n ih =>
    intro tb be pt hbp hn
    have n1 := photo_b hB i
    obtain ⟨b1, b2, b3, b4, b5, b6, -⟩ := id hbp
    refine g_iload (pc := 58) dX0_bestPoint_58 5 rfl ?_
    refine g_iload_n (pc := 60) dX0_bestPoint_60 1 rfl ?_
    refine g_icmp_gt (pc := 61) 125 dX0_bestPoint_61 (by decide) (by omega) (by omega) (fun h_1 => ?_) (fun h_1 => ?_)
    · refine g_iload (pc := 125) dX0_bestPoint_125 4 rfl ?_
      exact g_iret (pc := 127) dX0_bestPoint_127 rfl (rdI_of (IsBest.eq (f := mpow σ i) (photo_b hB i).1 (hbp.out (by omega))))
    · refine g_aload_n (pc := 64) dX0_bestPoint_64 0 rfl ?_
      refine g_iload (pc := 65) dX0_bestPoint_65 5 rfl ?_
      refine g_callU (pc := 67) (As := [.int (zI pt)]) (rest := []) k_X0_9_X3 (c_X3_valueAt (σ := σ) hB hL i (by omega) pt (by omega)) ⟨rfl, rfl, Nat.le_of_ble_eq_true rfl, Nat.le_of_ble_eq_true rfl⟩ (7 + i.toNat) 2 rfl rfl (at_mod (i := i) (by omega)) rfl rfl (Nat.le_of_ble_eq_true rfl) dX0_bestPoint_67 (fun v_ w_ hq_ => ?_)
      obtain ⟨rfl, rfl⟩ := hq_
      refine g_one ?_
      have v1 := volt_b hB i (c := pt) (by omega)
      have v2 : -1728000 ≤ pt * volt σ i pt ∧ pt * volt σ i pt ≤ 51840000 := mpow_b hB i (c := pt) (by omega)
      refine g_istore (pc := 70) (lv' := [(7, .int (zI (volt σ i pt))), (0, .ref (ad (7 + i.toNat))), (1, .int (zI (photo σ i))), (2, .int (zI ((photo σ i) / 32 + 1))), (3, .long (zJ tb)), (5, .int (zI be)), (6, .int (zI pt))]) dX0_bestPoint_70 (by decide) rfl ?_
      refine g_iload (pc := 72) dX0_bestPoint_72 0 rfl ?_
      refine g_if_gt (pc := 74) 80 dX0_bestPoint_74 (by decide) (by omega) (fun h_2 => ?_) (fun h_2 => ?_)
      · refine g_iload (pc := 80) dX0_bestPoint_80 6 rfl ?_
        refine g_i2l (pc := 82) dX0_bestPoint_82 (by omega) ?_
        refine g_iload (pc := 83) dX0_bestPoint_83 0 rfl ?_
        refine g_i2l (pc := 85) dX0_bestPoint_85 (by omega) ?_
        refine g_lmul (pc := 86) dX0_bestPoint_86 ?_
        refine g_lload_n (pc := 87) dX0_bestPoint_87 4 rfl ?_
        refine g_lcmp_le (pc := 88) 104 dX0_bestPoint_88 dX0_bestPoint_89 (by decide) (by omega) (by omega) (fun h_3 => ?_) (fun h_3 => ?_)
        · have v3 : 0 ≤ tb ∧ tb ≤ 52000000 := by first | omega | (have := hbp.nn (by omega); omega)
          have v4 := div_b v3 (show 0 < volt σ i pt by omega)
          refine g_iload (pc := 104) dX0_bestPoint_104 6 rfl ?_
          refine g_i2l (pc := 106) dX0_bestPoint_106 (by omega) ?_
          refine g_lconst (pc := 107) (z := 1) dX0_bestPoint_107 rfl ?_
          refine g_ladd (pc := 108) dX0_bestPoint_108 ?_
          refine g_lload_n (pc := 109) dX0_bestPoint_109 4 rfl ?_
          refine g_iload (pc := 110) dX0_bestPoint_110 0 rfl ?_
          refine g_i2l (pc := 112) dX0_bestPoint_112 (by omega) ?_
          refine g_ldiv (pc := 113) dX0_bestPoint_113 (by omega) (by omega) ?_
          refine g_lconst (pc := 114) (z := 1) dX0_bestPoint_114 rfl ?_
          refine g_ladd (pc := 115) dX0_bestPoint_115 ?_
          refine g_maxl (pc := 116) ma_maxl_X0_28 ma_maxl_s ma_i ma_maxl_c (Nat.le_of_ble_eq_true rfl) (Nat.le_of_ble_eq_true rfl) (by omega) (by omega) dX0_bestPoint_116 ?_
          refine g_l2i (pc := 119) dX0_bestPoint_119 ?_
          refine g_istore (pc := 120) (lv' := [(6, .int (zI (max (pt + 1) ((tb / (volt σ i pt)) + 1)))), (7, .int (zI (volt σ i pt))), (0, .ref (ad (7 + i.toNat))), (1, .int (zI (photo σ i))), (2, .int (zI ((photo σ i) / 32 + 1))), (3, .long (zJ tb)), (5, .int (zI be))]) dX0_bestPoint_120 (by decide) rfl ?_
          refine g_goto (pc := 122) 58 dX0_bestPoint_122 (by decide) ?_
          refine g_sub (lv' := [(0, .ref (ad (7 + i.toNat))), (1, .int (zI (photo σ i))), (2, .int (zI ((photo σ i) / 32 + 1))), (3, .long (zJ tb)), (5, .int (zI be)), (6, .int (zI (max (pt + 1) ((tb / (volt σ i pt)) + 1))))]) [2, 3, 4, 5, 6, 0] rfl ?_
          exact ih tb be (max (pt + 1) ((tb / (volt σ i pt)) + 1)) (hbp.no (volt_Mono hB i _) (by omega) (by omega) (by omega) (by omega)) (by omega)
        · refine g_iload (pc := 92) dX0_bestPoint_92 6 rfl ?_
          refine g_i2l (pc := 94) dX0_bestPoint_94 (by omega) ?_
          refine g_iload (pc := 95) dX0_bestPoint_95 0 rfl ?_
          refine g_i2l (pc := 97) dX0_bestPoint_97 (by omega) ?_
          refine g_lmul (pc := 98) dX0_bestPoint_98 ?_
          refine g_lstore_n (pc := 99) (lv' := [(3, .long (zJ (pt * (volt σ i pt)))), (7, .int (zI (volt σ i pt))), (0, .ref (ad (7 + i.toNat))), (1, .int (zI (photo σ i))), (2, .int (zI ((photo σ i) / 32 + 1))), (5, .int (zI be)), (6, .int (zI pt))]) dX0_bestPoint_99 (by decide) rfl ?_
          refine g_iload (pc := 100) dX0_bestPoint_100 6 rfl ?_
          refine g_istore (pc := 102) (lv' := [(5, .int (zI pt)), (3, .long (zJ (pt * (volt σ i pt)))), (7, .int (zI (volt σ i pt))), (0, .ref (ad (7 + i.toNat))), (1, .int (zI (photo σ i))), (2, .int (zI ((photo σ i) / 32 + 1))), (6, .int (zI pt))]) dX0_bestPoint_102 (by decide) rfl ?_
          have v3 : 0 ≤ (pt * (volt σ i pt)) ∧ (pt * (volt σ i pt)) ≤ 52000000 := by first | omega | (have := hbp.nn (by omega); omega)
          have v4 := div_b v3 (show 0 < volt σ i pt by omega)
          refine g_iload (pc := 104) dX0_bestPoint_104 6 rfl ?_
          refine g_i2l (pc := 106) dX0_bestPoint_106 (by omega) ?_
          refine g_lconst (pc := 107) (z := 1) dX0_bestPoint_107 rfl ?_
          refine g_ladd (pc := 108) dX0_bestPoint_108 ?_
          refine g_lload_n (pc := 109) dX0_bestPoint_109 1 rfl ?_
          refine g_iload (pc := 110) dX0_bestPoint_110 2 rfl ?_
          refine g_i2l (pc := 112) dX0_bestPoint_112 (by omega) ?_
          refine g_ldiv (pc := 113) dX0_bestPoint_113 (by omega) (by omega) ?_
          refine g_lconst (pc := 114) (z := 1) dX0_bestPoint_114 rfl ?_
          refine g_ladd (pc := 115) dX0_bestPoint_115 ?_
          refine g_maxl (pc := 116) ma_maxl_X0_28 ma_maxl_s ma_i ma_maxl_c (Nat.le_of_ble_eq_true rfl) (Nat.le_of_ble_eq_true rfl) (by omega) (by omega) dX0_bestPoint_116 ?_
          refine g_l2i (pc := 119) dX0_bestPoint_119 ?_
          refine g_istore (pc := 120) (lv' := [(6, .int (zI (max (pt + 1) (((pt * (volt σ i pt)) / (volt σ i pt)) + 1)))), (5, .int (zI pt)), (3, .long (zJ (pt * (volt σ i pt)))), (7, .int (zI (volt σ i pt))), (0, .ref (ad (7 + i.toNat))), (1, .int (zI (photo σ i))), (2, .int (zI ((photo σ i) / 32 + 1)))]) dX0_bestPoint_120 (by decide) rfl ?_
          refine g_goto (pc := 122) 58 dX0_bestPoint_122 (by decide) ?_
          refine g_sub (lv' := [(0, .ref (ad (7 + i.toNat))), (1, .int (zI (photo σ i))), (2, .int (zI ((photo σ i) / 32 + 1))), (3, .long (zJ (pt * (volt σ i pt)))), (5, .int (zI pt)), (6, .int (zI (max (pt + 1) (((pt * (volt σ i pt)) / (volt σ i pt)) + 1))))]) [4, 5, 6, 2, 1, 0] rfl ?_
          exact ih (pt * (volt σ i pt)) pt (max (pt + 1) (((pt * (volt σ i pt)) / (volt σ i pt)) + 1)) (hbp.yes (volt_Mono hB i _) (by omega) (by omega) (by omega) (by omega) (by omega)) (by omega)
      · refine g_goto (pc := 77) 125 dX0_bestPoint_77 (by decide) ?_
        refine g_iload (pc := 125) dX0_bestPoint_125 5 rfl ?_
        exact g_iret (pc := 127) dX0_bestPoint_127 rfl (rdI_of (IsBest.eq (f := mpow σ i) (photo_b hB i).1 (hbp.out0 (volt_Mono hB i _) (by omega) (by omega))))
set_option maxRecDepth 100000 in
set_option maxHeartbeats 2000000 in
/-- PvArray$Curve.bestPoint, the loop at 19  -/
theorem lp_X0_coarse_mod {D : va_G} {cy : Nat → ClassId} {l : Launch} {ad : Nat → Nat} {σ : Nat → Int → Int} {X : va_W} (hB : Bd σ) (hL : LC σ) (i : Int) (hi : 0 ≤ i ∧ i < 24) : ∀ (n : Nat) (tb co : Int), CR (volt σ i) (photo σ i) tb → 0 ≤ co → co ≤ 20000 → ((photo σ i) + 1 - co).toNat < n → GO D cy l rm_X0_bestPoint cX0_bestPoint 8 yX0_bestPoint.cls (some .int) (CW cy ad σ ++ X) (rdI (mbest σ i) (CW cy ad σ ++ X)) (CW cy ad σ ++ X) 19 [(0, .ref (ad (7 + i.toNat))), (1, .int (zI (photo σ i))), (2, .int (zI ((photo σ i) / 32 + 1))), (3, .long (zJ tb)), (5, .int (zI co))] [] := by
  intro n
  induction n with
  | zero =>
    intro tb co hcr hco hco2 hn
    exact absurd hn (Nat.not_lt_zero _)
  | succ n ih =>
    intro tb co hcr hco hco2 hn
    have n1 := photo_b hB i
    obtain ⟨b1, b2, -⟩ := id hcr
    refine g_iload (pc := 19) dX0_bestPoint_19 4 rfl ?_
    refine g_iload_n (pc := 21) dX0_bestPoint_21 1 rfl ?_
    refine g_icmp_gt (pc := 22) 52 dX0_bestPoint_22 (by decide) (by omega) (by omega) (fun h_1 => ?_) (fun h_1 => ?_)
    · refine g_iconst (pc := 52) dX0_bestPoint_52 ?_
      refine g_istore (pc := 53) (lv' := [(5, .int (zI 0)), (0, .ref (ad (7 + i.toNat))), (1, .int (zI (photo σ i))), (2, .int (zI ((photo σ i) / 32 + 1))), (3, .long (zJ tb))]) dX0_bestPoint_53 (by decide) rfl ?_
      refine g_iconst (pc := 55) dX0_bestPoint_55 ?_
      refine g_istore (pc := 56) (lv' := [(6, .int (zI 0)), (5, .int (zI 0)), (0, .ref (ad (7 + i.toNat))), (1, .int (zI (photo σ i))), (2, .int (zI ((photo σ i) / 32 + 1))), (3, .long (zJ tb))]) dX0_bestPoint_56 (by decide) rfl ?_
      refine g_sub (lv' := [(0, .ref (ad (7 + i.toNat))), (1, .int (zI (photo σ i))), (2, .int (zI ((photo σ i) / 32 + 1))), (3, .long (zJ tb)), (5, .int (zI 0)), (6, .int (zI 0))]) [2, 3, 4, 5, 1, 0] rfl ?_
      exact lp_X0_best_mod hB hL i hi (((photo σ i) + 1).toNat + 1) tb 0 0 (BP.init n1.1 hcr) (by omega)
    · have v1 := volt_b hB i (c := co) (by omega)
      have v2 : -1728000 ≤ co * volt σ i co ∧ co * volt σ i co ≤ 51840000 := mpow_b hB i (c := co) (by omega)
      refine g_lload_n (pc := 25) dX0_bestPoint_25 3 rfl ?_
      refine g_iload (pc := 26) dX0_bestPoint_26 4 rfl ?_
      refine g_i2l (pc := 28) dX0_bestPoint_28 (by omega) ?_
      refine g_aload_n (pc := 29) dX0_bestPoint_29 0 rfl ?_
      refine g_iload (pc := 30) dX0_bestPoint_30 4 rfl ?_
      refine g_callU (pc := 32) (As := [.int (zI co)]) (rest := [.long (zJ co), .long (zJ tb)]) k_X0_9_X3 (c_X3_valueAt (σ := σ) hB hL i (by omega) co (by omega)) ⟨rfl, rfl, Nat.le_of_ble_eq_true rfl, Nat.le_of_ble_eq_true rfl⟩ (7 + i.toNat) 2 rfl rfl (at_mod (i := i) (by omega)) rfl rfl (Nat.le_of_ble_eq_true rfl) dX0_bestPoint_32 (fun v_ w_ hq_ => ?_)
      obtain ⟨rfl, rfl⟩ := hq_
      refine g_one ?_
      refine g_i2l (pc := 35) dX0_bestPoint_35 (by omega) ?_
      refine g_lmul (pc := 36) dX0_bestPoint_36 ?_
      refine g_lconst (pc := 37) (z := 1) dX0_bestPoint_37 rfl ?_
      refine g_lsub (pc := 38) dX0_bestPoint_38 ?_
      refine g_maxl (pc := 39) ma_maxl_X0_28 ma_maxl_s ma_i ma_maxl_c (Nat.le_of_ble_eq_true rfl) (Nat.le_of_ble_eq_true rfl) (by omega) (by omega) dX0_bestPoint_39 ?_
      refine g_lstore_n (pc := 42) (lv' := [(3, .long (zJ (max tb ((co * (volt σ i co)) - 1)))), (0, .ref (ad (7 + i.toNat))), (1, .int (zI (photo σ i))), (2, .int (zI ((photo σ i) / 32 + 1))), (5, .int (zI co))]) dX0_bestPoint_42 (by decide) rfl ?_
      refine g_iload (pc := 43) dX0_bestPoint_43 4 rfl ?_
      refine g_iload_n (pc := 45) dX0_bestPoint_45 3 rfl ?_
      refine g_iadd (pc := 46) dX0_bestPoint_46 ?_
      refine g_istore (pc := 47) (lv' := [(5, .int (zI (co + ((photo σ i) / 32 + 1)))), (3, .long (zJ (max tb ((co * (volt σ i co)) - 1)))), (0, .ref (ad (7 + i.toNat))), (1, .int (zI (photo σ i))), (2, .int (zI ((photo σ i) / 32 + 1)))]) dX0_bestPoint_47 (by decide) rfl ?_
      refine g_goto (pc := 49) 19 dX0_bestPoint_49 (by decide) ?_
      refine g_sub (lv' := [(0, .ref (ad (7 + i.toNat))), (1, .int (zI (photo σ i))), (2, .int (zI ((photo σ i) / 32 + 1))), (3, .long (zJ (max tb ((co * (volt σ i co)) - 1)))), (5, .int (zI (co + ((photo σ i) / 32 + 1))))]) [2, 3, 4, 1, 0] rfl ?_
      exact ih (max tb ((co * (volt σ i co)) - 1)) (co + ((photo σ i) / 32 + 1)) (hcr.step ⟨by omega, by omega⟩ (by omega)) (by omega) (by omega) (by omega)
set_option maxRecDepth 100000 in
set_option maxHeartbeats 2000000 in
/-- PvArray$Curve.bestPoint  -/
theorem c_X0_bestPoint_mod {D : va_G} {cy : Nat → ClassId} {l : Launch} {ad : Nat → Nat} {σ : Nat → Int → Int} {X : va_W} (hB : Bd σ) (hL : LC σ) (i : Int) (hi : 0 ≤ i ∧ i < 24) : Con D cy l yX0_bestPoint cX0_bestPoint 8 (some .int) rm_X0_bestPoint [.ref (ad (7 + i.toNat))] (CW cy ad σ ++ X) (rdI (mbest σ i) (CW cy ad σ ++ X)) := by
  refine Con.of (lv := [(0, .ref (ad (7 + i.toNat)))]) (by decide) (Nat.le_of_ble_eq_true rfl) rfl ?_
  have n1 := photo_b hB i
  refine g_aload_n (pc := 0) dX0_bestPoint_0 0 rfl ?_
  refine g_callU (pc := 1) (As := []) (rest := []) k_X0_23_X3 (c_X3_end (σ := σ) hL i (by omega)) ⟨rfl, rfl, Nat.le_of_ble_eq_true rfl, Nat.le_of_ble_eq_true rfl⟩ (7 + i.toNat) 2 rfl rfl (at_mod (i := i) (by omega)) rfl rfl (Nat.le_of_ble_eq_true rfl) dX0_bestPoint_1 (fun v_ w_ hq_ => ?_)
  obtain ⟨rfl, rfl⟩ := hq_
  refine g_one ?_
  refine g_istore_n (pc := 4) (lv' := [(1, .int (zI (photo σ i))), (0, .ref (ad (7 + i.toNat)))]) dX0_bestPoint_4 (by decide) rfl ?_
  refine g_iload_n (pc := 5) dX0_bestPoint_5 0 rfl ?_
  refine g_bipush (pc := 6) dX0_bestPoint_6 (by omega) ?_
  refine g_idiv (pc := 8) dX0_bestPoint_8 (by omega) (by omega) ?_
  refine g_iconst (pc := 9) dX0_bestPoint_9 ?_
  refine g_iadd (pc := 10) dX0_bestPoint_10 ?_
  refine g_istore_n (pc := 11) (lv' := [(2, .int (zI (((photo σ i) / 32) + 1))), (1, .int (zI (photo σ i))), (0, .ref (ad (7 + i.toNat)))]) dX0_bestPoint_11 (by decide) rfl ?_
  refine g_ldc2 (pc := 12) cl_X0_26 dX0_bestPoint_12 ?_
  refine g_lstore_n (pc := 15) (lv' := [(3, .long (zJ (-1))), (2, .int (zI (((photo σ i) / 32) + 1))), (1, .int (zI (photo σ i))), (0, .ref (ad (7 + i.toNat)))]) dX0_bestPoint_15 (by decide) rfl ?_
  refine g_iconst (pc := 16) dX0_bestPoint_16 ?_
  refine g_istore (pc := 17) (lv' := [(5, .int (zI 0)), (3, .long (zJ (-1))), (2, .int (zI (((photo σ i) / 32) + 1))), (1, .int (zI (photo σ i))), (0, .ref (ad (7 + i.toNat)))]) dX0_bestPoint_17 (by decide) rfl ?_
  refine g_sub (lv' := [(0, .ref (ad (7 + i.toNat))), (1, .int (zI (photo σ i))), (2, .int (zI (((photo σ i) / 32) + 1))), (3, .long (zJ (-1))), (5, .int (zI 0))]) [4, 3, 2, 1, 0] rfl ?_
  exact lp_X0_coarse_mod hB hL i hi (((photo σ i) + 1).toNat + 1) (-1) 0 (CR.zero n1.1) (by omega) (by omega) (by omega)
set_option maxRecDepth 100000 in
set_option maxHeartbeats 2000000 in
/-- PvArray$Curve.greatestProduct  -/
theorem c_X0_greatestProduct_mod {D : va_G} {cy : Nat → ClassId} {l : Launch} {ad : Nat → Nat} {σ : Nat → Int → Int} {X : va_W} (hB : Bd σ) (hL : LC σ) (i : Int) (hi : 0 ≤ i ∧ i < 24) : Con D cy l yX0_greatestProduct cX0_greatestProduct 1 (some .long) rm_X0_greatestProduct [.ref (ad (7 + i.toNat))] (CW cy ad σ ++ X) (rdJ (mpeak σ i) (CW cy ad σ ++ X)) := by
  refine Con.of (lv := [(0, .ref (ad (7 + i.toNat)))]) (by decide) (Nat.le_of_ble_eq_true rfl) rfl ?_
  have n1 := photo_b hB i
  have n2 : 0 ≤ mbest σ i ∧ mbest σ i ≤ photo σ i := bestTo_b _ n1.1
  refine g_aload_n (pc := 0) dX0_greatestProduct_0 0 rfl ?_
  refine g_aload_n (pc := 1) dX0_greatestProduct_1 0 rfl ?_
  refine g_callU (pc := 2) (As := []) (rest := [.ref (ad (7 + i.toNat))]) k_X0_15_X3 (c_X0_bestPoint_mod (σ := σ) hB hL i (by omega)) ⟨rfl, rfl, Nat.le_of_ble_eq_true rfl, Nat.le_of_ble_eq_true rfl⟩ (7 + i.toNat) 2 rfl rfl (at_mod (i := i) (by omega)) rfl rfl (Nat.le_of_ble_eq_true rfl) dX0_greatestProduct_2 (fun v_ w_ hq_ => ?_)
  obtain ⟨rfl, rfl⟩ := hq_
  refine g_one ?_
  refine g_callU (pc := 5) (As := [.int (zI (mbest σ i))]) (rest := []) k_X0_19_X3 (c_X0_productAt_mod (σ := σ) hB hL i (by omega) (mbest σ i) (by omega)) ⟨rfl, rfl, Nat.le_of_ble_eq_true rfl, Nat.le_of_ble_eq_true rfl⟩ (7 + i.toNat) 2 rfl rfl (at_mod (i := i) (by omega)) rfl rfl (Nat.le_of_ble_eq_true rfl) dX0_greatestProduct_5 (fun v_ w_ hq_ => ?_)
  obtain ⟨rfl, rfl⟩ := hq_
  refine g_one ?_
  exact g_lret (pc := 8) dX0_greatestProduct_8 rfl (rdJ_of rfl)
set_option maxRecDepth 100000 in
set_option maxHeartbeats 2000000 in
/-- PvArray$Curve.bestPoint, the loop at 58  -/
theorem lp_X0_best_str {D : va_G} {cy : Nat → ClassId} {l : Launch} {ad : Nat → Nat} {σ : Nat → Int → Int} {X : va_W} (hB : Bd σ) (hL : LC σ) (s : Int) (hs : 0 ≤ s ∧ s < 6) : ∀ (n : Nat) (tb be pt : Int), BP (svolt σ s) (limit σ s) tb be pt → ((limit σ s) + 1 - pt).toNat < n → GO D cy l rm_X0_bestPoint cX0_bestPoint 8 yX0_bestPoint.cls (some .int) (CW cy ad σ ++ X) (rdI (bestC σ s) (CW cy ad σ ++ X)) (CW cy ad σ ++ X) 58 [(0, .ref (ad (31 + s.toNat))), (1, .int (zI (limit σ s))), (2, .int (zI ((limit σ s) / 32 + 1))), (3, .long (zJ tb)), (5, .int (zI be)), (6, .int (zI pt))] [] := by
  intro n
  induction n with
  | zero =>
    intro tb be pt hbp hn
    exact absurd hn (Nat.not_lt_zero _)
  | succ n ih =>
    intro tb be pt hbp hn
    have n1 := limit_b hB s
    obtain ⟨b1, b2, b3, b4, b5, b6, -⟩ := id hbp
    refine g_iload (pc := 58) dX0_bestPoint_58 5 rfl ?_
    refine g_iload_n (pc := 60) dX0_bestPoint_60 1 rfl ?_
    refine g_icmp_gt (pc := 61) 125 dX0_bestPoint_61 (by decide) (by omega) (by omega) (fun h_1 => ?_) (fun h_1 => ?_)
    · refine g_iload (pc := 125) dX0_bestPoint_125 4 rfl ?_
      exact g_iret (pc := 127) dX0_bestPoint_127 rfl (rdI_of (IsBest.eq (f := spow σ s) (limit_b hB s).1 (hbp.out (by omega))))
    · refine g_aload_n (pc := 64) dX0_bestPoint_64 0 rfl ?_
      refine g_iload (pc := 65) dX0_bestPoint_65 5 rfl ?_
      refine g_callU (pc := 67) (As := [.int (zI pt)]) (rest := []) k_X0_9_X4 (c_X4_valueAt (σ := σ) hB hL s (by omega) pt (by omega)) ⟨rfl, rfl, Nat.le_of_ble_eq_true rfl, Nat.le_of_ble_eq_true rfl⟩ (31 + s.toNat) 3 rfl rfl (at_str (s := s) (by omega)) rfl rfl (Nat.le_of_ble_eq_true rfl) dX0_bestPoint_67 (fun v_ w_ hq_ => ?_)
      obtain ⟨rfl, rfl⟩ := hq_
      refine g_one ?_
      have v1 := svolt_b hB s (c := pt) (by omega)
      have v2 : -1728000 ≤ pt * svolt σ s pt ∧ pt * svolt σ s pt ≤ 51840000 := spow_b2 hB s (c := pt) (by omega)
      refine g_istore (pc := 70) (lv' := [(7, .int (zI (svolt σ s pt))), (0, .ref (ad (31 + s.toNat))), (1, .int (zI (limit σ s))), (2, .int (zI ((limit σ s) / 32 + 1))), (3, .long (zJ tb)), (5, .int (zI be)), (6, .int (zI pt))]) dX0_bestPoint_70 (by decide) rfl ?_
      refine g_iload (pc := 72) dX0_bestPoint_72 0 rfl ?_
      refine g_if_gt (pc := 74) 80 dX0_bestPoint_74 (by decide) (by omega) (fun h_2 => ?_) (fun h_2 => ?_)
      · refine g_iload (pc := 80) dX0_bestPoint_80 6 rfl ?_
        refine g_i2l (pc := 82) dX0_bestPoint_82 (by omega) ?_
        refine g_iload (pc := 83) dX0_bestPoint_83 0 rfl ?_
        refine g_i2l (pc := 85) dX0_bestPoint_85 (by omega) ?_
        refine g_lmul (pc := 86) dX0_bestPoint_86 ?_
        refine g_lload_n (pc := 87) dX0_bestPoint_87 4 rfl ?_
        refine g_lcmp_le (pc := 88) 104 dX0_bestPoint_88 dX0_bestPoint_89 (by decide) (by omega) (by omega) (fun h_3 => ?_) (fun h_3 => ?_)
        · have v3 : 0 ≤ tb ∧ tb ≤ 52000000 := by first | omega | (have := hbp.nn (by omega); omega)
          have v4 := div_b v3 (show 0 < svolt σ s pt by omega)
          refine g_iload (pc := 104) dX0_bestPoint_104 6 rfl ?_
          refine g_i2l (pc := 106) dX0_bestPoint_106 (by omega) ?_
          refine g_lconst (pc := 107) (z := 1) dX0_bestPoint_107 rfl ?_
          refine g_ladd (pc := 108) dX0_bestPoint_108 ?_
          refine g_lload_n (pc := 109) dX0_bestPoint_109 4 rfl ?_
          refine g_iload (pc := 110) dX0_bestPoint_110 0 rfl ?_
          refine g_i2l (pc := 112) dX0_bestPoint_112 (by omega) ?_
          refine g_ldiv (pc := 113) dX0_bestPoint_113 (by omega) (by omega) ?_
          refine g_lconst (pc := 114) (z := 1) dX0_bestPoint_114 rfl ?_
          refine g_ladd (pc := 115) dX0_bestPoint_115 ?_
          refine g_maxl (pc := 116) ma_maxl_X0_28 ma_maxl_s ma_i ma_maxl_c (Nat.le_of_ble_eq_true rfl) (Nat.le_of_ble_eq_true rfl) (by omega) (by omega) dX0_bestPoint_116 ?_
          refine g_l2i (pc := 119) dX0_bestPoint_119 ?_
          refine g_istore (pc := 120) (lv' := [(6, .int (zI (max (pt + 1) ((tb / (svolt σ s pt)) + 1)))), (7, .int (zI (svolt σ s pt))), (0, .ref (ad (31 + s.toNat))), (1, .int (zI (limit σ s))), (2, .int (zI ((limit σ s) / 32 + 1))), (3, .long (zJ tb)), (5, .int (zI be))]) dX0_bestPoint_120 (by decide) rfl ?_
          refine g_goto (pc := 122) 58 dX0_bestPoint_122 (by decide) ?_
          refine g_sub (lv' := [(0, .ref (ad (31 + s.toNat))), (1, .int (zI (limit σ s))), (2, .int (zI ((limit σ s) / 32 + 1))), (3, .long (zJ tb)), (5, .int (zI be)), (6, .int (zI (max (pt + 1) ((tb / (svolt σ s pt)) + 1))))]) [2, 3, 4, 5, 6, 0] rfl ?_
          exact ih tb be (max (pt + 1) ((tb / (svolt σ s pt)) + 1)) (hbp.no (svolt_Mono hB s _) (by omega) (by omega) (by omega) (by omega)) (by omega)
        · refine g_iload (pc := 92) dX0_bestPoint_92 6 rfl ?_
          refine g_i2l (pc := 94) dX0_bestPoint_94 (by omega) ?_
          refine g_iload (pc := 95) dX0_bestPoint_95 0 rfl ?_
          refine g_i2l (pc := 97) dX0_bestPoint_97 (by omega) ?_
          refine g_lmul (pc := 98) dX0_bestPoint_98 ?_
          refine g_lstore_n (pc := 99) (lv' := [(3, .long (zJ (pt * (svolt σ s pt)))), (7, .int (zI (svolt σ s pt))), (0, .ref (ad (31 + s.toNat))), (1, .int (zI (limit σ s))), (2, .int (zI ((limit σ s) / 32 + 1))), (5, .int (zI be)), (6, .int (zI pt))]) dX0_bestPoint_99 (by decide) rfl ?_
          refine g_iload (pc := 100) dX0_bestPoint_100 6 rfl ?_
          refine g_istore (pc := 102) (lv' := [(5, .int (zI pt)), (3, .long (zJ (pt * (svolt σ s pt)))), (7, .int (zI (svolt σ s pt))), (0, .ref (ad (31 + s.toNat))), (1, .int (zI (limit σ s))), (2, .int (zI ((limit σ s) / 32 + 1))), (6, .int (zI pt))]) dX0_bestPoint_102 (by decide) rfl ?_
          have v3 : 0 ≤ (pt * (svolt σ s pt)) ∧ (pt * (svolt σ s pt)) ≤ 52000000 := by first | omega | (have := hbp.nn (by omega); omega)
          have v4 := div_b v3 (show 0 < svolt σ s pt by omega)
          refine g_iload (pc := 104) dX0_bestPoint_104 6 rfl ?_
          refine g_i2l (pc := 106) dX0_bestPoint_106 (by omega) ?_
          refine g_lconst (pc := 107) (z := 1) dX0_bestPoint_107 rfl ?_
          refine g_ladd (pc := 108) dX0_bestPoint_108 ?_
          refine g_lload_n (pc := 109) dX0_bestPoint_109 1 rfl ?_
          refine g_iload (pc := 110) dX0_bestPoint_110 2 rfl ?_
          refine g_i2l (pc := 112) dX0_bestPoint_112 (by omega) ?_
          refine g_ldiv (pc := 113) dX0_bestPoint_113 (by omega) (by omega) ?_
          refine g_lconst (pc := 114) (z := 1) dX0_bestPoint_114 rfl ?_
          refine g_ladd (pc := 115) dX0_bestPoint_115 ?_
          refine g_maxl (pc := 116) ma_maxl_X0_28 ma_maxl_s ma_i ma_maxl_c (Nat.le_of_ble_eq_true rfl) (Nat.le_of_ble_eq_true rfl) (by omega) (by omega) dX0_bestPoint_116 ?_
          refine g_l2i (pc := 119) dX0_bestPoint_119 ?_
          refine g_istore (pc := 120) (lv' := [(6, .int (zI (max (pt + 1) (((pt * (svolt σ s pt)) / (svolt σ s pt)) + 1)))), (5, .int (zI pt)), (3, .long (zJ (pt * (svolt σ s pt)))), (7, .int (zI (svolt σ s pt))), (0, .ref (ad (31 + s.toNat))), (1, .int (zI (limit σ s))), (2, .int (zI ((limit σ s) / 32 + 1)))]) dX0_bestPoint_120 (by decide) rfl ?_
          refine g_goto (pc := 122) 58 dX0_bestPoint_122 (by decide) ?_
          refine g_sub (lv' := [(0, .ref (ad (31 + s.toNat))), (1, .int (zI (limit σ s))), (2, .int (zI ((limit σ s) / 32 + 1))), (3, .long (zJ (pt * (svolt σ s pt)))), (5, .int (zI pt)), (6, .int (zI (max (pt + 1) (((pt * (svolt σ s pt)) / (svolt σ s pt)) + 1))))]) [4, 5, 6, 2, 1, 0] rfl ?_
          exact ih (pt * (svolt σ s pt)) pt (max (pt + 1) (((pt * (svolt σ s pt)) / (svolt σ s pt)) + 1)) (hbp.yes (svolt_Mono hB s _) (by omega) (by omega) (by omega) (by omega) (by omega)) (by omega)
      · refine g_goto (pc := 77) 125 dX0_bestPoint_77 (by decide) ?_
        refine g_iload (pc := 125) dX0_bestPoint_125 5 rfl ?_
        exact g_iret (pc := 127) dX0_bestPoint_127 rfl (rdI_of (IsBest.eq (f := spow σ s) (limit_b hB s).1 (hbp.out0 (svolt_Mono hB s _) (by omega) (by omega))))
set_option maxRecDepth 100000 in
set_option maxHeartbeats 2000000 in
/-- PvArray$Curve.bestPoint, the loop at 19  -/
theorem lp_X0_coarse_str {D : va_G} {cy : Nat → ClassId} {l : Launch} {ad : Nat → Nat} {σ : Nat → Int → Int} {X : va_W} (hB : Bd σ) (hL : LC σ) (s : Int) (hs : 0 ≤ s ∧ s < 6) : ∀ (n : Nat) (tb co : Int), CR (svolt σ s) (limit σ s) tb → 0 ≤ co → co ≤ 20000 → ((limit σ s) + 1 - co).toNat < n → GO D cy l rm_X0_bestPoint cX0_bestPoint 8 yX0_bestPoint.cls (some .int) (CW cy ad σ ++ X) (rdI (bestC σ s) (CW cy ad σ ++ X)) (CW cy ad σ ++ X) 19 [(0, .ref (ad (31 + s.toNat))), (1, .int (zI (limit σ s))), (2, .int (zI ((limit σ s) / 32 + 1))), (3, .long (zJ tb)), (5, .int (zI co))] [] := by
  intro n
  induction n with
  | zero =>
    intro tb co hcr hco hco2 hn
    exact absurd hn (Nat.not_lt_zero _)
  | succ n ih =>
    intro tb co hcr hco hco2 hn
    have n1 := limit_b hB s
    obtain ⟨b1, b2, -⟩ := id hcr
    refine g_iload (pc := 19) dX0_bestPoint_19 4 rfl ?_
    refine g_iload_n (pc := 21) dX0_bestPoint_21 1 rfl ?_
    refine g_icmp_gt (pc := 22) 52 dX0_bestPoint_22 (by decide) (by omega) (by omega) (fun h_1 => ?_) (fun h_1 => ?_)
    · refine g_iconst (pc := 52) dX0_bestPoint_52 ?_
      refine g_istore (pc := 53) (lv' := [(5, .int (zI 0)), (0, .ref (ad (31 + s.toNat))), (1, .int (zI (limit σ s))), (2, .int (zI ((limit σ s) / 32 + 1))), (3, .long (zJ tb))]) dX0_bestPoint_53 (by decide) rfl ?_
      refine g_iconst (pc := 55) dX0_bestPoint_55 ?_
      refine g_istore (pc := 56) (lv' := [(6, .int (zI 0)), (5, .int (zI 0)), (0, .ref (ad (31 + s.toNat))), (1, .int (zI (limit σ s))), (2, .int (zI ((limit σ s) / 32 + 1))), (3, .long (zJ tb))]) dX0_bestPoint_56 (by decide) rfl ?_
      refine g_sub (lv' := [(0, .ref (ad (31 + s.toNat))), (1, .int (zI (limit σ s))), (2, .int (zI ((limit σ s) / 32 + 1))), (3, .long (zJ tb)), (5, .int (zI 0)), (6, .int (zI 0))]) [2, 3, 4, 5, 1, 0] rfl ?_
      exact lp_X0_best_str hB hL s hs (((limit σ s) + 1).toNat + 1) tb 0 0 (BP.init n1.1 hcr) (by omega)
    · have v1 := svolt_b hB s (c := co) (by omega)
      have v2 : -1728000 ≤ co * svolt σ s co ∧ co * svolt σ s co ≤ 51840000 := spow_b2 hB s (c := co) (by omega)
      refine g_lload_n (pc := 25) dX0_bestPoint_25 3 rfl ?_
      refine g_iload (pc := 26) dX0_bestPoint_26 4 rfl ?_
      refine g_i2l (pc := 28) dX0_bestPoint_28 (by omega) ?_
      refine g_aload_n (pc := 29) dX0_bestPoint_29 0 rfl ?_
      refine g_iload (pc := 30) dX0_bestPoint_30 4 rfl ?_
      refine g_callU (pc := 32) (As := [.int (zI co)]) (rest := [.long (zJ co), .long (zJ tb)]) k_X0_9_X4 (c_X4_valueAt (σ := σ) hB hL s (by omega) co (by omega)) ⟨rfl, rfl, Nat.le_of_ble_eq_true rfl, Nat.le_of_ble_eq_true rfl⟩ (31 + s.toNat) 3 rfl rfl (at_str (s := s) (by omega)) rfl rfl (Nat.le_of_ble_eq_true rfl) dX0_bestPoint_32 (fun v_ w_ hq_ => ?_)
      obtain ⟨rfl, rfl⟩ := hq_
      refine g_one ?_
      refine g_i2l (pc := 35) dX0_bestPoint_35 (by omega) ?_
      refine g_lmul (pc := 36) dX0_bestPoint_36 ?_
      refine g_lconst (pc := 37) (z := 1) dX0_bestPoint_37 rfl ?_
      refine g_lsub (pc := 38) dX0_bestPoint_38 ?_
      refine g_maxl (pc := 39) ma_maxl_X0_28 ma_maxl_s ma_i ma_maxl_c (Nat.le_of_ble_eq_true rfl) (Nat.le_of_ble_eq_true rfl) (by omega) (by omega) dX0_bestPoint_39 ?_
      refine g_lstore_n (pc := 42) (lv' := [(3, .long (zJ (max tb ((co * (svolt σ s co)) - 1)))), (0, .ref (ad (31 + s.toNat))), (1, .int (zI (limit σ s))), (2, .int (zI ((limit σ s) / 32 + 1))), (5, .int (zI co))]) dX0_bestPoint_42 (by decide) rfl ?_
      refine g_iload (pc := 43) dX0_bestPoint_43 4 rfl ?_
      refine g_iload_n (pc := 45) dX0_bestPoint_45 3 rfl ?_
      refine g_iadd (pc := 46) dX0_bestPoint_46 ?_
      refine g_istore (pc := 47) (lv' := [(5, .int (zI (co + ((limit σ s) / 32 + 1)))), (3, .long (zJ (max tb ((co * (svolt σ s co)) - 1)))), (0, .ref (ad (31 + s.toNat))), (1, .int (zI (limit σ s))), (2, .int (zI ((limit σ s) / 32 + 1)))]) dX0_bestPoint_47 (by decide) rfl ?_
      refine g_goto (pc := 49) 19 dX0_bestPoint_49 (by decide) ?_
      refine g_sub (lv' := [(0, .ref (ad (31 + s.toNat))), (1, .int (zI (limit σ s))), (2, .int (zI ((limit σ s) / 32 + 1))), (3, .long (zJ (max tb ((co * (svolt σ s co)) - 1)))), (5, .int (zI (co + ((limit σ s) / 32 + 1))))]) [2, 3, 4, 1, 0] rfl ?_
      exact ih (max tb ((co * (svolt σ s co)) - 1)) (co + ((limit σ s) / 32 + 1)) (hcr.step ⟨by omega, by omega⟩ (by omega)) (by omega) (by omega) (by omega)
set_option maxRecDepth 100000 in
set_option maxHeartbeats 2000000 in
/-- PvArray$Curve.bestPoint  -/
theorem c_X0_bestPoint_str {D : va_G} {cy : Nat → ClassId} {l : Launch} {ad : Nat → Nat} {σ : Nat → Int → Int} {X : va_W} (hB : Bd σ) (hL : LC σ) (s : Int) (hs : 0 ≤ s ∧ s < 6) : Con D cy l yX0_bestPoint cX0_bestPoint 8 (some .int) rm_X0_bestPoint [.ref (ad (31 + s.toNat))] (CW cy ad σ ++ X) (rdI (bestC σ s) (CW cy ad σ ++ X)) := by
  refine Con.of (lv := [(0, .ref (ad (31 + s.toNat)))]) (by decide) (Nat.le_of_ble_eq_true rfl) rfl ?_
  have n1 := limit_b hB s
  refine g_aload_n (pc := 0) dX0_bestPoint_0 0 rfl ?_
  refine g_callU (pc := 1) (As := []) (rest := []) k_X0_23_X4 (c_X4_end (σ := σ) hB hL s (by omega)) ⟨rfl, rfl, Nat.le_of_ble_eq_true rfl, Nat.le_of_ble_eq_true rfl⟩ (31 + s.toNat) 3 rfl rfl (at_str (s := s) (by omega)) rfl rfl (Nat.le_of_ble_eq_true rfl) dX0_bestPoint_1 (fun v_ w_ hq_ => ?_)
  obtain ⟨rfl, rfl⟩ := hq_
  refine g_one ?_
  refine g_istore_n (pc := 4) (lv' := [(1, .int (zI (limit σ s))), (0, .ref (ad (31 + s.toNat)))]) dX0_bestPoint_4 (by decide) rfl ?_
  refine g_iload_n (pc := 5) dX0_bestPoint_5 0 rfl ?_
  refine g_bipush (pc := 6) dX0_bestPoint_6 (by omega) ?_
  refine g_idiv (pc := 8) dX0_bestPoint_8 (by omega) (by omega) ?_
  refine g_iconst (pc := 9) dX0_bestPoint_9 ?_
  refine g_iadd (pc := 10) dX0_bestPoint_10 ?_
  refine g_istore_n (pc := 11) (lv' := [(2, .int (zI (((limit σ s) / 32) + 1))), (1, .int (zI (limit σ s))), (0, .ref (ad (31 + s.toNat)))]) dX0_bestPoint_11 (by decide) rfl ?_
  refine g_ldc2 (pc := 12) cl_X0_26 dX0_bestPoint_12 ?_
  refine g_lstore_n (pc := 15) (lv' := [(3, .long (zJ (-1))), (2, .int (zI (((limit σ s) / 32) + 1))), (1, .int (zI (limit σ s))), (0, .ref (ad (31 + s.toNat)))]) dX0_bestPoint_15 (by decide) rfl ?_
  refine g_iconst (pc := 16) dX0_bestPoint_16 ?_
  refine g_istore (pc := 17) (lv' := [(5, .int (zI 0)), (3, .long (zJ (-1))), (2, .int (zI (((limit σ s) / 32) + 1))), (1, .int (zI (limit σ s))), (0, .ref (ad (31 + s.toNat)))]) dX0_bestPoint_17 (by decide) rfl ?_
  refine g_sub (lv' := [(0, .ref (ad (31 + s.toNat))), (1, .int (zI (limit σ s))), (2, .int (zI (((limit σ s) / 32) + 1))), (3, .long (zJ (-1))), (5, .int (zI 0))]) [4, 3, 2, 1, 0] rfl ?_
  exact lp_X0_coarse_str hB hL s hs (((limit σ s) + 1).toNat + 1) (-1) 0 (CR.zero n1.1) (by omega) (by omega) (by omega)
set_option maxRecDepth 100000 in
set_option maxHeartbeats 2000000 in
/-- PvArray$Curve.greatestProduct  -/
theorem c_X0_greatestProduct_str {D : va_G} {cy : Nat → ClassId} {l : Launch} {ad : Nat → Nat} {σ : Nat → Int → Int} {X : va_W} (hB : Bd σ) (hL : LC σ) (s : Int) (hs : 0 ≤ s ∧ s < 6) : Con D cy l yX0_greatestProduct cX0_greatestProduct 1 (some .long) rm_X0_greatestProduct [.ref (ad (31 + s.toNat))] (CW cy ad σ ++ X) (rdJ (bestP σ s) (CW cy ad σ ++ X)) := by
  refine Con.of (lv := [(0, .ref (ad (31 + s.toNat)))]) (by decide) (Nat.le_of_ble_eq_true rfl) rfl ?_
  have n1 := limit_b hB s
  have n2 : 0 ≤ bestC σ s ∧ bestC σ s ≤ limit σ s := bestTo_b _ n1.1
  refine g_aload_n (pc := 0) dX0_greatestProduct_0 0 rfl ?_
  refine g_aload_n (pc := 1) dX0_greatestProduct_1 0 rfl ?_
  refine g_callU (pc := 2) (As := []) (rest := [.ref (ad (31 + s.toNat))]) k_X0_15_X4 (c_X0_bestPoint_str (σ := σ) hB hL s (by omega)) ⟨rfl, rfl, Nat.le_of_ble_eq_true rfl, Nat.le_of_ble_eq_true rfl⟩ (31 + s.toNat) 3 rfl rfl (at_str (s := s) (by omega)) rfl rfl (Nat.le_of_ble_eq_true rfl) dX0_greatestProduct_2 (fun v_ w_ hq_ => ?_)
  obtain ⟨rfl, rfl⟩ := hq_
  refine g_one ?_
  refine g_callU (pc := 5) (As := [.int (zI (bestC σ s))]) (rest := []) k_X0_19_X4 (c_X0_productAt_str (σ := σ) hB hL s (by omega) (bestC σ s) (by omega)) ⟨rfl, rfl, Nat.le_of_ble_eq_true rfl, Nat.le_of_ble_eq_true rfl⟩ (31 + s.toNat) 3 rfl rfl (at_str (s := s) (by omega)) rfl rfl (Nat.le_of_ble_eq_true rfl) dX0_greatestProduct_5 (fun v_ w_ hq_ => ?_)
  obtain ⟨rfl, rfl⟩ := hq_
  refine g_one ?_
  exact g_lret (pc := 8) dX0_greatestProduct_8 rfl (rdJ_of rfl)
end
section
set_option maxRecDepth 100000 in
set_option maxHeartbeats 2000000 in
/-- PvArray$PvString.bypassedAt, the loop at 4  -/
theorem lp_X4_bypassedAt {D : va_G} {cy : Nat → ClassId} {l : Launch} {ad : Nat → Nat} {σ : Nat → Int → Int} {X : va_W} (hB : Bd σ) (hL : LC σ) (s : Int) (hs : 0 ≤ s ∧ s < 6) (c : Int) (hc : 0 ≤ c ∧ c ≤ 10000) : ∀ (n : Nat) (p : Int), 0 ≤ p → p ≤ σ 6 s → (σ 6 s - p).toNat < n → GO D cy l rm_X4_bypassedAt cX4_bypassedAt 4 yX4_bypassedAt.cls (some .int) (CW cy ad σ ++ X) (fun v w' => v = some (.int (byp σ s c)) ∧ w' = CW cy ad σ ++ X) (CW cy ad σ ++ X) 4 [(0, .ref (ad (31 + s.toNat))), (1, .int (zI c)), (2, .int (bitP (fun p => decide (photo σ (memb σ s p) < c)) p.toNat)), (3, .int (zI p))] [] := by
  intro n
  induction n with
  | zero =>
    intro p hp hp2 hn
    exact absurd hn (Nat.not_lt_zero _)
  | succ n ih =>
    intro p hp hp2 hn
    have h1 := hB.b6 s
    have h2 := hB.b7 (12 * s + p)
    have h5 := photo_b hB (σ 7 (12 * s + p))
    refine g_iload_n (pc := 4) dX4_bypassedAt_4 3 rfl ?_
    refine g_aload_n (pc := 5) dX4_bypassedAt_5 0 rfl ?_
    refine g_get (pc := 6) (ci := 3) inG_X4 rfl 2 (by decide) rfl fl_X4_15 (31 + s.toNat) (at_str (s := s) (by omega)) rfl dX4_bypassedAt_6 ?_
    refine g_icmp_ge (pc := 9) 42 dX4_bypassedAt_9 (by decide) (by omega) (by omega) (fun h_1 => ?_) (fun h_1 => ?_)
    · refine g_iload_n (pc := 42) dX4_bypassedAt_42 2 rfl ?_
      exact g_iret (pc := 43) dX4_bypassedAt_43 rfl (⟨by unfold byp; rw [show p = σ 6 s by omega], rfl⟩)
    · refine g_iload_n (pc := 12) dX4_bypassedAt_12 1 rfl ?_
      refine g_aload_n (pc := 13) dX4_bypassedAt_13 0 rfl ?_
      refine g_get (pc := 14) (ci := 3) inG_X4 rfl 0 (by decide) rfl fl_X4_19 (31 + s.toNat) (at_str (s := s) (by omega)) rfl dX4_bypassedAt_14 ?_
      refine g_aload_n (pc := 17) dX4_bypassedAt_17 0 rfl ?_
      refine g_get (pc := 18) (ci := 3) inG_X4 rfl 1 (by decide) rfl fl_X4_9 (31 + s.toNat) (at_str (s := s) (by omega)) rfl dX4_bypassedAt_18 ?_
      refine g_iload_n (pc := 21) dX4_bypassedAt_21 3 rfl ?_
      refine g_mem (pc := 22) (by omega) (by omega) dX4_bypassedAt_22 ?_
      refine g_aald (pc := 23) 2 3 at_mods rfl (by omega) (by decide) rfl dX4_bypassedAt_23 ?_
      refine g_getN (pc := 24) (ci := 2) inG_X3 rfl 4 (by decide) rfl fl_X4_29 (7 + (σ 7 (12 * s + p)).toNat) (at_mod (i := (σ 7 (12 * s + p))) (by omega)) rfl dX4_bypassedAt_24 ?_
      refine g_topI (hL _) ?_
      refine g_icmp_le (pc := 27) 36 dX4_bypassedAt_27 (by decide) (by omega) (by omega) (fun h_2 => ?_) (fun h_2 => ?_)
      · refine g_iinc (pc := 36) (lv' := [(3, .int (zI (p + 1))), (0, .ref (ad (31 + s.toNat))), (1, .int (zI c)), (2, .int (bitP (fun p => decide (photo σ (memb σ s p) < c)) p.toNat))]) dX4_bypassedAt_36 (by decide) 3 rfl rfl ?_
        refine g_goto (pc := 39) 4 dX4_bypassedAt_39 (by decide) ?_
        refine g_sub (lv' := [(0, .ref (ad (31 + s.toNat))), (1, .int (zI c)), (2, .int (bitP (fun p => decide (photo σ (memb σ s p) < c)) p.toNat)), (3, .int (zI (p + 1)))]) [1, 2, 3, 0] rfl ?_
        refine g_lv (lv' := [(0, .ref (ad (31 + s.toNat))), (1, .int (zI c)), (2, .int (bitP (fun p => decide (photo σ (memb σ s p) < c)) (p + 1).toNat)), (3, .int (zI (p + 1)))]) (by rw [bitP_s _ hp, if_neg (show ¬ (fun p => decide (photo σ (memb σ s p) < c)) p = true by simp only [decide_eq_true_eq]; unfold memb; omega)]) ?_
        exact ih (p + 1) (by omega) (by omega) (by omega)
      · refine g_iload_n (pc := 30) dX4_bypassedAt_30 2 rfl ?_
        refine g_iconst (pc := 31) dX4_bypassedAt_31 ?_
        refine g_iload_n (pc := 32) dX4_bypassedAt_32 3 rfl ?_
        refine g_ishl (pc := 33) dX4_bypassedAt_33 ?_
        refine g_ior (pc := 34) dX4_bypassedAt_34 ?_
        refine g_istore_n (pc := 35) (lv' := [(2, .int ((bitP (fun p => decide (photo σ (memb σ s p) < c)) p.toNat) ||| ((zI 1) <<< ((zI p) &&& 31)))), (0, .ref (ad (31 + s.toNat))), (1, .int (zI c)), (3, .int (zI p))]) dX4_bypassedAt_35 (by decide) rfl ?_
        refine g_iinc (pc := 36) (lv' := [(3, .int (zI (p + 1))), (2, .int ((bitP (fun p => decide (photo σ (memb σ s p) < c)) p.toNat) ||| ((zI 1) <<< ((zI p) &&& 31)))), (0, .ref (ad (31 + s.toNat))), (1, .int (zI c))]) dX4_bypassedAt_36 (by decide) 3 rfl rfl ?_
        refine g_goto (pc := 39) 4 dX4_bypassedAt_39 (by decide) ?_
        refine g_sub (lv' := [(0, .ref (ad (31 + s.toNat))), (1, .int (zI c)), (2, .int ((bitP (fun p => decide (photo σ (memb σ s p) < c)) p.toNat) ||| ((zI 1) <<< ((zI p) &&& 31)))), (3, .int (zI (p + 1)))]) [2, 3, 1, 0] rfl ?_
        refine g_lv (lv' := [(0, .ref (ad (31 + s.toNat))), (1, .int (zI c)), (2, .int (bitP (fun p => decide (photo σ (memb σ s p) < c)) (p + 1).toNat)), (3, .int (zI (p + 1)))]) (by rw [bitP_s _ hp, if_pos (show (fun p => decide (photo σ (memb σ s p) < c)) p = true by simp only [decide_eq_true_eq]; unfold memb; omega)]) ?_
        exact ih (p + 1) (by omega) (by omega) (by omega)
set_option maxRecDepth 100000 in
set_option maxHeartbeats 2000000 in
/-- PvArray$PvString.bypassedAt  -/
theorem c_X4_bypassedAt {D : va_G} {cy : Nat → ClassId} {l : Launch} {ad : Nat → Nat} {σ : Nat → Int → Int} {X : va_W} (hB : Bd σ) (hL : LC σ) (s : Int) (hs : 0 ≤ s ∧ s < 6) (c : Int) (hc : 0 ≤ c ∧ c ≤ 10000) : Con D cy l yX4_bypassedAt cX4_bypassedAt 4 (some .int) rm_X4_bypassedAt [.ref (ad (31 + s.toNat)), .int (zI c)] (CW cy ad σ ++ X) (fun v w' => v = some (.int (byp σ s c)) ∧ w' = CW cy ad σ ++ X) := by
  refine Con.of (lv := [(0, .ref (ad (31 + s.toNat))), (1, .int (zI c))]) (by decide) (Nat.le_of_ble_eq_true rfl) rfl ?_
  have h1 := hB.b6 s
  refine g_iconst (pc := 0) dX4_bypassedAt_0 ?_
  refine g_istore_n (pc := 1) (lv' := [(2, .int (zI 0)), (0, .ref (ad (31 + s.toNat))), (1, .int (zI c))]) dX4_bypassedAt_1 (by decide) rfl ?_
  refine g_iconst (pc := 2) dX4_bypassedAt_2 ?_
  refine g_istore_n (pc := 3) (lv' := [(3, .int (zI 0)), (2, .int (zI 0)), (0, .ref (ad (31 + s.toNat))), (1, .int (zI c))]) dX4_bypassedAt_3 (by decide) rfl ?_
  refine g_sub (lv' := [(0, .ref (ad (31 + s.toNat))), (1, .int (zI c)), (2, .int (zI 0)), (3, .int (zI 0))]) [2, 3, 1, 0] rfl ?_
  exact lp_X4_bypassedAt hB hL s hs c hc ((σ 6 s).toNat + 1) 0 (by omega) (by omega) (by omega)
set_option maxRecDepth 100000 in
set_option maxHeartbeats 2000000 in
/-- PvArray$PvString.isPeak  -/
theorem c_X4_isPeak {D : va_G} {cy : Nat → ClassId} {l : Launch} {ad : Nat → Nat} {σ : Nat → Int → Int} {X : va_W} (hB : Bd σ) (hL : LC σ) (s : Int) (hs : 0 ≤ s ∧ s < 6) (i : Int) (hi : 1 ≤ i ∧ i ≤ limit σ s) : Con D cy l yX4_isPeak cX4_isPeak 5 (some .boolean) rm_X4_isPeak [.ref (ad (31 + s.toNat)), .int (zI i), .int (zI (limit σ s))] (CW cy ad σ ++ X) (rdB (isPk (spow σ s) (limit σ s) i) (CW cy ad σ ++ X)) := by
  refine Con.of (lv := [(0, .ref (ad (31 + s.toNat))), (1, .int (zI i)), (2, .int (zI (limit σ s)))]) (by decide) (Nat.le_of_ble_eq_true rfl) rfl ?_
  have h0 := limit_b hB s
  have h1 := spow_b2 hB s (c := i) (by omega)
  have h2 := spow_b2 hB s (c := i - 1) (by omega)
  have h3 := spow_b2 hB s (c := i + 1) (by omega)
  refine g_aload_n (pc := 0) dX4_isPeak_0 0 rfl ?_
  refine g_iload_n (pc := 1) dX4_isPeak_1 1 rfl ?_
  refine g_callU (pc := 2) (As := [.int (zI i)]) (rest := []) k_X4_45_X4 (c_X0_productAt_str (σ := σ) hB hL s (by omega) i (by omega)) ⟨rfl, rfl, Nat.le_of_ble_eq_true rfl, Nat.le_of_ble_eq_true rfl⟩ (31 + s.toNat) 3 rfl rfl (at_str (s := s) (by omega)) rfl rfl (Nat.le_of_ble_eq_true rfl) dX4_isPeak_2 (fun v_ w_ hq_ => ?_)
  obtain ⟨rfl, rfl⟩ := hq_
  refine g_one ?_
  refine g_lstore_n (pc := 5) (lv' := [(3, .long (zJ (spow σ s i))), (0, .ref (ad (31 + s.toNat))), (1, .int (zI i)), (2, .int (zI (limit σ s)))]) dX4_isPeak_5 (by decide) rfl ?_
  refine g_lload_n (pc := 6) dX4_isPeak_6 0 rfl ?_
  refine g_aload_n (pc := 7) dX4_isPeak_7 1 rfl ?_
  refine g_iload_n (pc := 8) dX4_isPeak_8 2 rfl ?_
  refine g_iconst (pc := 9) dX4_isPeak_9 ?_
  refine g_isub (pc := 10) dX4_isPeak_10 ?_
  refine g_callU (pc := 11) (As := [.int (zI (i - 1))]) (rest := [.long (zJ (spow σ s i))]) k_X4_45_X4 (c_X0_productAt_str (σ := σ) hB hL s (by omega) (i - 1) (by omega)) ⟨rfl, rfl, Nat.le_of_ble_eq_true rfl, Nat.le_of_ble_eq_true rfl⟩ (31 + s.toNat) 3 rfl rfl (at_str (s := s) (by omega)) rfl rfl (Nat.le_of_ble_eq_true rfl) dX4_isPeak_11 (fun v_ w_ hq_ => ?_)
  obtain ⟨rfl, rfl⟩ := hq_
  refine g_one ?_
  refine g_lcmp_le (pc := 14) 39 dX4_isPeak_14 dX4_isPeak_15 (by decide) (by omega) (by omega) (fun h_1 => ?_) (fun h_1 => ?_)
  · refine g_iconst (pc := 39) dX4_isPeak_39 ?_
    exact g_zret (pc := 40) dX4_isPeak_40 rfl rfl (rdB_0 (by intro q; obtain ⟨q1, q2⟩ := q; omega))
  · refine g_iload_n (pc := 18) dX4_isPeak_18 2 rfl ?_
    refine g_iload_n (pc := 19) dX4_isPeak_19 3 rfl ?_
    refine g_icmp_eq (pc := 20) 35 dX4_isPeak_20 (by decide) (by omega) (by omega) (fun h_2 => ?_) (fun h_2 => ?_)
    · refine g_iconst (pc := 35) dX4_isPeak_35 ?_
      refine g_goto (pc := 36) 40 dX4_isPeak_36 (by decide) ?_
      exact g_zret (pc := 40) dX4_isPeak_40 rfl rfl (rdB_1 ⟨by omega, by omega⟩)
    · refine g_lload_n (pc := 23) dX4_isPeak_23 0 rfl ?_
      refine g_aload_n (pc := 24) dX4_isPeak_24 1 rfl ?_
      refine g_iload_n (pc := 25) dX4_isPeak_25 2 rfl ?_
      refine g_iconst (pc := 26) dX4_isPeak_26 ?_
      refine g_iadd (pc := 27) dX4_isPeak_27 ?_
      refine g_callU (pc := 28) (As := [.int (zI (i + 1))]) (rest := [.long (zJ (spow σ s i))]) k_X4_45_X4 (c_X0_productAt_str (σ := σ) hB hL s (by omega) (i + 1) (by omega)) ⟨rfl, rfl, Nat.le_of_ble_eq_true rfl, Nat.le_of_ble_eq_true rfl⟩ (31 + s.toNat) 3 rfl rfl (at_str (s := s) (by omega)) rfl rfl (Nat.le_of_ble_eq_true rfl) dX4_isPeak_28 (fun v_ w_ hq_ => ?_)
      obtain ⟨rfl, rfl⟩ := hq_
      refine g_one ?_
      refine g_lcmp_le (pc := 31) 39 dX4_isPeak_31 dX4_isPeak_32 (by decide) (by omega) (by omega) (fun h_3 => ?_) (fun h_3 => ?_)
      · refine g_iconst (pc := 39) dX4_isPeak_39 ?_
        exact g_zret (pc := 40) dX4_isPeak_40 rfl rfl (rdB_0 (by intro q; obtain ⟨q1, q2⟩ := q; omega))
      · refine g_iconst (pc := 35) dX4_isPeak_35 ?_
        refine g_goto (pc := 36) 40 dX4_isPeak_36 (by decide) ?_
        exact g_zret (pc := 40) dX4_isPeak_40 rfl rfl (rdB_1 ⟨by omega, by omega⟩)
theorem scanT_b (f : Int → Int) {v : Int} (hv : 0 ≤ v) : ∀ (k : Nat) {B : Int}, 0 ≤ B → (∀ j : Nat, j < k → (j : Int) * v ≤ B) → 0 ≤ scanT f v k ∧ scanT f v k ≤ B
  | 0, B, hB, _ => ⟨Int.le_refl _, hB⟩
  | k + 1, B, hB, h => by
    have h1 := scanT_b f hv k hB (fun j hj => h j (by omega))
    have h2 := h k (by omega)
    have h3 : 0 ≤ (k : Int) * v := Int.mul_nonneg (by omega) hv
    unfold scanT
    split
    · exact ⟨h3, h2⟩
    · exact h1
theorem scan_end {k : Nat} {N v : Int} (hN : 0 ≤ N) (hv : 1 ≤ v) (h1 : N < (k : Int) * v) (h2 : (k : Int) * v ≤ N + v) : k = (N / v + 1).toNat := by
  have e1 : N / v * v ≤ N := Int.ediv_mul_le N (by omega)
  have e2 : N < (N / v + 1) * v := Int.lt_ediv_add_one_mul_self N (by omega)
  have a1 : (k : Int) ≤ N / v + 1 := by
    by_cases q : (k : Int) ≤ N / v + 1
    · exact q
    · have : (N / v + 2) * v ≤ (k : Int) * v := Int.mul_le_mul_of_nonneg_right (by omega) (by omega)
      rw [Int.add_mul] at this e2
      omega
  have a2 : N / v + 1 ≤ (k : Int) := by
    by_cases q : N / v + 1 ≤ (k : Int)
    · exact q
    · have : (k : Int) * v ≤ (N / v) * v := Int.mul_le_mul_of_nonneg_right (by omega) (by omega)
      omega
  omega
theorem scan_b (f : Int → Int) {N v : Int} (hN : 0 ≤ N) (hv : 1 ≤ v) : 0 ≤ scan f N v ∧ scan f N v ≤ N := by
  unfold scan
  refine scanT_b f (by omega) _ hN (fun j hj => ?_)
  have e1 : N / v * v ≤ N := Int.ediv_mul_le N (by omega)
  have e3 : 0 ≤ N / v := Int.ediv_nonneg hN (by omega)
  have : (j : Int) * v ≤ (N / v) * v := Int.mul_le_mul_of_nonneg_right (by omega) (by omega)
  omega
theorem mul_lt_mono {j k : Nat} {v : Int} (h : j < k) (hv : 0 ≤ v) : (j : Int) * v + v ≤ (k : Int) * v := by
  have : ((j : Int) + 1) * v ≤ (k : Int) * v := Int.mul_le_mul_of_nonneg_right (by omega) hv
  rw [Int.add_mul, Int.one_mul] at this
  exact this
set_option maxRecDepth 100000 in
set_option maxHeartbeats 2000000 in
/-- PvArray$PvString.bestOfScan, the loop at 13  -/
theorem lp_X4_bestOfScan {D : va_G} {cy : Nat → ClassId} {l : Launch} {ad : Nat → Nat} {σ : Nat → Int → Int} {X : va_W} (hB : Bd σ) (hL : LC σ) (s : Int) (hs : 0 ≤ s ∧ s < 6) (v : Int) (hv : 1 ≤ v ∧ v ≤ 500) : ∀ (n : Nat) (k : Nat), (k : Int) * v ≤ limit σ s + v → (limit σ s + v + 1 - (k : Int) * v).toNat < n → GO D cy l rm_X4_bestOfScan cX4_bestOfScan 9 yX4_bestOfScan.cls (some .int) (CW cy ad σ ++ X) (rdI (scan (spow σ s) (limit σ s) v) (CW cy ad σ ++ X)) (CW cy ad σ ++ X) 13 [(0, .ref (ad (31 + s.toNat))), (1, .int (zI v)), (2, .int (zI (limit σ s))), (3, .int (zI (scanT (spow σ s) v k))), (4, .long (zJ (spow σ s (scanT (spow σ s) v k)))), (6, .int (zI ((k : Int) * v)))] [] := by
  intro n
  induction n with
  | zero =>
    intro k hk hn
    exact absurd hn (Nat.not_lt_zero _)
  | succ n ih =>
    intro k hk hn
    have h0 := limit_b hB s
    have hk0 : 0 ≤ (k : Int) * v := Int.mul_nonneg (by omega) (by omega)
    have hsb := scanT_b (spow σ s) (v := v) (by omega) k (B := limit σ s) h0.1 (fun j hj => by have := mul_lt_mono (v := v) hj (by omega); omega)
    have h1 := spow_b2 hB s (c := scanT (spow σ s) v k) (by omega)
    refine g_iload (pc := 13) dX4_bestOfScan_13 5 rfl ?_
    refine g_iload_n (pc := 15) dX4_bestOfScan_15 2 rfl ?_
    refine g_icmp_gt (pc := 16) 55 dX4_bestOfScan_16 (by decide) (by omega) (by omega) (fun h_1 => ?_) (fun h_1 => ?_)
    · refine g_iload_n (pc := 55) dX4_bestOfScan_55 3 rfl ?_
      exact g_iret (pc := 56) dX4_bestOfScan_56 rfl (rdI_of (by unfold scan; rw [← scan_end h0.1 hv.1 (by omega) hk]))
    · have h2 := spow_b2 hB s (c := (k : Int) * v) (by omega)
      refine g_aload_n (pc := 19) dX4_bestOfScan_19 0 rfl ?_
      refine g_iload (pc := 20) dX4_bestOfScan_20 5 rfl ?_
      refine g_callU (pc := 22) (As := [.int (zI ((k : Int) * v))]) (rest := []) k_X4_45_X4 (c_X0_productAt_str (σ := σ) hB hL s (by omega) ((k : Int) * v) (by omega)) ⟨rfl, rfl, Nat.le_of_ble_eq_true rfl, Nat.le_of_ble_eq_true rfl⟩ (31 + s.toNat) 3 rfl rfl (at_str (s := s) (by omega)) rfl rfl (Nat.le_of_ble_eq_true rfl) dX4_bestOfScan_22 (fun v_ w_ hq_ => ?_)
      obtain ⟨rfl, rfl⟩ := hq_
      refine g_one ?_
      refine g_lstore (pc := 25) (lv' := [(7, .long (zJ (spow σ s ((k : Int) * v)))), (0, .ref (ad (31 + s.toNat))), (1, .int (zI v)), (2, .int (zI (limit σ s))), (3, .int (zI (scanT (spow σ s) v k))), (4, .long (zJ (spow σ s (scanT (spow σ s) v k)))), (6, .int (zI ((k : Int) * v)))]) dX4_bestOfScan_25 (by decide) rfl ?_
      refine g_lload (pc := 27) dX4_bestOfScan_27 0 rfl ?_
      refine g_lload (pc := 29) dX4_bestOfScan_29 5 rfl ?_
      refine g_lcmp_le (pc := 31) 42 dX4_bestOfScan_31 dX4_bestOfScan_32 (by decide) (by omega) (by omega) (fun h_2 => ?_) (fun h_2 => ?_)
      · refine g_iload (pc := 42) dX4_bestOfScan_42 6 rfl ?_
        refine g_iload_n (pc := 44) dX4_bestOfScan_44 2 rfl ?_
        refine g_iconst (pc := 45) dX4_bestOfScan_45 ?_
        refine g_max (pc := 46) ma_max_X4_32 ma_max_s ma_i ma_max_c (Nat.le_of_ble_eq_true rfl) (Nat.le_of_ble_eq_true rfl) (by omega) (by omega) dX4_bestOfScan_46 ?_
        refine g_iadd (pc := 49) dX4_bestOfScan_49 ?_
        refine g_istore (pc := 50) (lv' := [(6, .int (zI (((k : Int) * v) + (max v 1)))), (7, .long (zJ (spow σ s ((k : Int) * v)))), (0, .ref (ad (31 + s.toNat))), (1, .int (zI v)), (2, .int (zI (limit σ s))), (3, .int (zI (scanT (spow σ s) v k))), (4, .long (zJ (spow σ s (scanT (spow σ s) v k))))]) dX4_bestOfScan_50 (by decide) rfl ?_
        refine g_goto (pc := 52) 13 dX4_bestOfScan_52 (by decide) ?_
        refine g_sub (lv' := [(0, .ref (ad (31 + s.toNat))), (1, .int (zI v)), (2, .int (zI (limit σ s))), (3, .int (zI (scanT (spow σ s) v k))), (4, .long (zJ (spow σ s (scanT (spow σ s) v k)))), (6, .int (zI (((k : Int) * v) + (max v 1))))]) [2, 3, 4, 5, 6, 0] rfl ?_
        refine g_lv (lv' := [(0, .ref (ad (31 + s.toNat))), (1, .int (zI v)), (2, .int (zI (limit σ s))), (3, .int (zI (scanT (spow σ s) v (k + 1)))), (4, .long (zJ (spow σ s (scanT (spow σ s) v (k + 1))))), (6, .int (zI (((k + 1 : Nat) : Int) * v)))]) (by rw [scanT, if_neg (by omega)]; rw [show max v 1 = v by omega, show ((k + 1 : Nat) : Int) * v = (k : Int) * v + v by rw [show ((k + 1 : Nat) : Int) = (k : Int) + 1 by omega, Int.add_mul, Int.one_mul]]) ?_
        exact ih (k + 1) (by rw [show ((k + 1 : Nat) : Int) * v = (k : Int) * v + v by rw [show ((k + 1 : Nat) : Int) = (k : Int) + 1 by omega, Int.add_mul, Int.one_mul]]; omega) (by rw [show ((k + 1 : Nat) : Int) * v = (k : Int) * v + v by rw [show ((k + 1 : Nat) : Int) = (k : Int) + 1 by omega, Int.add_mul, Int.one_mul]]; omega)
      · refine g_lload (pc := 35) dX4_bestOfScan_35 0 rfl ?_
        refine g_lstore (pc := 37) (lv' := [(4, .long (zJ (spow σ s ((k : Int) * v)))), (7, .long (zJ (spow σ s ((k : Int) * v)))), (0, .ref (ad (31 + s.toNat))), (1, .int (zI v)), (2, .int (zI (limit σ s))), (3, .int (zI (scanT (spow σ s) v k))), (6, .int (zI ((k : Int) * v)))]) dX4_bestOfScan_37 (by decide) rfl ?_
        refine g_iload (pc := 39) dX4_bestOfScan_39 6 rfl ?_
        refine g_istore_n (pc := 41) (lv' := [(3, .int (zI ((k : Int) * v))), (4, .long (zJ (spow σ s ((k : Int) * v)))), (7, .long (zJ (spow σ s ((k : Int) * v)))), (0, .ref (ad (31 + s.toNat))), (1, .int (zI v)), (2, .int (zI (limit σ s))), (6, .int (zI ((k : Int) * v)))]) dX4_bestOfScan_41 (by decide) rfl ?_
        refine g_iload (pc := 42) dX4_bestOfScan_42 6 rfl ?_
        refine g_iload_n (pc := 44) dX4_bestOfScan_44 4 rfl ?_
        refine g_iconst (pc := 45) dX4_bestOfScan_45 ?_
        refine g_max (pc := 46) ma_max_X4_32 ma_max_s ma_i ma_max_c (Nat.le_of_ble_eq_true rfl) (Nat.le_of_ble_eq_true rfl) (by omega) (by omega) dX4_bestOfScan_46 ?_
        refine g_iadd (pc := 49) dX4_bestOfScan_49 ?_
        refine g_istore (pc := 50) (lv' := [(6, .int (zI (((k : Int) * v) + (max v 1)))), (3, .int (zI ((k : Int) * v))), (4, .long (zJ (spow σ s ((k : Int) * v)))), (7, .long (zJ (spow σ s ((k : Int) * v)))), (0, .ref (ad (31 + s.toNat))), (1, .int (zI v)), (2, .int (zI (limit σ s)))]) dX4_bestOfScan_50 (by decide) rfl ?_
        refine g_goto (pc := 52) 13 dX4_bestOfScan_52 (by decide) ?_
        refine g_sub (lv' := [(0, .ref (ad (31 + s.toNat))), (1, .int (zI v)), (2, .int (zI (limit σ s))), (3, .int (zI ((k : Int) * v))), (4, .long (zJ (spow σ s ((k : Int) * v)))), (6, .int (zI (((k : Int) * v) + (max v 1))))]) [4, 5, 6, 1, 2, 0] rfl ?_
        refine g_lv (lv' := [(0, .ref (ad (31 + s.toNat))), (1, .int (zI v)), (2, .int (zI (limit σ s))), (3, .int (zI (scanT (spow σ s) v (k + 1)))), (4, .long (zJ (spow σ s (scanT (spow σ s) v (k + 1))))), (6, .int (zI (((k + 1 : Nat) : Int) * v)))]) (by rw [scanT, if_pos (by omega)]; rw [show max v 1 = v by omega, show ((k + 1 : Nat) : Int) * v = (k : Int) * v + v by rw [show ((k + 1 : Nat) : Int) = (k : Int) + 1 by omega, Int.add_mul, Int.one_mul]]) ?_
        exact ih (k + 1) (by rw [show ((k + 1 : Nat) : Int) * v = (k : Int) * v + v by rw [show ((k + 1 : Nat) : Int) = (k : Int) + 1 by omega, Int.add_mul, Int.one_mul]]; omega) (by rw [show ((k + 1 : Nat) : Int) * v = (k : Int) * v + v by rw [show ((k + 1 : Nat) : Int) = (k : Int) + 1 by omega, Int.add_mul, Int.one_mul]]; omega)
set_option maxRecDepth 100000 in
set_option maxHeartbeats 2000000 in
/-- PvArray$PvString.bestOfScan  -/
theorem c_X4_bestOfScan {D : va_G} {cy : Nat → ClassId} {l : Launch} {ad : Nat → Nat} {σ : Nat → Int → Int} {X : va_W} (hB : Bd σ) (hL : LC σ) (s : Int) (hs : 0 ≤ s ∧ s < 6) (v : Int) (hv : 1 ≤ v ∧ v ≤ 500) : Con D cy l yX4_bestOfScan cX4_bestOfScan 9 (some .int) rm_X4_bestOfScan [.ref (ad (31 + s.toNat)), .int (zI v)] (CW cy ad σ ++ X) (rdI (scan (spow σ s) (limit σ s) v) (CW cy ad σ ++ X)) := by
  refine Con.of (lv := [(0, .ref (ad (31 + s.toNat))), (1, .int (zI v))]) (by decide) (Nat.le_of_ble_eq_true rfl) rfl ?_
  have h0 := limit_b hB s
  refine g_aload_n (pc := 0) dX4_bestOfScan_0 0 rfl ?_
  refine g_callV (pc := 1) (As := []) (rest := []) k_X4_49_X4 (c_X4_end (σ := σ) hB hL s (by omega)) ⟨rfl, rfl, Nat.le_of_ble_eq_true rfl, Nat.le_of_ble_eq_true rfl⟩ (31 + s.toNat) 3 rfl rfl (at_str (s := s) (by omega)) rfl rfl (Nat.le_of_ble_eq_true rfl) dX4_bestOfScan_1 (fun v_ w_ hq_ => ?_)
  obtain ⟨rfl, rfl⟩ := hq_
  refine g_one ?_
  refine g_istore_n (pc := 4) (lv' := [(2, .int (zI (limit σ s))), (0, .ref (ad (31 + s.toNat))), (1, .int (zI v))]) dX4_bestOfScan_4 (by decide) rfl ?_
  refine g_iconst (pc := 5) dX4_bestOfScan_5 ?_
  refine g_istore_n (pc := 6) (lv' := [(3, .int (zI 0)), (2, .int (zI (limit σ s))), (0, .ref (ad (31 + s.toNat))), (1, .int (zI v))]) dX4_bestOfScan_6 (by decide) rfl ?_
  refine g_lconst (pc := 7) (z := 0) dX4_bestOfScan_7 rfl ?_
  refine g_lstore (pc := 8) (lv' := [(4, .long (zJ 0)), (3, .int (zI 0)), (2, .int (zI (limit σ s))), (0, .ref (ad (31 + s.toNat))), (1, .int (zI v))]) dX4_bestOfScan_8 (by decide) rfl ?_
  refine g_iconst (pc := 10) dX4_bestOfScan_10 ?_
  refine g_istore (pc := 11) (lv' := [(6, .int (zI 0)), (4, .long (zJ 0)), (3, .int (zI 0)), (2, .int (zI (limit σ s))), (0, .ref (ad (31 + s.toNat))), (1, .int (zI v))]) dX4_bestOfScan_11 (by decide) rfl ?_
  refine g_sub (lv' := [(0, .ref (ad (31 + s.toNat))), (1, .int (zI v)), (2, .int (zI (limit σ s))), (3, .int (zI 0)), (4, .long (zJ 0)), (6, .int (zI 0))]) [4, 5, 3, 2, 1, 0] rfl ?_
  refine g_lv (lv' := [(0, .ref (ad (31 + s.toNat))), (1, .int (zI v)), (2, .int (zI (limit σ s))), (3, .int (zI (scanT (spow σ s) v 0))), (4, .long (zJ (spow σ s (scanT (spow σ s) v 0)))), (6, .int (zI (((0 : Nat) : Int) * v)))]) (by rw [show ((0 : Nat) : Int) * v = 0 from Int.zero_mul v, show spow σ s (scanT (spow σ s) v 0) = 0 from Int.zero_mul _]; rfl) ?_
  exact lp_X4_bestOfScan hB hL s hs v hv ((limit σ s + v + 1).toNat + 1) 0 (by rw [show ((0 : Nat) : Int) * v = 0 from Int.zero_mul v]; omega) (by rw [show ((0 : Nat) : Int) * v = 0 from Int.zero_mul v]; omega)
set_option maxRecDepth 100000 in
set_option maxHeartbeats 2000000 in
/-- PvArray$PvString.climbFrom, the loop at 10  -/
theorem lp_X4_climbFrom {D : va_G} {cy : Nat → ClassId} {l : Launch} {ad : Nat → Nat} {σ : Nat → Int → Int} {X : va_W} (hB : Bd σ) (hL : LC σ) (s : Int) (hs : 0 ≤ s ∧ s < 6) (a : Int) (ha : 0 ≤ a ∧ a ≤ limit σ s) : ∀ (n : Nat) (c k : Int), 0 ≤ c → c ≤ limit σ s → 0 ≤ k → k ≤ limit σ s → climbR (spow σ s) (limit σ s) (limit σ s - k).toNat c = climb (spow σ s) (limit σ s) a → (limit σ s - k).toNat < n → GO D cy l rm_X4_climbFrom cX4_climbFrom 7 yX4_climbFrom.cls (some .int) (CW cy ad σ ++ X) (rdI (climb (spow σ s) (limit σ s) a) (CW cy ad σ ++ X)) (CW cy ad σ ++ X) 10 [(0, .ref (ad (31 + s.toNat))), (1, .int (zI a)), (2, .int (zI (limit σ s))), (3, .int (zI c)), (4, .int (zI k))] [] := by
  intro n
  induction n with
  | zero =>
    intro c k hc1 hc2 hk1 hk2 hk3 hn
    exact absurd hn (Nat.not_lt_zero _)
  | succ n ih =>
    intro c k hc1 hc2 hk1 hk2 hk3 hn
    have h0 := limit_b hB s
    have h1 := spow_b2 hB s (c := c) (by omega)
    refine g_iload (pc := 10) dX4_climbFrom_10 4 rfl ?_
    refine g_iload_n (pc := 12) dX4_climbFrom_12 2 rfl ?_
    refine g_icmp_ge (pc := 13) 73 dX4_climbFrom_13 (by decide) (by omega) (by omega) (fun h_1 => ?_) (fun h_1 => ?_)
    · refine g_iload_n (pc := 73) dX4_climbFrom_73 3 rfl ?_
      exact g_iret (pc := 74) dX4_climbFrom_74 rfl (rdI_of (by rw [← hk3]; first | (rw [show (limit σ s - k).toNat = 0 by omega]; rfl) | (rw [show (limit σ s - k).toNat = (limit σ s - (k + 1)).toNat + 1 by omega, climbR, if_neg (by omega), if_neg (by omega)])))
    · refine g_aload_n (pc := 16) dX4_climbFrom_16 0 rfl ?_
      refine g_iload_n (pc := 17) dX4_climbFrom_17 3 rfl ?_
      refine g_callU (pc := 18) (As := [.int (zI c)]) (rest := []) k_X4_45_X4 (c_X0_productAt_str (σ := σ) hB hL s (by omega) c (by omega)) ⟨rfl, rfl, Nat.le_of_ble_eq_true rfl, Nat.le_of_ble_eq_true rfl⟩ (31 + s.toNat) 3 rfl rfl (at_str (s := s) (by omega)) rfl rfl (Nat.le_of_ble_eq_true rfl) dX4_climbFrom_18 (fun v_ w_ hq_ => ?_)
      obtain ⟨rfl, rfl⟩ := hq_
      refine g_one ?_
      refine g_lstore (pc := 21) (lv' := [(5, .long (zJ (spow σ s c))), (0, .ref (ad (31 + s.toNat))), (1, .int (zI a)), (2, .int (zI (limit σ s))), (3, .int (zI c)), (4, .int (zI k))]) dX4_climbFrom_21 (by decide) rfl ?_
      refine g_iload_n (pc := 23) dX4_climbFrom_23 4 rfl ?_
      refine g_iload_n (pc := 24) dX4_climbFrom_24 3 rfl ?_
      refine g_icmp_ge (pc := 25) 47 dX4_climbFrom_25 (by decide) (by omega) (by omega) (fun h_2 => ?_) (fun h_2 => ?_)
      · refine g_iload_n (pc := 47) dX4_climbFrom_47 4 rfl ?_
        refine g_if_le (pc := 48) 73 dX4_climbFrom_48 (by decide) (by omega) (fun h_3 => ?_) (fun h_3 => ?_)
        · refine g_iload_n (pc := 73) dX4_climbFrom_73 4 rfl ?_
          exact g_iret (pc := 74) dX4_climbFrom_74 rfl (rdI_of (by rw [← hk3]; first | (rw [show (limit σ s - k).toNat = 0 by omega]; rfl) | (rw [show (limit σ s - k).toNat = (limit σ s - (k + 1)).toNat + 1 by omega, climbR, if_neg (by omega), if_neg (by omega)])))
        · have h4 := spow_b2 hB s (c := c - 1) (by omega)
          refine g_aload_n (pc := 51) dX4_climbFrom_51 1 rfl ?_
          refine g_iload_n (pc := 52) dX4_climbFrom_52 4 rfl ?_
          refine g_iconst (pc := 53) dX4_climbFrom_53 ?_
          refine g_isub (pc := 54) dX4_climbFrom_54 ?_
          refine g_callU (pc := 55) (As := [.int (zI (c - 1))]) (rest := []) k_X4_45_X4 (c_X0_productAt_str (σ := σ) hB hL s (by omega) (c - 1) (by omega)) ⟨rfl, rfl, Nat.le_of_ble_eq_true rfl, Nat.le_of_ble_eq_true rfl⟩ (31 + s.toNat) 3 rfl rfl (at_str (s := s) (by omega)) rfl rfl (Nat.le_of_ble_eq_true rfl) dX4_climbFrom_55 (fun v_ w_ hq_ => ?_)
          obtain ⟨rfl, rfl⟩ := hq_
          refine g_one ?_
          refine g_lload (pc := 58) dX4_climbFrom_58 0 rfl ?_
          refine g_lcmp_le (pc := 60) 73 dX4_climbFrom_60 dX4_climbFrom_61 (by decide) (by omega) (by omega) (fun h_4 => ?_) (fun h_4 => ?_)
          · refine g_iload_n (pc := 73) dX4_climbFrom_73 4 rfl ?_
            exact g_iret (pc := 74) dX4_climbFrom_74 rfl (rdI_of (by rw [← hk3]; first | (rw [show (limit σ s - k).toNat = 0 by omega]; rfl) | (rw [show (limit σ s - k).toNat = (limit σ s - (k + 1)).toNat + 1 by omega, climbR, if_neg (by omega), if_neg (by omega)])))
          · refine g_iinc (pc := 64) (lv' := [(3, .int (zI (c + (-1)))), (5, .long (zJ (spow σ s c))), (0, .ref (ad (31 + s.toNat))), (1, .int (zI a)), (2, .int (zI (limit σ s))), (4, .int (zI k))]) dX4_climbFrom_64 (by decide) 4 rfl rfl ?_
            refine g_iinc (pc := 67) (lv' := [(4, .int (zI (k + 1))), (3, .int (zI (c + (-1)))), (5, .long (zJ (spow σ s c))), (0, .ref (ad (31 + s.toNat))), (1, .int (zI a)), (2, .int (zI (limit σ s)))]) dX4_climbFrom_67 (by decide) 5 rfl rfl ?_
            refine g_goto (pc := 70) 10 dX4_climbFrom_70 (by decide) ?_
            refine g_sub (lv' := [(0, .ref (ad (31 + s.toNat))), (1, .int (zI a)), (2, .int (zI (limit σ s))), (3, .int (zI (c + (-1)))), (4, .int (zI (k + 1)))]) [3, 4, 5, 1, 0] rfl ?_
            refine g_lv (lv' := [(0, .ref (ad (31 + s.toNat))), (1, .int (zI a)), (2, .int (zI (limit σ s))), (3, .int (zI (c - 1))), (4, .int (zI (k + 1)))]) (by rw [show c + (-1) = c - 1 by omega]) ?_
            exact ih (c - 1) (k + 1) (by omega) (by omega) (by omega) (by omega) (by rw [← hk3, show (limit σ s - k).toNat = (limit σ s - (k + 1)).toNat + 1 by omega, climbR, if_neg (by omega), if_pos ⟨by omega, by omega⟩]) (by omega)
      · have h2 := spow_b2 hB s (c := c + 1) (by omega)
        refine g_aload_n (pc := 28) dX4_climbFrom_28 1 rfl ?_
        refine g_iload_n (pc := 29) dX4_climbFrom_29 4 rfl ?_
        refine g_iconst (pc := 30) dX4_climbFrom_30 ?_
        refine g_iadd (pc := 31) dX4_climbFrom_31 ?_
        refine g_callU (pc := 32) (As := [.int (zI (c + 1))]) (rest := []) k_X4_45_X4 (c_X0_productAt_str (σ := σ) hB hL s (by omega) (c + 1) (by omega)) ⟨rfl, rfl, Nat.le_of_ble_eq_true rfl, Nat.le_of_ble_eq_true rfl⟩ (31 + s.toNat) 3 rfl rfl (at_str (s := s) (by omega)) rfl rfl (Nat.le_of_ble_eq_true rfl) dX4_climbFrom_32 (fun v_ w_ hq_ => ?_)
        obtain ⟨rfl, rfl⟩ := hq_
        refine g_one ?_
        refine g_lload (pc := 35) dX4_climbFrom_35 0 rfl ?_
        refine g_lcmp_le (pc := 37) 47 dX4_climbFrom_37 dX4_climbFrom_38 (by decide) (by omega) (by omega) (fun h_5 => ?_) (fun h_5 => ?_)
        · refine g_iload_n (pc := 47) dX4_climbFrom_47 4 rfl ?_
          refine g_if_le (pc := 48) 73 dX4_climbFrom_48 (by decide) (by omega) (fun h_6 => ?_) (fun h_6 => ?_)
          · refine g_iload_n (pc := 73) dX4_climbFrom_73 4 rfl ?_
            exact g_iret (pc := 74) dX4_climbFrom_74 rfl (rdI_of (by rw [← hk3]; first | (rw [show (limit σ s - k).toNat = 0 by omega]; rfl) | (rw [show (limit σ s - k).toNat = (limit σ s - (k + 1)).toNat + 1 by omega, climbR, if_neg (by omega), if_neg (by omega)])))
          · have h4 := spow_b2 hB s (c := c - 1) (by omega)
            refine g_aload_n (pc := 51) dX4_climbFrom_51 1 rfl ?_
            refine g_iload_n (pc := 52) dX4_climbFrom_52 4 rfl ?_
            refine g_iconst (pc := 53) dX4_climbFrom_53 ?_
            refine g_isub (pc := 54) dX4_climbFrom_54 ?_
            refine g_callU (pc := 55) (As := [.int (zI (c - 1))]) (rest := []) k_X4_45_X4 (c_X0_productAt_str (σ := σ) hB hL s (by omega) (c - 1) (by omega)) ⟨rfl, rfl, Nat.le_of_ble_eq_true rfl, Nat.le_of_ble_eq_true rfl⟩ (31 + s.toNat) 3 rfl rfl (at_str (s := s) (by omega)) rfl rfl (Nat.le_of_ble_eq_true rfl) dX4_climbFrom_55 (fun v_ w_ hq_ => ?_)
            obtain ⟨rfl, rfl⟩ := hq_
            refine g_one ?_
            refine g_lload (pc := 58) dX4_climbFrom_58 0 rfl ?_
            refine g_lcmp_le (pc := 60) 73 dX4_climbFrom_60 dX4_climbFrom_61 (by decide) (by omega) (by omega) (fun h_7 => ?_) (fun h_7 => ?_)
            · refine g_iload_n (pc := 73) dX4_climbFrom_73 4 rfl ?_
              exact g_iret (pc := 74) dX4_climbFrom_74 rfl (rdI_of (by rw [← hk3]; first | (rw [show (limit σ s - k).toNat = 0 by omega]; rfl) | (rw [show (limit σ s - k).toNat = (limit σ s - (k + 1)).toNat + 1 by omega, climbR, if_neg (by omega), if_neg (by omega)])))
            · refine g_iinc (pc := 64) (lv' := [(3, .int (zI (c + (-1)))), (5, .long (zJ (spow σ s c))), (0, .ref (ad (31 + s.toNat))), (1, .int (zI a)), (2, .int (zI (limit σ s))), (4, .int (zI k))]) dX4_climbFrom_64 (by decide) 4 rfl rfl ?_
              refine g_iinc (pc := 67) (lv' := [(4, .int (zI (k + 1))), (3, .int (zI (c + (-1)))), (5, .long (zJ (spow σ s c))), (0, .ref (ad (31 + s.toNat))), (1, .int (zI a)), (2, .int (zI (limit σ s)))]) dX4_climbFrom_67 (by decide) 5 rfl rfl ?_
              refine g_goto (pc := 70) 10 dX4_climbFrom_70 (by decide) ?_
              refine g_sub (lv' := [(0, .ref (ad (31 + s.toNat))), (1, .int (zI a)), (2, .int (zI (limit σ s))), (3, .int (zI (c + (-1)))), (4, .int (zI (k + 1)))]) [3, 4, 5, 1, 0] rfl ?_
              refine g_lv (lv' := [(0, .ref (ad (31 + s.toNat))), (1, .int (zI a)), (2, .int (zI (limit σ s))), (3, .int (zI (c - 1))), (4, .int (zI (k + 1)))]) (by rw [show c + (-1) = c - 1 by omega]) ?_
              exact ih (c - 1) (k + 1) (by omega) (by omega) (by omega) (by omega) (by rw [← hk3, show (limit σ s - k).toNat = (limit σ s - (k + 1)).toNat + 1 by omega, climbR, if_neg (by omega), if_pos ⟨by omega, by omega⟩]) (by omega)
        · refine g_iinc (pc := 41) (lv' := [(3, .int (zI (c + 1))), (5, .long (zJ (spow σ s c))), (0, .ref (ad (31 + s.toNat))), (1, .int (zI a)), (2, .int (zI (limit σ s))), (4, .int (zI k))]) dX4_climbFrom_41 (by decide) 4 rfl rfl ?_
          refine g_goto (pc := 44) 67 dX4_climbFrom_44 (by decide) ?_
          refine g_iinc (pc := 67) (lv' := [(4, .int (zI (k + 1))), (3, .int (zI (c + 1))), (5, .long (zJ (spow σ s c))), (0, .ref (ad (31 + s.toNat))), (1, .int (zI a)), (2, .int (zI (limit σ s)))]) dX4_climbFrom_67 (by decide) 5 rfl rfl ?_
          refine g_goto (pc := 70) 10 dX4_climbFrom_70 (by decide) ?_
          refine g_sub (lv' := [(0, .ref (ad (31 + s.toNat))), (1, .int (zI a)), (2, .int (zI (limit σ s))), (3, .int (zI (c + 1))), (4, .int (zI (k + 1)))]) [3, 4, 5, 1, 0] rfl ?_
          refine g_lv (lv' := [(0, .ref (ad (31 + s.toNat))), (1, .int (zI a)), (2, .int (zI (limit σ s))), (3, .int (zI (c + 1))), (4, .int (zI (k + 1)))]) rfl ?_
          exact ih (c + 1) (k + 1) (by omega) (by omega) (by omega) (by omega) (by rw [← hk3, show (limit σ s - k).toNat = (limit σ s - (k + 1)).toNat + 1 by omega, climbR, if_pos ⟨by omega, by omega⟩]) (by omega)
set_option maxRecDepth 100000 in
set_option maxHeartbeats 2000000 in
/-- PvArray$PvString.climbFrom  -/
theorem c_X4_climbFrom {D : va_G} {cy : Nat → ClassId} {l : Launch} {ad : Nat → Nat} {σ : Nat → Int → Int} {X : va_W} (hB : Bd σ) (hL : LC σ) (s : Int) (hs : 0 ≤ s ∧ s < 6) (a : Int) (ha : 0 ≤ a ∧ a ≤ limit σ s) : Con D cy l yX4_climbFrom cX4_climbFrom 7 (some .int) rm_X4_climbFrom [.ref (ad (31 + s.toNat)), .int (zI a)] (CW cy ad σ ++ X) (rdI (climb (spow σ s) (limit σ s) a) (CW cy ad σ ++ X)) := by
  refine Con.of (lv := [(0, .ref (ad (31 + s.toNat))), (1, .int (zI a))]) (by decide) (Nat.le_of_ble_eq_true rfl) rfl ?_
  have h0 := limit_b hB s
  refine g_aload_n (pc := 0) dX4_climbFrom_0 0 rfl ?_
  refine g_callV (pc := 1) (As := []) (rest := []) k_X4_49_X4 (c_X4_end (σ := σ) hB hL s (by omega)) ⟨rfl, rfl, Nat.le_of_ble_eq_true rfl, Nat.le_of_ble_eq_true rfl⟩ (31 + s.toNat) 3 rfl rfl (at_str (s := s) (by omega)) rfl rfl (Nat.le_of_ble_eq_true rfl) dX4_climbFrom_1 (fun v_ w_ hq_ => ?_)
  obtain ⟨rfl, rfl⟩ := hq_
  refine g_one ?_
  refine g_istore_n (pc := 4) (lv' := [(2, .int (zI (limit σ s))), (0, .ref (ad (31 + s.toNat))), (1, .int (zI a))]) dX4_climbFrom_4 (by decide) rfl ?_
  refine g_iload_n (pc := 5) dX4_climbFrom_5 2 rfl ?_
  refine g_istore_n (pc := 6) (lv' := [(3, .int (zI a)), (2, .int (zI (limit σ s))), (0, .ref (ad (31 + s.toNat))), (1, .int (zI a))]) dX4_climbFrom_6 (by decide) rfl ?_
  refine g_iconst (pc := 7) dX4_climbFrom_7 ?_
  refine g_istore (pc := 8) (lv' := [(4, .int (zI 0)), (3, .int (zI a)), (2, .int (zI (limit σ s))), (0, .ref (ad (31 + s.toNat))), (1, .int (zI a))]) dX4_climbFrom_8 (by decide) rfl ?_
  refine g_sub (lv' := [(0, .ref (ad (31 + s.toNat))), (1, .int (zI a)), (2, .int (zI (limit σ s))), (3, .int (zI a)), (4, .int (zI 0))]) [3, 4, 2, 1, 0] rfl ?_
  exact lp_X4_climbFrom hB hL s hs a ha ((limit σ s).toNat + 1) a 0 (by omega) (by omega) (by omega) (by omega) (by unfold climb; rw [show limit σ s - 0 = limit σ s by omega]) (by omega)
set_option maxRecDepth 100000 in
set_option maxHeartbeats 2000000 in
/-- PvArray$PvString.deliveredAt, the loop at 7  -/
theorem lp_X4_deliveredAt {D : va_G} {cy : Nat → ClassId} {l : Launch} {ad : Nat → Nat} {σ : Nat → Int → Int} {X : va_W} (hB : Bd σ) (hL : LC σ) (s : Int) (hs : 0 ≤ s ∧ s < 6) (v : Int) (hv : 0 ≤ v ∧ v ≤ 7200) : ∀ (n : Nat) (lo hi : Int), 0 ≤ lo → lo ≤ hi → hi ≤ limit σ s → (lo = 0 ∨ v ≤ svolt σ s lo) → (∀ i, hi < i → i ≤ limit σ s → svolt σ s i < v) → (hi - lo).toNat < n → GO D cy l rm_X4_deliveredAt cX4_deliveredAt 5 yX4_deliveredAt.cls (some .int) (CW cy ad σ ++ X) (rdI (dlv σ s v) (CW cy ad σ ++ X)) (CW cy ad σ ++ X) 7 [(0, .ref (ad (31 + s.toNat))), (1, .int (zI v)), (2, .int (zI lo)), (3, .int (zI hi))] [] := by
  intro n
  induction n with
  | zero =>
    intro lo hi h1 h2 h5 h3 h4 hn
    exact absurd hn (Nat.not_lt_zero _)
  | succ n ih =>
    intro lo hi h1 h2 h5 h3 h4 hn
    have h0 := limit_b hB s
    refine g_iload_n (pc := 7) dX4_deliveredAt_7 2 rfl ?_
    refine g_iload_n (pc := 8) dX4_deliveredAt_8 3 rfl ?_
    refine g_icmp_ge (pc := 9) 45 dX4_deliveredAt_9 (by decide) (by omega) (by omega) (fun h_1 => ?_) (fun h_1 => ?_)
    · refine g_iload_n (pc := 45) dX4_deliveredAt_45 2 rfl ?_
      exact g_iret (pc := 46) dX4_deliveredAt_46 rfl (rdI_of (by unfold dlv; exact (dlvT_eq _ h1 (by omega) h3 (fun i q1 q2 => h4 i (by omega) (by omega))).symm))
    · refine g_iload_n (pc := 12) dX4_deliveredAt_12 2 rfl ?_
      refine g_iload_n (pc := 13) dX4_deliveredAt_13 3 rfl ?_
      refine g_iadd (pc := 14) dX4_deliveredAt_14 ?_
      refine g_iconst (pc := 15) dX4_deliveredAt_15 ?_
      refine g_iadd (pc := 16) dX4_deliveredAt_16 ?_
      refine g_iconst (pc := 17) dX4_deliveredAt_17 ?_
      refine g_idiv (pc := 18) dX4_deliveredAt_18 (by omega) (by omega) ?_
      refine g_istore (pc := 19) (lv' := [(4, .int (zI (((lo + hi) + 1) / 2))), (0, .ref (ad (31 + s.toNat))), (1, .int (zI v)), (2, .int (zI lo)), (3, .int (zI hi))]) dX4_deliveredAt_19 (by decide) rfl ?_
      have v1 := svolt_b hB s (c := (lo + hi + 1) / 2) (by omega)
      refine g_aload_n (pc := 21) dX4_deliveredAt_21 1 rfl ?_
      refine g_iload (pc := 22) dX4_deliveredAt_22 0 rfl ?_
      refine g_callV (pc := 24) (As := [.int (zI (((lo + hi) + 1) / 2))]) (rest := []) k_X4_53_X4 (c_X4_valueAt (σ := σ) hB hL s (by omega) (((lo + hi) + 1) / 2) (by omega)) ⟨rfl, rfl, Nat.le_of_ble_eq_true rfl, Nat.le_of_ble_eq_true rfl⟩ (31 + s.toNat) 3 rfl rfl (at_str (s := s) (by omega)) rfl rfl (Nat.le_of_ble_eq_true rfl) dX4_deliveredAt_24 (fun v_ w_ hq_ => ?_)
      obtain ⟨rfl, rfl⟩ := hq_
      refine g_one ?_
      refine g_iload_n (pc := 27) dX4_deliveredAt_27 2 rfl ?_
      refine g_icmp_lt (pc := 28) 37 dX4_deliveredAt_28 (by decide) (by omega) (by omega) (fun h_2 => ?_) (fun h_2 => ?_)
      · refine g_iload (pc := 37) dX4_deliveredAt_37 0 rfl ?_
        refine g_iconst (pc := 39) dX4_deliveredAt_39 ?_
        refine g_isub (pc := 40) dX4_deliveredAt_40 ?_
        refine g_istore_n (pc := 41) (lv' := [(3, .int (zI ((((lo + hi) + 1) / 2) - 1))), (4, .int (zI (((lo + hi) + 1) / 2))), (0, .ref (ad (31 + s.toNat))), (1, .int (zI v)), (2, .int (zI lo))]) dX4_deliveredAt_41 (by decide) rfl ?_
        refine g_goto (pc := 42) 7 dX4_deliveredAt_42 (by decide) ?_
        refine g_sub (lv' := [(0, .ref (ad (31 + s.toNat))), (1, .int (zI v)), (2, .int (zI lo)), (3, .int (zI ((((lo + hi) + 1) / 2) - 1)))]) [2, 3, 4, 0] rfl ?_
        exact ih lo ((((lo + hi) + 1) / 2) - 1) (by omega) (by omega) (by omega) (h3) (fun i q1 q2 => by have := svolt_Mono hB s (limit σ s) ((lo + hi + 1) / 2) i (by omega) (by omega) q2; omega) (by omega)
      · refine g_iload (pc := 31) dX4_deliveredAt_31 0 rfl ?_
        refine g_istore_n (pc := 33) (lv' := [(2, .int (zI (((lo + hi) + 1) / 2))), (4, .int (zI (((lo + hi) + 1) / 2))), (0, .ref (ad (31 + s.toNat))), (1, .int (zI v)), (3, .int (zI hi))]) dX4_deliveredAt_33 (by decide) rfl ?_
        refine g_goto (pc := 34) 42 dX4_deliveredAt_34 (by decide) ?_
        refine g_goto (pc := 42) 7 dX4_deliveredAt_42 (by decide) ?_
        refine g_sub (lv' := [(0, .ref (ad (31 + s.toNat))), (1, .int (zI v)), (2, .int (zI (((lo + hi) + 1) / 2))), (3, .int (zI hi))]) [2, 3, 0, 4] rfl ?_
        exact ih (((lo + hi) + 1) / 2) hi (by omega) (by omega) (by omega) (Or.inr (by omega)) h4 (by omega)
set_option maxRecDepth 100000 in
set_option maxHeartbeats 2000000 in
/-- PvArray$PvString.deliveredAt  -/
theorem c_X4_deliveredAt {D : va_G} {cy : Nat → ClassId} {l : Launch} {ad : Nat → Nat} {σ : Nat → Int → Int} {X : va_W} (hB : Bd σ) (hL : LC σ) (s : Int) (hs : 0 ≤ s ∧ s < 6) (v : Int) (hv : 0 ≤ v ∧ v ≤ 7200) : Con D cy l yX4_deliveredAt cX4_deliveredAt 5 (some .int) rm_X4_deliveredAt [.ref (ad (31 + s.toNat)), .int (zI v)] (CW cy ad σ ++ X) (rdI (dlv σ s v) (CW cy ad σ ++ X)) := by
  refine Con.of (lv := [(0, .ref (ad (31 + s.toNat))), (1, .int (zI v))]) (by decide) (Nat.le_of_ble_eq_true rfl) rfl ?_
  have h0 := limit_b hB s
  refine g_iconst (pc := 0) dX4_deliveredAt_0 ?_
  refine g_istore_n (pc := 1) (lv' := [(2, .int (zI 0)), (0, .ref (ad (31 + s.toNat))), (1, .int (zI v))]) dX4_deliveredAt_1 (by decide) rfl ?_
  refine g_aload_n (pc := 2) dX4_deliveredAt_2 1 rfl ?_
  refine g_callV (pc := 3) (As := []) (rest := []) k_X4_49_X4 (c_X4_end (σ := σ) hB hL s (by omega)) ⟨rfl, rfl, Nat.le_of_ble_eq_true rfl, Nat.le_of_ble_eq_true rfl⟩ (31 + s.toNat) 3 rfl rfl (at_str (s := s) (by omega)) rfl rfl (Nat.le_of_ble_eq_true rfl) dX4_deliveredAt_3 (fun v_ w_ hq_ => ?_)
  obtain ⟨rfl, rfl⟩ := hq_
  refine g_one ?_
  refine g_istore_n (pc := 6) (lv' := [(3, .int (zI (limit σ s))), (2, .int (zI 0)), (0, .ref (ad (31 + s.toNat))), (1, .int (zI v))]) dX4_deliveredAt_6 (by decide) rfl ?_
  refine g_sub (lv' := [(0, .ref (ad (31 + s.toNat))), (1, .int (zI v)), (2, .int (zI 0)), (3, .int (zI (limit σ s)))]) [2, 3, 1, 0] rfl ?_
  exact lp_X4_deliveredAt hB hL s hs v hv ((limit σ s).toNat + 1) 0 (limit σ s) (by omega) (by omega) (by omega) (Or.inl rfl) (fun i q1 q2 => absurd q1 (by omega)) (by omega)
set_option maxRecDepth 100000 in
set_option maxHeartbeats 2000000 in
/-- PvArray$Parallel.valueAt, the loop at 4  -/
theorem lp_X2_valueAt {D : va_G} {cy : Nat → ClassId} {l : Launch} {ad : Nat → Nat} {σ : Nat → Int → Int} {X : va_W} (hB : Bd σ) (hL : LC σ) (v : Int) (hv : 0 ≤ v ∧ v ≤ 7200) : ∀ (n : Nat) (k : Int), 0 ≤ k → k ≤ σ 0 2 → (σ 0 2 - k).toNat < n → GO D cy l rm_X2_valueAt cX2_valueAt 4 yX2_valueAt.cls (some .int) (CW cy ad σ ++ X) (rdI (acur σ v) (CW cy ad σ ++ X)) (CW cy ad σ ++ X) 4 [(0, .ref (ad 4)), (1, .int (zI v)), (2, .int (zI (sumP (fun s => dlv σ s v) k.toNat))), (3, .int (zI k))] [] := by
  intro n
  induction n with
  | zero =>
    intro k hk hk2 hn
    exact absurd hn (Nat.not_lt_zero _)
  | succ n ih =>
    intro k hk hk2 hn
    have h0 := hB.sc
    have h1 := dlv_b hB k v
    have h2 := ac_b hB v (n := k.toNat) (by omega)
    refine g_iload_n (pc := 4) dX2_valueAt_4 3 rfl ?_
    refine g_aload_n (pc := 5) dX2_valueAt_5 0 rfl ?_
    refine g_get (pc := 6) (ci := 1) inG_X2 rfl 1 (by decide) rfl fl_X2_9 (4) at_par rfl dX2_valueAt_6 ?_
    refine g_icmp_ge (pc := 9) 31 dX2_valueAt_9 (by decide) (by omega) (by omega) (fun h_1 => ?_) (fun h_1 => ?_)
    · refine g_iload_n (pc := 31) dX2_valueAt_31 2 rfl ?_
      exact g_iret (pc := 32) dX2_valueAt_32 rfl (rdI_of (by unfold acur; rw [show k = σ 0 2 by omega]))
    · refine g_iload_n (pc := 12) dX2_valueAt_12 2 rfl ?_
      refine g_aload_n (pc := 13) dX2_valueAt_13 0 rfl ?_
      refine g_get (pc := 14) (ci := 1) inG_X2 rfl 0 (by decide) rfl fl_X2_15 (4) at_par rfl dX2_valueAt_14 ?_
      refine g_iload_n (pc := 17) dX2_valueAt_17 3 rfl ?_
      refine g_aald (pc := 18) 3 4 at_strs rfl (by omega) (by decide) rfl dX2_valueAt_18 ?_
      refine g_iload_n (pc := 19) dX2_valueAt_19 1 rfl ?_
      refine g_callN (pc := 20) (As := [.int (zI v)]) (rest := [.int (zI (sumP (fun s => dlv σ s v) k.toNat))]) k_X2_19_X4 (c_X4_deliveredAt (σ := σ) hB hL k (by omega) v (by omega)) ⟨rfl, rfl, Nat.le_of_ble_eq_true rfl, Nat.le_of_ble_eq_true rfl⟩ (31 + k.toNat) 3 rfl rfl (at_str (s := k) (by omega)) rfl rfl (Nat.le_of_ble_eq_true rfl) dX2_valueAt_20 (fun v_ w_ hq_ => ?_)
      obtain ⟨rfl, rfl⟩ := hq_
      refine g_one ?_
      refine g_iadd (pc := 23) dX2_valueAt_23 ?_
      refine g_istore_n (pc := 24) (lv' := [(2, .int (zI ((sumP (fun s => dlv σ s v) k.toNat) + (dlv σ k v)))), (0, .ref (ad 4)), (1, .int (zI v)), (3, .int (zI k))]) dX2_valueAt_24 (by decide) rfl ?_
      refine g_iinc (pc := 25) (lv' := [(3, .int (zI (k + 1))), (2, .int (zI ((sumP (fun s => dlv σ s v) k.toNat) + (dlv σ k v)))), (0, .ref (ad 4)), (1, .int (zI v))]) dX2_valueAt_25 (by decide) 3 rfl rfl ?_
      refine g_goto (pc := 28) 4 dX2_valueAt_28 (by decide) ?_
      refine g_sub (lv' := [(0, .ref (ad 4)), (1, .int (zI v)), (2, .int (zI ((sumP (fun s => dlv σ s v) k.toNat) + (dlv σ k v)))), (3, .int (zI (k + 1)))]) [2, 3, 1, 0] rfl ?_
      refine g_lv (lv' := [(0, .ref (ad 4)), (1, .int (zI v)), (2, .int (zI (sumP (fun s => dlv σ s v) (k + 1).toNat))), (3, .int (zI (k + 1)))]) (by rw [sumP_s _ hk]) ?_
      exact ih (k + 1) (by omega) (by omega) (by omega)
set_option maxRecDepth 100000 in
set_option maxHeartbeats 2000000 in
/-- PvArray$Parallel.valueAt  -/
theorem c_X2_valueAt {D : va_G} {cy : Nat → ClassId} {l : Launch} {ad : Nat → Nat} {σ : Nat → Int → Int} {X : va_W} (hB : Bd σ) (hL : LC σ) (v : Int) (hv : 0 ≤ v ∧ v ≤ 7200) : Con D cy l yX2_valueAt cX2_valueAt 4 (some .int) rm_X2_valueAt [.ref (ad 4), .int (zI v)] (CW cy ad σ ++ X) (rdI (acur σ v) (CW cy ad σ ++ X)) := by
  refine Con.of (lv := [(0, .ref (ad 4)), (1, .int (zI v))]) (by decide) (Nat.le_of_ble_eq_true rfl) rfl ?_
  have h0 := hB.sc
  refine g_iconst (pc := 0) dX2_valueAt_0 ?_
  refine g_istore_n (pc := 1) (lv' := [(2, .int (zI 0)), (0, .ref (ad 4)), (1, .int (zI v))]) dX2_valueAt_1 (by decide) rfl ?_
  refine g_iconst (pc := 2) dX2_valueAt_2 ?_
  refine g_istore_n (pc := 3) (lv' := [(3, .int (zI 0)), (2, .int (zI 0)), (0, .ref (ad 4)), (1, .int (zI v))]) dX2_valueAt_3 (by decide) rfl ?_
  refine g_sub (lv' := [(0, .ref (ad 4)), (1, .int (zI v)), (2, .int (zI 0)), (3, .int (zI 0))]) [2, 3, 1, 0] rfl ?_
  exact lp_X2_valueAt hB hL v hv ((σ 0 2).toNat + 1) 0 (by omega) (by omega) (by omega)
set_option maxRecDepth 100000 in
set_option maxHeartbeats 2000000 in
/-- PvArray$Parallel.end  -/
theorem c_X2_end {D : va_G} {cy : Nat → ClassId} {l : Launch} {ad : Nat → Nat} {σ : Nat → Int → Int} {X : va_W}  : Con D cy l yX2_end cX2_end 1 (some .int) rm_X2_end [.ref (ad 4)] (CW cy ad σ ++ X) (rdI 7200 (CW cy ad σ ++ X)) := by
  refine Con.of (lv := [(0, .ref (ad 4))]) (by decide) (Nat.le_of_ble_eq_true rfl) rfl ?_
  refine g_sipush (pc := 0) dX2_end_0 (by omega) ?_
  exact g_iret (pc := 3) dX2_end_3 rfl (rdI_of rfl)
set_option maxRecDepth 100000 in
set_option maxHeartbeats 2000000 in
/-- PvArray$Curve.bestPoint, the loop at 58  -/
theorem lp_X0_best_par {D : va_G} {cy : Nat → ClassId} {l : Launch} {ad : Nat → Nat} {σ : Nat → Int → Int} {X : va_W} (hB : Bd σ) (hL : LC σ)  : ∀ (n : Nat) (tb be pt : Int), BP (acur σ) (7200) tb be pt → (7200 + 1 - pt).toNat < n → GO D cy l rm_X0_bestPoint cX0_bestPoint 8 yX0_bestPoint.cls (some .int) (CW cy ad σ ++ X) (rdI (bestV σ) (CW cy ad σ ++ X)) (CW cy ad σ ++ X) 58 [(0, .ref (ad 4)), (1, .int (zI 7200)), (2, .int (zI (7200 / 32 + 1))), (3, .long (zJ tb)), (5, .int (zI be)), (6, .int (zI pt))] [] := by
  intro n
  induction n with
  | zero =>
    intro tb be pt hbp hn
    exact absurd hn (Nat.not_lt_zero _)
  | succ n ih =>
    intro tb be pt hbp hn
    have n1 := (show (0 : Int) ≤ 7200 ∧ (7200 : Int) ≤ 7200 by omega)
    obtain ⟨b1, b2, b3, b4, b5, b6, -⟩ := id hbp
    refine g_iload (pc := 58) dX0_bestPoint_58 5 rfl ?_
    refine g_iload_n (pc := 60) dX0_bestPoint_60 1 rfl ?_
    refine g_icmp_gt (pc := 61) 125 dX0_bestPoint_61 (by decide) (by omega) (by omega) (fun h_1 => ?_) (fun h_1 => ?_)
    · refine g_iload (pc := 125) dX0_bestPoint_125 4 rfl ?_
      exact g_iret (pc := 127) dX0_bestPoint_127 rfl (rdI_of (IsBest.eq (f := apow σ) ((show (0 : Int) ≤ 7200 ∧ (7200 : Int) ≤ 7200 by omega)).1 (hbp.out (by omega))))
    · refine g_aload_n (pc := 64) dX0_bestPoint_64 0 rfl ?_
      refine g_iload (pc := 65) dX0_bestPoint_65 5 rfl ?_
      refine g_callU (pc := 67) (As := [.int (zI pt)]) (rest := []) k_X0_9_X2 (c_X2_valueAt (σ := σ) hB hL pt (by omega)) ⟨rfl, rfl, Nat.le_of_ble_eq_true rfl, Nat.le_of_ble_eq_true rfl⟩ (4) 1 rfl rfl at_par rfl rfl (Nat.le_of_ble_eq_true rfl) dX0_bestPoint_67 (fun v_ w_ hq_ => ?_)
      obtain ⟨rfl, rfl⟩ := hq_
      refine g_one ?_
      have v1 := acur_b hB pt
      have v2 : -1728000 ≤ pt * acur σ pt ∧ pt * acur σ pt ≤ 51840000 := apow_b hB (c := pt) (by omega)
      refine g_istore (pc := 70) (lv' := [(7, .int (zI (acur σ pt))), (0, .ref (ad 4)), (1, .int (zI 7200)), (2, .int (zI (7200 / 32 + 1))), (3, .long (zJ tb)), (5, .int (zI be)), (6, .int (zI pt))]) dX0_bestPoint_70 (by decide) rfl ?_
      refine g_iload (pc := 72) dX0_bestPoint_72 0 rfl ?_
      refine g_if_gt (pc := 74) 80 dX0_bestPoint_74 (by decide) (by omega) (fun h_2 => ?_) (fun h_2 => ?_)
      · refine g_iload (pc := 80) dX0_bestPoint_80 6 rfl ?_
        refine g_i2l (pc := 82) dX0_bestPoint_82 (by omega) ?_
        refine g_iload (pc := 83) dX0_bestPoint_83 0 rfl ?_
        refine g_i2l (pc := 85) dX0_bestPoint_85 (by omega) ?_
        refine g_lmul (pc := 86) dX0_bestPoint_86 ?_
        refine g_lload_n (pc := 87) dX0_bestPoint_87 4 rfl ?_
        refine g_lcmp_le (pc := 88) 104 dX0_bestPoint_88 dX0_bestPoint_89 (by decide) (by omega) (by omega) (fun h_3 => ?_) (fun h_3 => ?_)
        · have v3 : 0 ≤ tb ∧ tb ≤ 52000000 := by first | omega | (have := hbp.nn (by omega); omega)
          have v4 := div_b v3 (show 0 < acur σ pt by omega)
          refine g_iload (pc := 104) dX0_bestPoint_104 6 rfl ?_
          refine g_i2l (pc := 106) dX0_bestPoint_106 (by omega) ?_
          refine g_lconst (pc := 107) (z := 1) dX0_bestPoint_107 rfl ?_
          refine g_ladd (pc := 108) dX0_bestPoint_108 ?_
          refine g_lload_n (pc := 109) dX0_bestPoint_109 4 rfl ?_
          refine g_iload (pc := 110) dX0_bestPoint_110 0 rfl ?_
          refine g_i2l (pc := 112) dX0_bestPoint_112 (by omega) ?_
          refine g_ldiv (pc := 113) dX0_bestPoint_113 (by omega) (by omega) ?_
          refine g_lconst (pc := 114) (z := 1) dX0_bestPoint_114 rfl ?_
          refine g_ladd (pc := 115) dX0_bestPoint_115 ?_
          refine g_maxl (pc := 116) ma_maxl_X0_28 ma_maxl_s ma_i ma_maxl_c (Nat.le_of_ble_eq_true rfl) (Nat.le_of_ble_eq_true rfl) (by omega) (by omega) dX0_bestPoint_116 ?_
          refine g_l2i (pc := 119) dX0_bestPoint_119 ?_
          refine g_istore (pc := 120) (lv' := [(6, .int (zI (max (pt + 1) ((tb / (acur σ pt)) + 1)))), (7, .int (zI (acur σ pt))), (0, .ref (ad 4)), (1, .int (zI 7200)), (2, .int (zI (7200 / 32 + 1))), (3, .long (zJ tb)), (5, .int (zI be))]) dX0_bestPoint_120 (by decide) rfl ?_
          refine g_goto (pc := 122) 58 dX0_bestPoint_122 (by decide) ?_
          refine g_sub (lv' := [(0, .ref (ad 4)), (1, .int (zI 7200)), (2, .int (zI (7200 / 32 + 1))), (3, .long (zJ tb)), (5, .int (zI be)), (6, .int (zI (max (pt + 1) ((tb / (acur σ pt)) + 1))))]) [2, 3, 4, 5, 6, 0] rfl ?_
          exact ih tb be (max (pt + 1) ((tb / (acur σ pt)) + 1)) (hbp.no (acur_Mono _) (by omega) (by omega) (by omega) (by omega)) (by omega)
        · refine g_iload (pc := 92) dX0_bestPoint_92 6 rfl ?_
          refine g_i2l (pc := 94) dX0_bestPoint_94 (by omega) ?_
          refine g_iload (pc := 95) dX0_bestPoint_95 0 rfl ?_
          refine g_i2l (pc := 97) dX0_bestPoint_97 (by omega) ?_
          refine g_lmul (pc := 98) dX0_bestPoint_98 ?_
          refine g_lstore_n (pc := 99) (lv' := [(3, .long (zJ (pt * (acur σ pt)))), (7, .int (zI (acur σ pt))), (0, .ref (ad 4)), (1, .int (zI 7200)), (2, .int (zI (7200 / 32 + 1))), (5, .int (zI be)), (6, .int (zI pt))]) dX0_bestPoint_99 (by decide) rfl ?_
          refine g_iload (pc := 100) dX0_bestPoint_100 6 rfl ?_
          refine g_istore (pc := 102) (lv' := [(5, .int (zI pt)), (3, .long (zJ (pt * (acur σ pt)))), (7, .int (zI (acur σ pt))), (0, .ref (ad 4)), (1, .int (zI 7200)), (2, .int (zI (7200 / 32 + 1))), (6, .int (zI pt))]) dX0_bestPoint_102 (by decide) rfl ?_
          have v3 : 0 ≤ (pt * (acur σ pt)) ∧ (pt * (acur σ pt)) ≤ 52000000 := by first | omega | (have := hbp.nn (by omega); omega)
          have v4 := div_b v3 (show 0 < acur σ pt by omega)
          refine g_iload (pc := 104) dX0_bestPoint_104 6 rfl ?_
          refine g_i2l (pc := 106) dX0_bestPoint_106 (by omega) ?_
          refine g_lconst (pc := 107) (z := 1) dX0_bestPoint_107 rfl ?_
          refine g_ladd (pc := 108) dX0_bestPoint_108 ?_
          refine g_lload_n (pc := 109) dX0_bestPoint_109 1 rfl ?_
          refine g_iload (pc := 110) dX0_bestPoint_110 2 rfl ?_
          refine g_i2l (pc := 112) dX0_bestPoint_112 (by omega) ?_
          refine g_ldiv (pc := 113) dX0_bestPoint_113 (by omega) (by omega) ?_
          refine g_lconst (pc := 114) (z := 1) dX0_bestPoint_114 rfl ?_
          refine g_ladd (pc := 115) dX0_bestPoint_115 ?_
          refine g_maxl (pc := 116) ma_maxl_X0_28 ma_maxl_s ma_i ma_maxl_c (Nat.le_of_ble_eq_true rfl) (Nat.le_of_ble_eq_true rfl) (by omega) (by omega) dX0_bestPoint_116 ?_
          refine g_l2i (pc := 119) dX0_bestPoint_119 ?_
          refine g_istore (pc := 120) (lv' := [(6, .int (zI (max (pt + 1) (((pt * (acur σ pt)) / (acur σ pt)) + 1)))), (5, .int (zI pt)), (3, .long (zJ (pt * (acur σ pt)))), (7, .int (zI (acur σ pt))), (0, .ref (ad 4)), (1, .int (zI 7200)), (2, .int (zI (7200 / 32 + 1)))]) dX0_bestPoint_120 (by decide) rfl ?_
          refine g_goto (pc := 122) 58 dX0_bestPoint_122 (by decide) ?_
          refine g_sub (lv' := [(0, .ref (ad 4)), (1, .int (zI 7200)), (2, .int (zI (7200 / 32 + 1))), (3, .long (zJ (pt * (acur σ pt)))), (5, .int (zI pt)), (6, .int (zI (max (pt + 1) (((pt * (acur σ pt)) / (acur σ pt)) + 1))))]) [4, 5, 6, 2, 1, 0] rfl ?_
          exact ih (pt * (acur σ pt)) pt (max (pt + 1) (((pt * (acur σ pt)) / (acur σ pt)) + 1)) (hbp.yes (acur_Mono _) (by omega) (by omega) (by omega) (by omega) (by omega)) (by omega)
      · refine g_goto (pc := 77) 125 dX0_bestPoint_77 (by decide) ?_
        refine g_iload (pc := 125) dX0_bestPoint_125 5 rfl ?_
        exact g_iret (pc := 127) dX0_bestPoint_127 rfl (rdI_of (IsBest.eq (f := apow σ) ((show (0 : Int) ≤ 7200 ∧ (7200 : Int) ≤ 7200 by omega)).1 (hbp.out0 (acur_Mono _) (by omega) (by omega))))
set_option maxRecDepth 100000 in
set_option maxHeartbeats 2000000 in
/-- PvArray$Curve.bestPoint, the loop at 19  -/
theorem lp_X0_coarse_par {D : va_G} {cy : Nat → ClassId} {l : Launch} {ad : Nat → Nat} {σ : Nat → Int → Int} {X : va_W} (hB : Bd σ) (hL : LC σ)  : ∀ (n : Nat) (tb co : Int), CR (acur σ) (7200) tb → 0 ≤ co → co ≤ 20000 → (7200 + 1 - co).toNat < n → GO D cy l rm_X0_bestPoint cX0_bestPoint 8 yX0_bestPoint.cls (some .int) (CW cy ad σ ++ X) (rdI (bestV σ) (CW cy ad σ ++ X)) (CW cy ad σ ++ X) 19 [(0, .ref (ad 4)), (1, .int (zI 7200)), (2, .int (zI (7200 / 32 + 1))), (3, .long (zJ tb)), (5, .int (zI co))] [] := by
  intro n
  induction n with
  | zero =>
    intro tb co hcr hco hco2 hn
    exact absurd hn (Nat.not_lt_zero _)
  | succ n ih =>
    intro tb co hcr hco hco2 hn
    have n1 := (show (0 : Int) ≤ 7200 ∧ (7200 : Int) ≤ 7200 by omega)
    obtain ⟨b1, b2, -⟩ := id hcr
    refine g_iload (pc := 19) dX0_bestPoint_19 4 rfl ?_
    refine g_iload_n (pc := 21) dX0_bestPoint_21 1 rfl ?_
    refine g_icmp_gt (pc := 22) 52 dX0_bestPoint_22 (by decide) (by omega) (by omega) (fun h_1 => ?_) (fun h_1 => ?_)
    · refine g_iconst (pc := 52) dX0_bestPoint_52 ?_
      refine g_istore (pc := 53) (lv' := [(5, .int (zI 0)), (0, .ref (ad 4)), (1, .int (zI 7200)), (2, .int (zI (7200 / 32 + 1))), (3, .long (zJ tb))]) dX0_bestPoint_53 (by decide) rfl ?_
      refine g_iconst (pc := 55) dX0_bestPoint_55 ?_
      refine g_istore (pc := 56) (lv' := [(6, .int (zI 0)), (5, .int (zI 0)), (0, .ref (ad 4)), (1, .int (zI 7200)), (2, .int (zI (7200 / 32 + 1))), (3, .long (zJ tb))]) dX0_bestPoint_56 (by decide) rfl ?_
      refine g_sub (lv' := [(0, .ref (ad 4)), (1, .int (zI 7200)), (2, .int (zI (7200 / 32 + 1))), (3, .long (zJ tb)), (5, .int (zI 0)), (6, .int (zI 0))]) [2, 3, 4, 5, 1, 0] rfl ?_
      exact lp_X0_best_par hB hL  (8000) tb 0 0 (BP.init n1.1 hcr) (by omega)
    · have v1 := acur_b hB co
      have v2 : -1728000 ≤ co * acur σ co ∧ co * acur σ co ≤ 51840000 := apow_b hB (c := co) (by omega)
      refine g_lload_n (pc := 25) dX0_bestPoint_25 3 rfl ?_
      refine g_iload (pc := 26) dX0_bestPoint_26 4 rfl ?_
      refine g_i2l (pc := 28) dX0_bestPoint_28 (by omega) ?_
      refine g_aload_n (pc := 29) dX0_bestPoint_29 0 rfl ?_
      refine g_iload (pc := 30) dX0_bestPoint_30 4 rfl ?_
      refine g_callU (pc := 32) (As := [.int (zI co)]) (rest := [.long (zJ co), .long (zJ tb)]) k_X0_9_X2 (c_X2_valueAt (σ := σ) hB hL co (by omega)) ⟨rfl, rfl, Nat.le_of_ble_eq_true rfl, Nat.le_of_ble_eq_true rfl⟩ (4) 1 rfl rfl at_par rfl rfl (Nat.le_of_ble_eq_true rfl) dX0_bestPoint_32 (fun v_ w_ hq_ => ?_)
      obtain ⟨rfl, rfl⟩ := hq_
      refine g_one ?_
      refine g_i2l (pc := 35) dX0_bestPoint_35 (by omega) ?_
      refine g_lmul (pc := 36) dX0_bestPoint_36 ?_
      refine g_lconst (pc := 37) (z := 1) dX0_bestPoint_37 rfl ?_
      refine g_lsub (pc := 38) dX0_bestPoint_38 ?_
      refine g_maxl (pc := 39) ma_maxl_X0_28 ma_maxl_s ma_i ma_maxl_c (Nat.le_of_ble_eq_true rfl) (Nat.le_of_ble_eq_true rfl) (by omega) (by omega) dX0_bestPoint_39 ?_
      refine g_lstore_n (pc := 42) (lv' := [(3, .long (zJ (max tb ((co * (acur σ co)) - 1)))), (0, .ref (ad 4)), (1, .int (zI 7200)), (2, .int (zI (7200 / 32 + 1))), (5, .int (zI co))]) dX0_bestPoint_42 (by decide) rfl ?_
      refine g_iload (pc := 43) dX0_bestPoint_43 4 rfl ?_
      refine g_iload_n (pc := 45) dX0_bestPoint_45 3 rfl ?_
      refine g_iadd (pc := 46) dX0_bestPoint_46 ?_
      refine g_istore (pc := 47) (lv' := [(5, .int (zI (co + (7200 / 32 + 1)))), (3, .long (zJ (max tb ((co * (acur σ co)) - 1)))), (0, .ref (ad 4)), (1, .int (zI 7200)), (2, .int (zI (7200 / 32 + 1)))]) dX0_bestPoint_47 (by decide) rfl ?_
      refine g_goto (pc := 49) 19 dX0_bestPoint_49 (by decide) ?_
      refine g_sub (lv' := [(0, .ref (ad 4)), (1, .int (zI 7200)), (2, .int (zI (7200 / 32 + 1))), (3, .long (zJ (max tb ((co * (acur σ co)) - 1)))), (5, .int (zI (co + (7200 / 32 + 1))))]) [2, 3, 4, 1, 0] rfl ?_
      exact ih (max tb ((co * (acur σ co)) - 1)) (co + (7200 / 32 + 1)) (hcr.step ⟨by omega, by omega⟩ (by omega)) (by omega) (by omega) (by omega)
set_option maxRecDepth 100000 in
set_option maxHeartbeats 2000000 in
/-- PvArray$Curve.bestPoint  -/
theorem c_X0_bestPoint_par {D : va_G} {cy : Nat → ClassId} {l : Launch} {ad : Nat → Nat} {σ : Nat → Int → Int} {X : va_W} (hB : Bd σ) (hL : LC σ)  : Con D cy l yX0_bestPoint cX0_bestPoint 8 (some .int) rm_X0_bestPoint [.ref (ad 4)] (CW cy ad σ ++ X) (rdI (bestV σ) (CW cy ad σ ++ X)) := by
  refine Con.of (lv := [(0, .ref (ad 4))]) (by decide) (Nat.le_of_ble_eq_true rfl) rfl ?_
  have n1 := (show (0 : Int) ≤ 7200 ∧ (7200 : Int) ≤ 7200 by omega)
  refine g_aload_n (pc := 0) dX0_bestPoint_0 0 rfl ?_
  refine g_callU (pc := 1) (As := []) (rest := []) k_X0_23_X2 (c_X2_end (σ := σ)) ⟨rfl, rfl, Nat.le_of_ble_eq_true rfl, Nat.le_of_ble_eq_true rfl⟩ (4) 1 rfl rfl at_par rfl rfl (Nat.le_of_ble_eq_true rfl) dX0_bestPoint_1 (fun v_ w_ hq_ => ?_)
  obtain ⟨rfl, rfl⟩ := hq_
  refine g_one ?_
  refine g_istore_n (pc := 4) (lv' := [(1, .int (zI 7200)), (0, .ref (ad 4))]) dX0_bestPoint_4 (by decide) rfl ?_
  refine g_iload_n (pc := 5) dX0_bestPoint_5 0 rfl ?_
  refine g_bipush (pc := 6) dX0_bestPoint_6 (by omega) ?_
  refine g_idiv (pc := 8) dX0_bestPoint_8 (by omega) (by omega) ?_
  refine g_iconst (pc := 9) dX0_bestPoint_9 ?_
  refine g_iadd (pc := 10) dX0_bestPoint_10 ?_
  refine g_istore_n (pc := 11) (lv' := [(2, .int (zI ((7200 / 32) + 1))), (1, .int (zI 7200)), (0, .ref (ad 4))]) dX0_bestPoint_11 (by decide) rfl ?_
  refine g_ldc2 (pc := 12) cl_X0_26 dX0_bestPoint_12 ?_
  refine g_lstore_n (pc := 15) (lv' := [(3, .long (zJ (-1))), (2, .int (zI ((7200 / 32) + 1))), (1, .int (zI 7200)), (0, .ref (ad 4))]) dX0_bestPoint_15 (by decide) rfl ?_
  refine g_iconst (pc := 16) dX0_bestPoint_16 ?_
  refine g_istore (pc := 17) (lv' := [(5, .int (zI 0)), (3, .long (zJ (-1))), (2, .int (zI ((7200 / 32) + 1))), (1, .int (zI 7200)), (0, .ref (ad 4))]) dX0_bestPoint_17 (by decide) rfl ?_
  refine g_sub (lv' := [(0, .ref (ad 4)), (1, .int (zI 7200)), (2, .int (zI ((7200 / 32) + 1))), (3, .long (zJ (-1))), (5, .int (zI 0))]) [4, 3, 2, 1, 0] rfl ?_
  exact lp_X0_coarse_par hB hL  (8000) (-1) 0 (CR.zero n1.1) (by omega) (by omega) (by omega)
end
section
/-! what the calls that change nothing answer -/
def NOP : Int := -9223372036854775808
def a_moduleAt (g : Nat → Int → Int) (s p : Int) : Int := if 0 ≤ s ∧ s < g 0 2 then (if p < 0 then -1003 else if p < g 6 s then memb g s p else -1005) else -1001
def a_photocurrent (g : Nat → Int → Int) (m : Int) : Int := if 0 ≤ m ∧ m < g 0 1 then photo g m else -1002
def a_moduleVoltage (g : Nat → Int → Int) (m c : Int) : Int := if 0 ≤ m ∧ m < g 0 1 then (if 0 ≤ c ∧ c ≤ 1200 then (if photo g m < c ∧ g 5 m = 0 then -1005 else volt g m c) else -1003) else -1002
def a_modulePeakPower (g : Nat → Int → Int) (m : Int) : Int := if 0 ≤ m ∧ m < g 0 1 then mpeak g m else NOP
def a_currentLimit (g : Nat → Int → Int) (s : Int) : Int := if 0 ≤ s ∧ s < g 0 2 then limit g s else -1001
def a_stringVoltage (g : Nat → Int → Int) (s c : Int) : Int := if 0 ≤ s ∧ s < g 0 2 then (if 0 ≤ c ∧ c ≤ limit g s then svolt g s c else -1003) else -1001
def a_stringPower (g : Nat → Int → Int) (s c : Int) : Int := if 0 ≤ s ∧ s < g 0 2 then (if 0 ≤ c ∧ c ≤ limit g s then spow g s c else NOP) else NOP
def a_bypassedModules (g : Nat → Int → Int) (s c : Int) : Int32 := if 0 ≤ s ∧ s < g 0 2 then (if 0 ≤ c ∧ c ≤ limit g s then byp g s c else zI (-1003)) else zI (-1001)
def a_peakCount (g : Nat → Int → Int) (s : Int) : Int := if 0 ≤ s ∧ s < g 0 2 then pkN (spow g s) (limit g s) (limit g s).toNat else -1001
def a_peakCurrent (g : Nat → Int → Int) (s k : Int) : Int := if 0 ≤ s ∧ s < g 0 2 then (if k < 0 then -1003 else pkS (spow g s) (limit g s) (limit g s).toNat 1 k) else -1001
def a_bestCurrent (g : Nat → Int → Int) (s : Int) : Int := if 0 ≤ s ∧ s < g 0 2 then bestC g s else -1001
def a_bestPower (g : Nat → Int → Int) (s : Int) : Int := if 0 ≤ s ∧ s < g 0 2 then bestP g s else NOP
def a_perturb (g : Nat → Int → Int) (s a t n : Int) : Int := if 0 ≤ s ∧ s < g 0 2 then (if (0 ≤ a ∧ a ≤ limit g s) ∧ (1 ≤ t ∧ t ≤ 100) ∧ (0 ≤ n ∧ n ≤ 200) then pobs (spow g s) (limit g s) t n.toNat a true else -1003) else -1001
def a_scan (g : Nat → Int → Int) (s v : Int) : Int := if 0 ≤ s ∧ s < g 0 2 then (if 1 ≤ v ∧ v ≤ 500 then climb (spow g s) (limit g s) (scan (spow g s) (limit g s) v) else -1003) else -1001
def a_arrayCurrent (g : Nat → Int → Int) (v : Int) : Int := if 0 ≤ v ∧ v ≤ 7200 then acur g v else -1003
def a_total (g : Nat → Int → Int) : Int := sumP (bestP g) (g 0 2).toNat
def a_loss (g : Nat → Int → Int) : Int := sumP (mpeak g) (g 0 1).toNat - sumP (bestP g) (g 0 2).toNat
theorem pkN_s (f : Int → Int) (N : Int) {i : Int} (h : 1 ≤ i) : pkN f N i.toNat = pkN f N (i - 1).toNat + (if pkB f N i = true then 1 else 0) := by
  rw [show i.toNat = (i - 1).toNat + 1 by omega]
  show pkN f N (i - 1).toNat + (if pkB f N (((i - 1).toNat + 1 : Nat) : Int) = true then 1 else 0) = _
  rw [show (((i - 1).toNat + 1 : Nat) : Int) = i by omega]
theorem pkN_b (f : Int → Int) (N : Int) : ∀ n : Nat, 0 ≤ pkN f N n ∧ pkN f N n ≤ n
  | 0 => by simp [pkN]
  | n + 1 => by
    have := pkN_b f N n
    unfold pkN
    split <;> omega
theorem pobs_t (f : Int → Int) (N t c : Int) (n : Nat) : pobs f N t (n + 1) c true = if f c < f (min (c + t) N) then pobs f N t n (min (c + t) N) true else pobs f N t n c false := rfl
theorem pobs_f (f : Int → Int) (N t c : Int) (n : Nat) : pobs f N t (n + 1) c false = if f c < f (max (c - t) 0) then pobs f N t n (max (c - t) 0) false else pobs f N t n c true := rfl
theorem bestP_b {g : Nat → Int → Int} (h : Bd g) (s : Int) : 0 ≤ bestP g s ∧ bestP g s ≤ 8640000 := by
  have h0 := limit_b h s
  have h1 := bestTo_is (spow g s) (limit g s).toNat
  have h2 : 0 ≤ bestC g s ∧ bestC g s ≤ limit g s := bestTo_b _ h0.1
  have h3 := spow_b h s (c := bestC g s) (by omega)
  have h4 : spow g s 0 = 0 := Int.zero_mul _
  have h5 : spow g s 0 ≤ spow g s (bestC g s) := by
    by_cases q : (0 : Int) < bestC g s
    · exact Int.le_of_lt (h1.2.2.1 0 (Int.le_refl _) q)
    · have : bestC g s = 0 := by omega
      rw [this]; exact Int.le_refl _
  unfold bestP
  omega
theorem mpeak_b {g : Nat → Int → Int} (h : Bd g) (i : Int) : 0 ≤ mpeak g i ∧ mpeak g i ≤ 51840000 := by
  have h0 := photo_b h i
  have h1 := bestTo_is (mpow g i) (photo g i).toNat
  have h2 : 0 ≤ mbest g i ∧ mbest g i ≤ photo g i := bestTo_b _ h0.1
  have h3 := mpow_b h i (c := mbest g i) (by omega)
  have h4 : mpow g i 0 = 0 := Int.zero_mul _
  have h5 : mpow g i 0 ≤ mpow g i (mbest g i) := by
    by_cases q : (0 : Int) < mbest g i
    · exact Int.le_of_lt (h1.2.2.1 0 (Int.le_refl _) q)
    · have : mbest g i = 0 := by omega
      rw [this]; exact Int.le_refl _
  unfold mpeak
  omega
set_option maxRecDepth 100000 in
set_option maxHeartbeats 2000000 in
/-- PvArray.moduleAt  -/
theorem c_X5_moduleAt {D : va_G} {cy : Nat → ClassId} {l : Launch} {ad : Nat → Nat} {σ : Nat → Int → Int} {X : va_W} (hB : Bd σ) (s : Int) (hs : -2147483648 ≤ s ∧ s ≤ 2147483647) (p : Int) (hp : -2147483648 ≤ p ∧ p ≤ 2147483647) : Con D cy l yX5_moduleAt cX5_moduleAt 3 (some .int) rm_X5_moduleAt [.ref (ad 0), .int (zI s), .int (zI p)] (CW cy ad σ ++ X) (rdI (a_moduleAt σ s p) (CW cy ad σ ++ X)) := by
  refine Con.of (lv := [(0, .ref (ad 0)), (1, .int (zI s)), (2, .int (zI p))]) (by decide) (Nat.le_of_ble_eq_true rfl) rfl ?_
  have g1 := hB.sc
  have g2 := hB.mc
  have g3 := hB.b6 s
  refine g_aload_n (pc := 0) dX5_moduleAt_0 0 rfl ?_
  refine g_iload_n (pc := 1) dX5_moduleAt_1 1 rfl ?_
  refine g_callV (pc := 2) (As := [.int (zI s)]) (rest := []) k_X5_70_X5 (c_X5_isString (σ := σ) hB s (by omega)) ⟨rfl, rfl, Nat.le_of_ble_eq_true rfl, Nat.le_of_ble_eq_true rfl⟩ (0) 4 rfl rfl at_arr rfl rfl (Nat.le_of_ble_eq_true rfl) dX5_moduleAt_2 (fun v_ w_ hq_ => ?_)
  rcases hq_ with ⟨rfl, rfl, hs_1⟩ | ⟨rfl, rfl, hs_1⟩
  · refine g_one ?_
    refine g_if_neT (pc := 5) 12 dX5_moduleAt_5 (by decide) (by omega) (by omega) ?_
    refine g_iload_n (pc := 12) dX5_moduleAt_12 2 rfl ?_
    refine g_if_ge (pc := 13) 20 dX5_moduleAt_13 (by decide) (by omega) (fun h_2 => ?_) (fun h_2 => ?_)
    · refine g_iload_n (pc := 20) dX5_moduleAt_20 2 rfl ?_
      refine g_aload_n (pc := 21) dX5_moduleAt_21 0 rfl ?_
      refine g_get (pc := 22) (ci := 4) inG_X5 rfl 3 (by decide) rfl fl_X5_63 (0) at_arr rfl dX5_moduleAt_22 ?_
      refine g_iload_n (pc := 25) dX5_moduleAt_25 1 rfl ?_
      refine g_aald (pc := 26) 3 4 at_strs rfl (by omega) (by decide) rfl dX5_moduleAt_26 ?_
      refine g_getN (pc := 27) (ci := 3) inG_X4 rfl 2 (by decide) rfl fl_X5_122 (31 + s.toNat) (at_str (s := s) (by omega)) rfl dX5_moduleAt_27 ?_
      refine g_icmp_ge (pc := 30) 47 dX5_moduleAt_30 (by decide) (by omega) (by omega) (fun h_3 => ?_) (fun h_3 => ?_)
      · refine g_sipush (pc := 47) dX5_moduleAt_47 (by omega) ?_
        exact g_iret (pc := 50) dX5_moduleAt_50 rfl (rdI_of (by unfold a_moduleAt memb; (repeat' split) <;> first | rfl | (exfalso; omega)))
      · refine g_aload_n (pc := 33) dX5_moduleAt_33 0 rfl ?_
        refine g_get (pc := 34) (ci := 4) inG_X5 rfl 3 (by decide) rfl fl_X5_63 (0) at_arr rfl dX5_moduleAt_34 ?_
        refine g_iload_n (pc := 37) dX5_moduleAt_37 1 rfl ?_
        refine g_aald (pc := 38) 3 4 at_strs rfl (by omega) (by decide) rfl dX5_moduleAt_38 ?_
        refine g_getN (pc := 39) (ci := 3) inG_X4 rfl 1 (by decide) rfl fl_X5_123 (31 + s.toNat) (at_str (s := s) (by omega)) rfl dX5_moduleAt_39 ?_
        refine g_iload_n (pc := 42) dX5_moduleAt_42 2 rfl ?_
        refine g_mem (pc := 43) (by omega) (by omega) dX5_moduleAt_43 ?_
        refine g_goto (pc := 44) 50 dX5_moduleAt_44 (by decide) ?_
        exact g_iret (pc := 50) dX5_moduleAt_50 rfl (rdI_of (by unfold a_moduleAt memb; (repeat' split) <;> first | rfl | (exfalso; omega)))
    · refine g_sipush (pc := 16) dX5_moduleAt_16 (by omega) ?_
      exact g_iret (pc := 19) dX5_moduleAt_19 rfl (rdI_of (by unfold a_moduleAt memb; (repeat' split) <;> first | rfl | (exfalso; omega)))
  · refine g_one ?_
    refine g_if_neF (pc := 5) 12 dX5_moduleAt_5 (by decide) (by omega) (by omega) ?_
    refine g_sipush (pc := 8) dX5_moduleAt_8 (by omega) ?_
    exact g_iret (pc := 11) dX5_moduleAt_11 rfl (rdI_of (by unfold a_moduleAt memb; (repeat' split) <;> first | rfl | (exfalso; omega)))
set_option maxRecDepth 100000 in
set_option maxHeartbeats 2000000 in
/-- PvArray.photocurrent  -/
theorem c_X5_photocurrent {D : va_G} {cy : Nat → ClassId} {l : Launch} {ad : Nat → Nat} {σ : Nat → Int → Int} {X : va_W} (hB : Bd σ) (hL : LC σ) (m : Int) (hm : -2147483648 ≤ m ∧ m ≤ 2147483647) : Con D cy l yX5_photocurrent cX5_photocurrent 2 (some .int) rm_X5_photocurrent [.ref (ad 0), .int (zI m)] (CW cy ad σ ++ X) (rdI (a_photocurrent σ m) (CW cy ad σ ++ X)) := by
  refine Con.of (lv := [(0, .ref (ad 0)), (1, .int (zI m))]) (by decide) (Nat.le_of_ble_eq_true rfl) rfl ?_
  have g1 := hB.sc
  have g2 := hB.mc
  refine g_aload_n (pc := 0) dX5_photocurrent_0 0 rfl ?_
  refine g_iload_n (pc := 1) dX5_photocurrent_1 1 rfl ?_
  refine g_callV (pc := 2) (As := [.int (zI m)]) (rest := []) k_X5_96_X5 (c_X5_isModule (σ := σ) hB m (by omega)) ⟨rfl, rfl, Nat.le_of_ble_eq_true rfl, Nat.le_of_ble_eq_true rfl⟩ (0) 4 rfl rfl at_arr rfl rfl (Nat.le_of_ble_eq_true rfl) dX5_photocurrent_2 (fun v_ w_ hq_ => ?_)
  rcases hq_ with ⟨rfl, rfl, hm_1⟩ | ⟨rfl, rfl, hm_1⟩
  · refine g_one ?_
    refine g_if_eqF (pc := 5) 20 dX5_photocurrent_5 (by decide) (by omega) (by omega) ?_
    refine g_aload_n (pc := 8) dX5_photocurrent_8 0 rfl ?_
    refine g_get (pc := 9) (ci := 4) inG_X5 rfl 1 (by decide) rfl fl_X5_59 (0) at_arr rfl dX5_photocurrent_9 ?_
    refine g_iload_n (pc := 12) dX5_photocurrent_12 1 rfl ?_
    refine g_aald (pc := 13) 2 3 at_mods rfl (by omega) (by decide) rfl dX5_photocurrent_13 ?_
    refine g_getN (pc := 14) (ci := 2) inG_X3 rfl 4 (by decide) rfl fl_X5_126 (7 + m.toNat) (at_mod (i := m) (by omega)) rfl dX5_photocurrent_14 ?_
    refine g_topI (hL _) ?_
    refine g_goto (pc := 17) 23 dX5_photocurrent_17 (by decide) ?_
    exact g_iret (pc := 23) dX5_photocurrent_23 rfl (rdI_of (by unfold a_photocurrent; (repeat' split) <;> first | rfl | (exfalso; omega)))
  · refine g_one ?_
    refine g_if_eqT (pc := 5) 20 dX5_photocurrent_5 (by decide) (by omega) (by omega) ?_
    refine g_sipush (pc := 20) dX5_photocurrent_20 (by omega) ?_
    exact g_iret (pc := 23) dX5_photocurrent_23 rfl (rdI_of (by unfold a_photocurrent; (repeat' split) <;> first | rfl | (exfalso; omega)))
set_option maxRecDepth 100000 in
set_option maxHeartbeats 2000000 in
/-- PvArray.moduleVoltage  -/
theorem c_X5_moduleVoltage {D : va_G} {cy : Nat → ClassId} {l : Launch} {ad : Nat → Nat} {σ : Nat → Int → Int} {X : va_W} (hB : Bd σ) (hL : LC σ) (m : Int) (hm : -2147483648 ≤ m ∧ m ≤ 2147483647) (c : Int) (hc : -2147483648 ≤ c ∧ c ≤ 2147483647) : Con D cy l yX5_moduleVoltage cX5_moduleVoltage 3 (some .int) rm_X5_moduleVoltage [.ref (ad 0), .int (zI m), .int (zI c)] (CW cy ad σ ++ X) (rdI (a_moduleVoltage σ m c) (CW cy ad σ ++ X)) := by
  refine Con.of (lv := [(0, .ref (ad 0)), (1, .int (zI m)), (2, .int (zI c))]) (by decide) (Nat.le_of_ble_eq_true rfl) rfl ?_
  have g1 := hB.sc
  have g2 := hB.mc
  have g3 := photo_b hB m
  have g4 := hB.b5 m
  refine g_aload_n (pc := 0) dX5_moduleVoltage_0 0 rfl ?_
  refine g_iload_n (pc := 1) dX5_moduleVoltage_1 1 rfl ?_
  refine g_callV (pc := 2) (As := [.int (zI m)]) (rest := []) k_X5_96_X5 (c_X5_isModule (σ := σ) hB m (by omega)) ⟨rfl, rfl, Nat.le_of_ble_eq_true rfl, Nat.le_of_ble_eq_true rfl⟩ (0) 4 rfl rfl at_arr rfl rfl (Nat.le_of_ble_eq_true rfl) dX5_moduleVoltage_2 (fun v_ w_ hq_ => ?_)
  rcases hq_ with ⟨rfl, rfl, hm_1⟩ | ⟨rfl, rfl, hm_1⟩
  · refine g_one ?_
    refine g_if_neT (pc := 5) 12 dX5_moduleVoltage_5 (by decide) (by omega) (by omega) ?_
    refine g_iload_n (pc := 12) dX5_moduleVoltage_12 2 rfl ?_
    refine g_iconst (pc := 13) dX5_moduleVoltage_13 ?_
    refine g_sipush (pc := 14) dX5_moduleVoltage_14 (by omega) ?_
    refine g_callS (pc := 17) (As := [.int (zI c), .int (zI 0), .int (zI 1200)]) (rest := []) k_X5_74_X5 (c_X5_isWithin (σ := σ) c 0 1200 (by omega) (by omega) (by omega)) ⟨rfl, rfl, Nat.le_of_ble_eq_true rfl, Nat.le_of_ble_eq_true rfl⟩ rfl rfl (Nat.le_of_ble_eq_true rfl) dX5_moduleVoltage_17 (fun v_ w_ hq_ => ?_)
    rcases hq_ with ⟨rfl, rfl, hw_2⟩ | ⟨rfl, rfl, hw_2⟩
    · refine g_one ?_
      refine g_if_neT (pc := 20) 27 dX5_moduleVoltage_20 (by decide) (by omega) (by omega) ?_
      refine g_iload_n (pc := 27) dX5_moduleVoltage_27 2 rfl ?_
      refine g_aload_n (pc := 28) dX5_moduleVoltage_28 0 rfl ?_
      refine g_get (pc := 29) (ci := 4) inG_X5 rfl 1 (by decide) rfl fl_X5_59 (0) at_arr rfl dX5_moduleVoltage_29 ?_
      refine g_iload_n (pc := 32) dX5_moduleVoltage_32 1 rfl ?_
      refine g_aald (pc := 33) 2 3 at_mods rfl (by omega) (by decide) rfl dX5_moduleVoltage_33 ?_
      refine g_getN (pc := 34) (ci := 2) inG_X3 rfl 4 (by decide) rfl fl_X5_126 (7 + m.toNat) (at_mod (i := m) (by omega)) rfl dX5_moduleVoltage_34 ?_
      refine g_topI (hL _) ?_
      refine g_icmp_le (pc := 37) 56 dX5_moduleVoltage_37 (by decide) (by omega) (by omega) (fun h_3 => ?_) (fun h_3 => ?_)
      · refine g_aload_n (pc := 56) dX5_moduleVoltage_56 0 rfl ?_
        refine g_get (pc := 57) (ci := 4) inG_X5 rfl 1 (by decide) rfl fl_X5_59 (0) at_arr rfl dX5_moduleVoltage_57 ?_
        refine g_iload_n (pc := 60) dX5_moduleVoltage_60 1 rfl ?_
        refine g_aald (pc := 61) 2 3 at_mods rfl (by omega) (by decide) rfl dX5_moduleVoltage_61 ?_
        refine g_iload_n (pc := 62) dX5_moduleVoltage_62 2 rfl ?_
        refine g_callV (pc := 63) (As := [.int (zI c)]) (rest := []) k_X5_129_X3 (c_X3_valueAt (σ := σ) hB hL m (by omega) c (by omega)) ⟨rfl, rfl, Nat.le_of_ble_eq_true rfl, Nat.le_of_ble_eq_true rfl⟩ (7 + m.toNat) 2 rfl rfl (at_mod (i := m) (by omega)) rfl rfl (Nat.le_of_ble_eq_true rfl) dX5_moduleVoltage_63 (fun v_ w_ hq_ => ?_)
        obtain ⟨rfl, rfl⟩ := hq_
        refine g_one ?_
        exact g_iret (pc := 66) dX5_moduleVoltage_66 rfl (rdI_of (by unfold a_moduleVoltage; (repeat' split) <;> first | rfl | (exfalso; omega)))
      · refine g_aload_n (pc := 40) dX5_moduleVoltage_40 0 rfl ?_
        refine g_get (pc := 41) (ci := 4) inG_X5 rfl 1 (by decide) rfl fl_X5_59 (0) at_arr rfl dX5_moduleVoltage_41 ?_
        refine g_iload_n (pc := 44) dX5_moduleVoltage_44 1 rfl ?_
        refine g_aald (pc := 45) 2 3 at_mods rfl (by omega) (by decide) rfl dX5_moduleVoltage_45 ?_
        refine g_getN (pc := 46) (ci := 2) inG_X3 rfl 6 (by decide) rfl fl_X5_105 (7 + m.toNat) (at_mod (i := m) (by omega)) rfl dX5_moduleVoltage_46 ?_
        refine g_if_ne (pc := 49) 56 dX5_moduleVoltage_49 (by decide) (by omega) (fun h_4 => ?_) (fun h_4 => ?_)
        · refine g_aload_n (pc := 56) dX5_moduleVoltage_56 0 rfl ?_
          refine g_get (pc := 57) (ci := 4) inG_X5 rfl 1 (by decide) rfl fl_X5_59 (0) at_arr rfl dX5_moduleVoltage_57 ?_
          refine g_iload_n (pc := 60) dX5_moduleVoltage_60 1 rfl ?_
          refine g_aald (pc := 61) 2 3 at_mods rfl (by omega) (by decide) rfl dX5_moduleVoltage_61 ?_
          refine g_iload_n (pc := 62) dX5_moduleVoltage_62 2 rfl ?_
          refine g_callV (pc := 63) (As := [.int (zI c)]) (rest := []) k_X5_129_X3 (c_X3_valueAt (σ := σ) hB hL m (by omega) c (by omega)) ⟨rfl, rfl, Nat.le_of_ble_eq_true rfl, Nat.le_of_ble_eq_true rfl⟩ (7 + m.toNat) 2 rfl rfl (at_mod (i := m) (by omega)) rfl rfl (Nat.le_of_ble_eq_true rfl) dX5_moduleVoltage_63 (fun v_ w_ hq_ => ?_)
          obtain ⟨rfl, rfl⟩ := hq_
          refine g_one ?_
          exact g_iret (pc := 66) dX5_moduleVoltage_66 rfl (rdI_of (by unfold a_moduleVoltage; (repeat' split) <;> first | rfl | (exfalso; omega)))
        · refine g_sipush (pc := 52) dX5_moduleVoltage_52 (by omega) ?_
          exact g_iret (pc := 55) dX5_moduleVoltage_55 rfl (rdI_of (by unfold a_moduleVoltage; (repeat' split) <;> first | rfl | (exfalso; omega)))
    · refine g_one ?_
      refine g_if_neF (pc := 20) 27 dX5_moduleVoltage_20 (by decide) (by omega) (by omega) ?_
      refine g_sipush (pc := 23) dX5_moduleVoltage_23 (by omega) ?_
      exact g_iret (pc := 26) dX5_moduleVoltage_26 rfl (rdI_of (by unfold a_moduleVoltage; (repeat' split) <;> first | rfl | (exfalso; omega)))
  · refine g_one ?_
    refine g_if_neF (pc := 5) 12 dX5_moduleVoltage_5 (by decide) (by omega) (by omega) ?_
    refine g_sipush (pc := 8) dX5_moduleVoltage_8 (by omega) ?_
    exact g_iret (pc := 11) dX5_moduleVoltage_11 rfl (rdI_of (by unfold a_moduleVoltage; (repeat' split) <;> first | rfl | (exfalso; omega)))
set_option maxRecDepth 100000 in
set_option maxHeartbeats 2000000 in
/-- PvArray.modulePeakPower  -/
theorem c_X5_modulePeakPower {D : va_G} {cy : Nat → ClassId} {l : Launch} {ad : Nat → Nat} {σ : Nat → Int → Int} {X : va_W} (hB : Bd σ) (hL : LC σ) (m : Int) (hm : -2147483648 ≤ m ∧ m ≤ 2147483647) : Con D cy l yX5_modulePeakPower cX5_modulePeakPower 2 (some .long) rm_X5_modulePeakPower [.ref (ad 0), .int (zI m)] (CW cy ad σ ++ X) (rdJ (a_modulePeakPower σ m) (CW cy ad σ ++ X)) := by
  refine Con.of (lv := [(0, .ref (ad 0)), (1, .int (zI m))]) (by decide) (Nat.le_of_ble_eq_true rfl) rfl ?_
  have g1 := hB.sc
  have g2 := hB.mc
  refine g_aload_n (pc := 0) dX5_modulePeakPower_0 0 rfl ?_
  refine g_iload_n (pc := 1) dX5_modulePeakPower_1 1 rfl ?_
  refine g_callV (pc := 2) (As := [.int (zI m)]) (rest := []) k_X5_96_X5 (c_X5_isModule (σ := σ) hB m (by omega)) ⟨rfl, rfl, Nat.le_of_ble_eq_true rfl, Nat.le_of_ble_eq_true rfl⟩ (0) 4 rfl rfl at_arr rfl rfl (Nat.le_of_ble_eq_true rfl) dX5_modulePeakPower_2 (fun v_ w_ hq_ => ?_)
  rcases hq_ with ⟨rfl, rfl, hm_1⟩ | ⟨rfl, rfl, hm_1⟩
  · refine g_one ?_
    refine g_if_eqF (pc := 5) 20 dX5_modulePeakPower_5 (by decide) (by omega) (by omega) ?_
    refine g_aload_n (pc := 8) dX5_modulePeakPower_8 0 rfl ?_
    refine g_get (pc := 9) (ci := 4) inG_X5 rfl 1 (by decide) rfl fl_X5_59 (0) at_arr rfl dX5_modulePeakPower_9 ?_
    refine g_iload_n (pc := 12) dX5_modulePeakPower_12 1 rfl ?_
    refine g_aald (pc := 13) 2 3 at_mods rfl (by omega) (by decide) rfl dX5_modulePeakPower_13 ?_
    refine g_callU (pc := 14) (As := []) (rest := []) k_X5_133_X3 (c_X0_greatestProduct_mod (σ := σ) hB hL m (by omega)) ⟨rfl, rfl, Nat.le_of_ble_eq_true rfl, Nat.le_of_ble_eq_true rfl⟩ (7 + m.toNat) 2 rfl rfl (at_mod (i := m) (by omega)) rfl rfl (Nat.le_of_ble_eq_true rfl) dX5_modulePeakPower_14 (fun v_ w_ hq_ => ?_)
    obtain ⟨rfl, rfl⟩ := hq_
    refine g_one ?_
    refine g_goto (pc := 17) 23 dX5_modulePeakPower_17 (by decide) ?_
    exact g_lret (pc := 23) dX5_modulePeakPower_23 rfl (rdJ_of (by unfold a_modulePeakPower; (repeat' split) <;> first | rfl | (exfalso; omega)))
  · refine g_one ?_
    refine g_if_eqT (pc := 5) 20 dX5_modulePeakPower_5 (by decide) (by omega) (by omega) ?_
    refine g_ldc2 (pc := 20) cl_X5_137 dX5_modulePeakPower_20 ?_
    exact g_lret (pc := 23) dX5_modulePeakPower_23 rfl (rdJ_of (by unfold a_modulePeakPower; (repeat' split) <;> first | rfl | (exfalso; omega)))
set_option maxRecDepth 100000 in
set_option maxHeartbeats 2000000 in
/-- PvArray.currentLimit  -/
theorem c_X5_currentLimit {D : va_G} {cy : Nat → ClassId} {l : Launch} {ad : Nat → Nat} {σ : Nat → Int → Int} {X : va_W} (hB : Bd σ) (hL : LC σ) (s : Int) (hs : -2147483648 ≤ s ∧ s ≤ 2147483647) : Con D cy l yX5_currentLimit cX5_currentLimit 2 (some .int) rm_X5_currentLimit [.ref (ad 0), .int (zI s)] (CW cy ad σ ++ X) (rdI (a_currentLimit σ s) (CW cy ad σ ++ X)) := by
  refine Con.of (lv := [(0, .ref (ad 0)), (1, .int (zI s))]) (by decide) (Nat.le_of_ble_eq_true rfl) rfl ?_
  have g1 := hB.sc
  have g2 := hB.mc
  refine g_aload_n (pc := 0) dX5_currentLimit_0 0 rfl ?_
  refine g_iload_n (pc := 1) dX5_currentLimit_1 1 rfl ?_
  refine g_callV (pc := 2) (As := [.int (zI s)]) (rest := []) k_X5_70_X5 (c_X5_isString (σ := σ) hB s (by omega)) ⟨rfl, rfl, Nat.le_of_ble_eq_true rfl, Nat.le_of_ble_eq_true rfl⟩ (0) 4 rfl rfl at_arr rfl rfl (Nat.le_of_ble_eq_true rfl) dX5_currentLimit_2 (fun v_ w_ hq_ => ?_)
  rcases hq_ with ⟨rfl, rfl, hs_1⟩ | ⟨rfl, rfl, hs_1⟩
  · refine g_one ?_
    refine g_if_eqF (pc := 5) 20 dX5_currentLimit_5 (by decide) (by omega) (by omega) ?_
    refine g_aload_n (pc := 8) dX5_currentLimit_8 0 rfl ?_
    refine g_get (pc := 9) (ci := 4) inG_X5 rfl 3 (by decide) rfl fl_X5_63 (0) at_arr rfl dX5_currentLimit_9 ?_
    refine g_iload_n (pc := 12) dX5_currentLimit_12 1 rfl ?_
    refine g_aald (pc := 13) 3 4 at_strs rfl (by omega) (by decide) rfl dX5_currentLimit_13 ?_
    refine g_callV (pc := 14) (As := []) (rest := []) k_X5_139_X4 (c_X4_end (σ := σ) hB hL s (by omega)) ⟨rfl, rfl, Nat.le_of_ble_eq_true rfl, Nat.le_of_ble_eq_true rfl⟩ (31 + s.toNat) 3 rfl rfl (at_str (s := s) (by omega)) rfl rfl (Nat.le_of_ble_eq_true rfl) dX5_currentLimit_14 (fun v_ w_ hq_ => ?_)
    obtain ⟨rfl, rfl⟩ := hq_
    refine g_one ?_
    refine g_goto (pc := 17) 23 dX5_currentLimit_17 (by decide) ?_
    exact g_iret (pc := 23) dX5_currentLimit_23 rfl (rdI_of (by unfold a_currentLimit; (repeat' split) <;> first | rfl | (exfalso; omega)))
  · refine g_one ?_
    refine g_if_eqT (pc := 5) 20 dX5_currentLimit_5 (by decide) (by omega) (by omega) ?_
    refine g_sipush (pc := 20) dX5_currentLimit_20 (by omega) ?_
    exact g_iret (pc := 23) dX5_currentLimit_23 rfl (rdI_of (by unfold a_currentLimit; (repeat' split) <;> first | rfl | (exfalso; omega)))
set_option maxRecDepth 100000 in
set_option maxHeartbeats 2000000 in
/-- PvArray.stringVoltage  -/
theorem c_X5_stringVoltage {D : va_G} {cy : Nat → ClassId} {l : Launch} {ad : Nat → Nat} {σ : Nat → Int → Int} {X : va_W} (hB : Bd σ) (hL : LC σ) (s : Int) (hs : -2147483648 ≤ s ∧ s ≤ 2147483647) (c : Int) (hc : -2147483648 ≤ c ∧ c ≤ 2147483647) : Con D cy l yX5_stringVoltage cX5_stringVoltage 3 (some .int) rm_X5_stringVoltage [.ref (ad 0), .int (zI s), .int (zI c)] (CW cy ad σ ++ X) (rdI (a_stringVoltage σ s c) (CW cy ad σ ++ X)) := by
  refine Con.of (lv := [(0, .ref (ad 0)), (1, .int (zI s)), (2, .int (zI c))]) (by decide) (Nat.le_of_ble_eq_true rfl) rfl ?_
  have g1 := hB.sc
  have g2 := hB.mc
  have g3 := limit_b hB s
  refine g_aload_n (pc := 0) dX5_stringVoltage_0 0 rfl ?_
  refine g_iload_n (pc := 1) dX5_stringVoltage_1 1 rfl ?_
  refine g_callV (pc := 2) (As := [.int (zI s)]) (rest := []) k_X5_70_X5 (c_X5_isString (σ := σ) hB s (by omega)) ⟨rfl, rfl, Nat.le_of_ble_eq_true rfl, Nat.le_of_ble_eq_true rfl⟩ (0) 4 rfl rfl at_arr rfl rfl (Nat.le_of_ble_eq_true rfl) dX5_stringVoltage_2 (fun v_ w_ hq_ => ?_)
  rcases hq_ with ⟨rfl, rfl, hs_1⟩ | ⟨rfl, rfl, hs_1⟩
  · refine g_one ?_
    refine g_if_neT (pc := 5) 12 dX5_stringVoltage_5 (by decide) (by omega) (by omega) ?_
    refine g_iload_n (pc := 12) dX5_stringVoltage_12 2 rfl ?_
    refine g_iconst (pc := 13) dX5_stringVoltage_13 ?_
    refine g_aload_n (pc := 14) dX5_stringVoltage_14 0 rfl ?_
    refine g_get (pc := 15) (ci := 4) inG_X5 rfl 3 (by decide) rfl fl_X5_63 (0) at_arr rfl dX5_stringVoltage_15 ?_
    refine g_iload_n (pc := 18) dX5_stringVoltage_18 1 rfl ?_
    refine g_aald (pc := 19) 3 4 at_strs rfl (by omega) (by decide) rfl dX5_stringVoltage_19 ?_
    refine g_callV (pc := 20) (As := []) (rest := [.int (zI 0), .int (zI c)]) k_X5_139_X4 (c_X4_end (σ := σ) hB hL s (by omega)) ⟨rfl, rfl, Nat.le_of_ble_eq_true rfl, Nat.le_of_ble_eq_true rfl⟩ (31 + s.toNat) 3 rfl rfl (at_str (s := s) (by omega)) rfl rfl (Nat.le_of_ble_eq_true rfl) dX5_stringVoltage_20 (fun v_ w_ hq_ => ?_)
    obtain ⟨rfl, rfl⟩ := hq_
    refine g_one ?_
    refine g_callS (pc := 23) (As := [.int (zI c), .int (zI 0), .int (zI (limit σ s))]) (rest := []) k_X5_74_X5 (c_X5_isWithin (σ := σ) c 0 (limit σ s) (by omega) (by omega) (by omega)) ⟨rfl, rfl, Nat.le_of_ble_eq_true rfl, Nat.le_of_ble_eq_true rfl⟩ rfl rfl (Nat.le_of_ble_eq_true rfl) dX5_stringVoltage_23 (fun v_ w_ hq_ => ?_)
    rcases hq_ with ⟨rfl, rfl, hw_2⟩ | ⟨rfl, rfl, hw_2⟩
    · refine g_one ?_
      refine g_if_neT (pc := 26) 33 dX5_stringVoltage_26 (by decide) (by omega) (by omega) ?_
      refine g_aload_n (pc := 33) dX5_stringVoltage_33 0 rfl ?_
      refine g_get (pc := 34) (ci := 4) inG_X5 rfl 3 (by decide) rfl fl_X5_63 (0) at_arr rfl dX5_stringVoltage_34 ?_
      refine g_iload_n (pc := 37) dX5_stringVoltage_37 1 rfl ?_
      refine g_aald (pc := 38) 3 4 at_strs rfl (by omega) (by decide) rfl dX5_stringVoltage_38 ?_
      refine g_iload_n (pc := 39) dX5_stringVoltage_39 2 rfl ?_
      refine g_callV (pc := 40) (As := [.int (zI c)]) (rest := []) k_X5_143_X4 (c_X4_valueAt (σ := σ) hB hL s (by omega) c (by omega)) ⟨rfl, rfl, Nat.le_of_ble_eq_true rfl, Nat.le_of_ble_eq_true rfl⟩ (31 + s.toNat) 3 rfl rfl (at_str (s := s) (by omega)) rfl rfl (Nat.le_of_ble_eq_true rfl) dX5_stringVoltage_40 (fun v_ w_ hq_ => ?_)
      obtain ⟨rfl, rfl⟩ := hq_
      refine g_one ?_
      exact g_iret (pc := 43) dX5_stringVoltage_43 rfl (rdI_of (by unfold a_stringVoltage; (repeat' split) <;> first | rfl | (exfalso; omega)))
    · refine g_one ?_
      refine g_if_neF (pc := 26) 33 dX5_stringVoltage_26 (by decide) (by omega) (by omega) ?_
      refine g_sipush (pc := 29) dX5_stringVoltage_29 (by omega) ?_
      exact g_iret (pc := 32) dX5_stringVoltage_32 rfl (rdI_of (by unfold a_stringVoltage; (repeat' split) <;> first | rfl | (exfalso; omega)))
  · refine g_one ?_
    refine g_if_neF (pc := 5) 12 dX5_stringVoltage_5 (by decide) (by omega) (by omega) ?_
    refine g_sipush (pc := 8) dX5_stringVoltage_8 (by omega) ?_
    exact g_iret (pc := 11) dX5_stringVoltage_11 rfl (rdI_of (by unfold a_stringVoltage; (repeat' split) <;> first | rfl | (exfalso; omega)))
set_option maxRecDepth 100000 in
set_option maxHeartbeats 2000000 in
/-- PvArray.stringPower  -/
theorem c_X5_stringPower {D : va_G} {cy : Nat → ClassId} {l : Launch} {ad : Nat → Nat} {σ : Nat → Int → Int} {X : va_W} (hB : Bd σ) (hL : LC σ) (s : Int) (hs : -2147483648 ≤ s ∧ s ≤ 2147483647) (c : Int) (hc : -2147483648 ≤ c ∧ c ≤ 2147483647) : Con D cy l yX5_stringPower cX5_stringPower 3 (some .long) rm_X5_stringPower [.ref (ad 0), .int (zI s), .int (zI c)] (CW cy ad σ ++ X) (rdJ (a_stringPower σ s c) (CW cy ad σ ++ X)) := by
  refine Con.of (lv := [(0, .ref (ad 0)), (1, .int (zI s)), (2, .int (zI c))]) (by decide) (Nat.le_of_ble_eq_true rfl) rfl ?_
  have g1 := hB.sc
  have g2 := hB.mc
  have g3 := limit_b hB s
  refine g_aload_n (pc := 0) dX5_stringPower_0 0 rfl ?_
  refine g_iload_n (pc := 1) dX5_stringPower_1 1 rfl ?_
  refine g_callV (pc := 2) (As := [.int (zI s)]) (rest := []) k_X5_70_X5 (c_X5_isString (σ := σ) hB s (by omega)) ⟨rfl, rfl, Nat.le_of_ble_eq_true rfl, Nat.le_of_ble_eq_true rfl⟩ (0) 4 rfl rfl at_arr rfl rfl (Nat.le_of_ble_eq_true rfl) dX5_stringPower_2 (fun v_ w_ hq_ => ?_)
  rcases hq_ with ⟨rfl, rfl, hs_1⟩ | ⟨rfl, rfl, hs_1⟩
  · refine g_one ?_
    refine g_if_eqF (pc := 5) 25 dX5_stringPower_5 (by decide) (by omega) (by omega) ?_
    refine g_iload_n (pc := 8) dX5_stringPower_8 2 rfl ?_
    refine g_iconst (pc := 9) dX5_stringPower_9 ?_
    refine g_aload_n (pc := 10) dX5_stringPower_10 0 rfl ?_
    refine g_get (pc := 11) (ci := 4) inG_X5 rfl 3 (by decide) rfl fl_X5_63 (0) at_arr rfl dX5_stringPower_11 ?_
    refine g_iload_n (pc := 14) dX5_stringPower_14 1 rfl ?_
    refine g_aald (pc := 15) 3 4 at_strs rfl (by omega) (by decide) rfl dX5_stringPower_15 ?_
    refine g_callV (pc := 16) (As := []) (rest := [.int (zI 0), .int (zI c)]) k_X5_139_X4 (c_X4_end (σ := σ) hB hL s (by omega)) ⟨rfl, rfl, Nat.le_of_ble_eq_true rfl, Nat.le_of_ble_eq_true rfl⟩ (31 + s.toNat) 3 rfl rfl (at_str (s := s) (by omega)) rfl rfl (Nat.le_of_ble_eq_true rfl) dX5_stringPower_16 (fun v_ w_ hq_ => ?_)
    obtain ⟨rfl, rfl⟩ := hq_
    refine g_one ?_
    refine g_callS (pc := 19) (As := [.int (zI c), .int (zI 0), .int (zI (limit σ s))]) (rest := []) k_X5_74_X5 (c_X5_isWithin (σ := σ) c 0 (limit σ s) (by omega) (by omega) (by omega)) ⟨rfl, rfl, Nat.le_of_ble_eq_true rfl, Nat.le_of_ble_eq_true rfl⟩ rfl rfl (Nat.le_of_ble_eq_true rfl) dX5_stringPower_19 (fun v_ w_ hq_ => ?_)
    rcases hq_ with ⟨rfl, rfl, hw_2⟩ | ⟨rfl, rfl, hw_2⟩
    · refine g_one ?_
      refine g_if_neT (pc := 22) 29 dX5_stringPower_22 (by decide) (by omega) (by omega) ?_
      refine g_aload_n (pc := 29) dX5_stringPower_29 0 rfl ?_
      refine g_get (pc := 30) (ci := 4) inG_X5 rfl 3 (by decide) rfl fl_X5_63 (0) at_arr rfl dX5_stringPower_30 ?_
      refine g_iload_n (pc := 33) dX5_stringPower_33 1 rfl ?_
      refine g_aald (pc := 34) 3 4 at_strs rfl (by omega) (by decide) rfl dX5_stringPower_34 ?_
      refine g_iload_n (pc := 35) dX5_stringPower_35 2 rfl ?_
      refine g_callU (pc := 36) (As := [.int (zI c)]) (rest := []) k_X5_144_X4 (c_X0_productAt_str (σ := σ) hB hL s (by omega) c (by omega)) ⟨rfl, rfl, Nat.le_of_ble_eq_true rfl, Nat.le_of_ble_eq_true rfl⟩ (31 + s.toNat) 3 rfl rfl (at_str (s := s) (by omega)) rfl rfl (Nat.le_of_ble_eq_true rfl) dX5_stringPower_36 (fun v_ w_ hq_ => ?_)
      obtain ⟨rfl, rfl⟩ := hq_
      refine g_one ?_
      exact g_lret (pc := 39) dX5_stringPower_39 rfl (rdJ_of (by unfold a_stringPower; (repeat' split) <;> first | rfl | (exfalso; omega)))
    · refine g_one ?_
      refine g_if_neF (pc := 22) 29 dX5_stringPower_22 (by decide) (by omega) (by omega) ?_
      refine g_ldc2 (pc := 25) cl_X5_137 dX5_stringPower_25 ?_
      exact g_lret (pc := 28) dX5_stringPower_28 rfl (rdJ_of (by unfold a_stringPower; (repeat' split) <;> first | rfl | (exfalso; omega)))
  · refine g_one ?_
    refine g_if_eqT (pc := 5) 25 dX5_stringPower_5 (by decide) (by omega) (by omega) ?_
    refine g_ldc2 (pc := 25) cl_X5_137 dX5_stringPower_25 ?_
    exact g_lret (pc := 28) dX5_stringPower_28 rfl (rdJ_of (by unfold a_stringPower; (repeat' split) <;> first | rfl | (exfalso; omega)))
set_option maxRecDepth 100000 in
set_option maxHeartbeats 2000000 in
/-- PvArray.bypassedModules  -/
theorem c_X5_bypassedModules {D : va_G} {cy : Nat → ClassId} {l : Launch} {ad : Nat → Nat} {σ : Nat → Int → Int} {X : va_W} (hB : Bd σ) (hL : LC σ) (s : Int) (hs : -2147483648 ≤ s ∧ s ≤ 2147483647) (c : Int) (hc : -2147483648 ≤ c ∧ c ≤ 2147483647) : Con D cy l yX5_bypassedModules cX5_bypassedModules 3 (some .int) rm_X5_bypassedModules [.ref (ad 0), .int (zI s), .int (zI c)] (CW cy ad σ ++ X) (fun v w' => v = some (.int (a_bypassedModules σ s c)) ∧ w' = CW cy ad σ ++ X) := by
  refine Con.of (lv := [(0, .ref (ad 0)), (1, .int (zI s)), (2, .int (zI c))]) (by decide) (Nat.le_of_ble_eq_true rfl) rfl ?_
  have g1 := hB.sc
  have g2 := hB.mc
  have g3 := limit_b hB s
  refine g_aload_n (pc := 0) dX5_bypassedModules_0 0 rfl ?_
  refine g_iload_n (pc := 1) dX5_bypassedModules_1 1 rfl ?_
  refine g_callV (pc := 2) (As := [.int (zI s)]) (rest := []) k_X5_70_X5 (c_X5_isString (σ := σ) hB s (by omega)) ⟨rfl, rfl, Nat.le_of_ble_eq_true rfl, Nat.le_of_ble_eq_true rfl⟩ (0) 4 rfl rfl at_arr rfl rfl (Nat.le_of_ble_eq_true rfl) dX5_bypassedModules_2 (fun v_ w_ hq_ => ?_)
  rcases hq_ with ⟨rfl, rfl, hs_1⟩ | ⟨rfl, rfl, hs_1⟩
  · refine g_one ?_
    refine g_if_neT (pc := 5) 12 dX5_bypassedModules_5 (by decide) (by omega) (by omega) ?_
    refine g_iload_n (pc := 12) dX5_bypassedModules_12 2 rfl ?_
    refine g_iconst (pc := 13) dX5_bypassedModules_13 ?_
    refine g_aload_n (pc := 14) dX5_bypassedModules_14 0 rfl ?_
    refine g_get (pc := 15) (ci := 4) inG_X5 rfl 3 (by decide) rfl fl_X5_63 (0) at_arr rfl dX5_bypassedModules_15 ?_
    refine g_iload_n (pc := 18) dX5_bypassedModules_18 1 rfl ?_
    refine g_aald (pc := 19) 3 4 at_strs rfl (by omega) (by decide) rfl dX5_bypassedModules_19 ?_
    refine g_callV (pc := 20) (As := []) (rest := [.int (zI 0), .int (zI c)]) k_X5_139_X4 (c_X4_end (σ := σ) hB hL s (by omega)) ⟨rfl, rfl, Nat.le_of_ble_eq_true rfl, Nat.le_of_ble_eq_true rfl⟩ (31 + s.toNat) 3 rfl rfl (at_str (s := s) (by omega)) rfl rfl (Nat.le_of_ble_eq_true rfl) dX5_bypassedModules_20 (fun v_ w_ hq_ => ?_)
    obtain ⟨rfl, rfl⟩ := hq_
    refine g_one ?_
    refine g_callS (pc := 23) (As := [.int (zI c), .int (zI 0), .int (zI (limit σ s))]) (rest := []) k_X5_74_X5 (c_X5_isWithin (σ := σ) c 0 (limit σ s) (by omega) (by omega) (by omega)) ⟨rfl, rfl, Nat.le_of_ble_eq_true rfl, Nat.le_of_ble_eq_true rfl⟩ rfl rfl (Nat.le_of_ble_eq_true rfl) dX5_bypassedModules_23 (fun v_ w_ hq_ => ?_)
    rcases hq_ with ⟨rfl, rfl, hw_2⟩ | ⟨rfl, rfl, hw_2⟩
    · refine g_one ?_
      refine g_if_neT (pc := 26) 33 dX5_bypassedModules_26 (by decide) (by omega) (by omega) ?_
      refine g_aload_n (pc := 33) dX5_bypassedModules_33 0 rfl ?_
      refine g_get (pc := 34) (ci := 4) inG_X5 rfl 3 (by decide) rfl fl_X5_63 (0) at_arr rfl dX5_bypassedModules_34 ?_
      refine g_iload_n (pc := 37) dX5_bypassedModules_37 1 rfl ?_
      refine g_aald (pc := 38) 3 4 at_strs rfl (by omega) (by decide) rfl dX5_bypassedModules_38 ?_
      refine g_iload_n (pc := 39) dX5_bypassedModules_39 2 rfl ?_
      refine g_callN (pc := 40) (As := [.int (zI c)]) (rest := []) k_X5_148_X4 (c_X4_bypassedAt (σ := σ) hB hL s (by omega) c (by omega)) ⟨rfl, rfl, Nat.le_of_ble_eq_true rfl, Nat.le_of_ble_eq_true rfl⟩ (31 + s.toNat) 3 rfl rfl (at_str (s := s) (by omega)) rfl rfl (Nat.le_of_ble_eq_true rfl) dX5_bypassedModules_40 (fun v_ w_ hq_ => ?_)
      obtain ⟨rfl, rfl⟩ := hq_
      refine g_one ?_
      exact g_iret (pc := 43) dX5_bypassedModules_43 rfl (⟨by unfold a_bypassedModules; (repeat' split) <;> first | rfl | (exfalso; omega), rfl⟩)
    · refine g_one ?_
      refine g_if_neF (pc := 26) 33 dX5_bypassedModules_26 (by decide) (by omega) (by omega) ?_
      refine g_sipush (pc := 29) dX5_bypassedModules_29 (by omega) ?_
      exact g_iret (pc := 32) dX5_bypassedModules_32 rfl (⟨by unfold a_bypassedModules; (repeat' split) <;> first | rfl | (exfalso; omega), rfl⟩)
  · refine g_one ?_
    refine g_if_neF (pc := 5) 12 dX5_bypassedModules_5 (by decide) (by omega) (by omega) ?_
    refine g_sipush (pc := 8) dX5_bypassedModules_8 (by omega) ?_
    exact g_iret (pc := 11) dX5_bypassedModules_11 rfl (⟨by unfold a_bypassedModules; (repeat' split) <;> first | rfl | (exfalso; omega), rfl⟩)
set_option maxRecDepth 100000 in
set_option maxHeartbeats 2000000 in
/-- PvArray.bestCurrent  -/
theorem c_X5_bestCurrent {D : va_G} {cy : Nat → ClassId} {l : Launch} {ad : Nat → Nat} {σ : Nat → Int → Int} {X : va_W} (hB : Bd σ) (hL : LC σ) (s : Int) (hs : -2147483648 ≤ s ∧ s ≤ 2147483647) : Con D cy l yX5_bestCurrent cX5_bestCurrent 2 (some .int) rm_X5_bestCurrent [.ref (ad 0), .int (zI s)] (CW cy ad σ ++ X) (rdI (a_bestCurrent σ s) (CW cy ad σ ++ X)) := by
  refine Con.of (lv := [(0, .ref (ad 0)), (1, .int (zI s))]) (by decide) (Nat.le_of_ble_eq_true rfl) rfl ?_
  have g1 := hB.sc
  have g2 := hB.mc
  refine g_aload_n (pc := 0) dX5_bestCurrent_0 0 rfl ?_
  refine g_iload_n (pc := 1) dX5_bestCurrent_1 1 rfl ?_
  refine g_callV (pc := 2) (As := [.int (zI s)]) (rest := []) k_X5_70_X5 (c_X5_isString (σ := σ) hB s (by omega)) ⟨rfl, rfl, Nat.le_of_ble_eq_true rfl, Nat.le_of_ble_eq_true rfl⟩ (0) 4 rfl rfl at_arr rfl rfl (Nat.le_of_ble_eq_true rfl) dX5_bestCurrent_2 (fun v_ w_ hq_ => ?_)
  rcases hq_ with ⟨rfl, rfl, hs_1⟩ | ⟨rfl, rfl, hs_1⟩
  · refine g_one ?_
    refine g_if_eqF (pc := 5) 20 dX5_bestCurrent_5 (by decide) (by omega) (by omega) ?_
    refine g_aload_n (pc := 8) dX5_bestCurrent_8 0 rfl ?_
    refine g_get (pc := 9) (ci := 4) inG_X5 rfl 3 (by decide) rfl fl_X5_63 (0) at_arr rfl dX5_bestCurrent_9 ?_
    refine g_iload_n (pc := 12) dX5_bestCurrent_12 1 rfl ?_
    refine g_aald (pc := 13) 3 4 at_strs rfl (by omega) (by decide) rfl dX5_bestCurrent_13 ?_
    refine g_callU (pc := 14) (As := []) (rest := []) k_X5_155_X4 (c_X0_bestPoint_str (σ := σ) hB hL s (by omega)) ⟨rfl, rfl, Nat.le_of_ble_eq_true rfl, Nat.le_of_ble_eq_true rfl⟩ (31 + s.toNat) 3 rfl rfl (at_str (s := s) (by omega)) rfl rfl (Nat.le_of_ble_eq_true rfl) dX5_bestCurrent_14 (fun v_ w_ hq_ => ?_)
    obtain ⟨rfl, rfl⟩ := hq_
    refine g_one ?_
    refine g_goto (pc := 17) 23 dX5_bestCurrent_17 (by decide) ?_
    exact g_iret (pc := 23) dX5_bestCurrent_23 rfl (rdI_of (by unfold a_bestCurrent; (repeat' split) <;> first | rfl | (exfalso; omega)))
  · refine g_one ?_
    refine g_if_eqT (pc := 5) 20 dX5_bestCurrent_5 (by decide) (by omega) (by omega) ?_
    refine g_sipush (pc := 20) dX5_bestCurrent_20 (by omega) ?_
    exact g_iret (pc := 23) dX5_bestCurrent_23 rfl (rdI_of (by unfold a_bestCurrent; (repeat' split) <;> first | rfl | (exfalso; omega)))
set_option maxRecDepth 100000 in
set_option maxHeartbeats 2000000 in
/-- PvArray.bestPower  -/
theorem c_X5_bestPower {D : va_G} {cy : Nat → ClassId} {l : Launch} {ad : Nat → Nat} {σ : Nat → Int → Int} {X : va_W} (hB : Bd σ) (hL : LC σ) (s : Int) (hs : -2147483648 ≤ s ∧ s ≤ 2147483647) : Con D cy l yX5_bestPower cX5_bestPower 2 (some .long) rm_X5_bestPower [.ref (ad 0), .int (zI s)] (CW cy ad σ ++ X) (rdJ (a_bestPower σ s) (CW cy ad σ ++ X)) := by
  refine Con.of (lv := [(0, .ref (ad 0)), (1, .int (zI s))]) (by decide) (Nat.le_of_ble_eq_true rfl) rfl ?_
  have g1 := hB.sc
  have g2 := hB.mc
  refine g_aload_n (pc := 0) dX5_bestPower_0 0 rfl ?_
  refine g_iload_n (pc := 1) dX5_bestPower_1 1 rfl ?_
  refine g_callV (pc := 2) (As := [.int (zI s)]) (rest := []) k_X5_70_X5 (c_X5_isString (σ := σ) hB s (by omega)) ⟨rfl, rfl, Nat.le_of_ble_eq_true rfl, Nat.le_of_ble_eq_true rfl⟩ (0) 4 rfl rfl at_arr rfl rfl (Nat.le_of_ble_eq_true rfl) dX5_bestPower_2 (fun v_ w_ hq_ => ?_)
  rcases hq_ with ⟨rfl, rfl, hs_1⟩ | ⟨rfl, rfl, hs_1⟩
  · refine g_one ?_
    refine g_if_eqF (pc := 5) 20 dX5_bestPower_5 (by decide) (by omega) (by omega) ?_
    refine g_aload_n (pc := 8) dX5_bestPower_8 0 rfl ?_
    refine g_get (pc := 9) (ci := 4) inG_X5 rfl 3 (by decide) rfl fl_X5_63 (0) at_arr rfl dX5_bestPower_9 ?_
    refine g_iload_n (pc := 12) dX5_bestPower_12 1 rfl ?_
    refine g_aald (pc := 13) 3 4 at_strs rfl (by omega) (by decide) rfl dX5_bestPower_13 ?_
    refine g_callU (pc := 14) (As := []) (rest := []) k_X5_158_X4 (c_X0_greatestProduct_str (σ := σ) hB hL s (by omega)) ⟨rfl, rfl, Nat.le_of_ble_eq_true rfl, Nat.le_of_ble_eq_true rfl⟩ (31 + s.toNat) 3 rfl rfl (at_str (s := s) (by omega)) rfl rfl (Nat.le_of_ble_eq_true rfl) dX5_bestPower_14 (fun v_ w_ hq_ => ?_)
    obtain ⟨rfl, rfl⟩ := hq_
    refine g_one ?_
    refine g_goto (pc := 17) 23 dX5_bestPower_17 (by decide) ?_
    exact g_lret (pc := 23) dX5_bestPower_23 rfl (rdJ_of (by unfold a_bestPower; (repeat' split) <;> first | rfl | (exfalso; omega)))
  · refine g_one ?_
    refine g_if_eqT (pc := 5) 20 dX5_bestPower_5 (by decide) (by omega) (by omega) ?_
    refine g_ldc2 (pc := 20) cl_X5_137 dX5_bestPower_20 ?_
    exact g_lret (pc := 23) dX5_bestPower_23 rfl (rdJ_of (by unfold a_bestPower; (repeat' split) <;> first | rfl | (exfalso; omega)))
set_option maxRecDepth 100000 in
set_option maxHeartbeats 2000000 in
/-- PvArray.scanAndClimb  -/
theorem c_X5_scanAndClimb {D : va_G} {cy : Nat → ClassId} {l : Launch} {ad : Nat → Nat} {σ : Nat → Int → Int} {X : va_W} (hB : Bd σ) (hL : LC σ) (s : Int) (hs : -2147483648 ≤ s ∧ s ≤ 2147483647) (v : Int) (hv : -2147483648 ≤ v ∧ v ≤ 2147483647) : Con D cy l yX5_scanAndClimb cX5_scanAndClimb 3 (some .int) rm_X5_scanAndClimb [.ref (ad 0), .int (zI s), .int (zI v)] (CW cy ad σ ++ X) (rdI (a_scan σ s v) (CW cy ad σ ++ X)) := by
  refine Con.of (lv := [(0, .ref (ad 0)), (1, .int (zI s)), (2, .int (zI v))]) (by decide) (Nat.le_of_ble_eq_true rfl) rfl ?_
  have g1 := hB.sc
  have g2 := hB.mc
  have g3 := limit_b hB s
  refine g_aload_n (pc := 0) dX5_scanAndClimb_0 0 rfl ?_
  refine g_iload_n (pc := 1) dX5_scanAndClimb_1 1 rfl ?_
  refine g_callV (pc := 2) (As := [.int (zI s)]) (rest := []) k_X5_70_X5 (c_X5_isString (σ := σ) hB s (by omega)) ⟨rfl, rfl, Nat.le_of_ble_eq_true rfl, Nat.le_of_ble_eq_true rfl⟩ (0) 4 rfl rfl at_arr rfl rfl (Nat.le_of_ble_eq_true rfl) dX5_scanAndClimb_2 (fun v_ w_ hq_ => ?_)
  rcases hq_ with ⟨rfl, rfl, hs_1⟩ | ⟨rfl, rfl, hs_1⟩
  · refine g_one ?_
    refine g_if_neT (pc := 5) 12 dX5_scanAndClimb_5 (by decide) (by omega) (by omega) ?_
    refine g_iload_n (pc := 12) dX5_scanAndClimb_12 2 rfl ?_
    refine g_iconst (pc := 13) dX5_scanAndClimb_13 ?_
    refine g_sipush (pc := 14) dX5_scanAndClimb_14 (by omega) ?_
    refine g_callS (pc := 17) (As := [.int (zI v), .int (zI 1), .int (zI 500)]) (rest := []) k_X5_74_X5 (c_X5_isWithin (σ := σ) v 1 500 (by omega) (by omega) (by omega)) ⟨rfl, rfl, Nat.le_of_ble_eq_true rfl, Nat.le_of_ble_eq_true rfl⟩ rfl rfl (Nat.le_of_ble_eq_true rfl) dX5_scanAndClimb_17 (fun v_ w_ hq_ => ?_)
    rcases hq_ with ⟨rfl, rfl, hw_2⟩ | ⟨rfl, rfl, hw_2⟩
    · refine g_one ?_
      refine g_if_neT (pc := 20) 27 dX5_scanAndClimb_20 (by decide) (by omega) (by omega) ?_
      refine g_aload_n (pc := 27) dX5_scanAndClimb_27 0 rfl ?_
      refine g_get (pc := 28) (ci := 4) inG_X5 rfl 3 (by decide) rfl fl_X5_63 (0) at_arr rfl dX5_scanAndClimb_28 ?_
      refine g_iload_n (pc := 31) dX5_scanAndClimb_31 1 rfl ?_
      refine g_aald (pc := 32) 3 4 at_strs rfl (by omega) (by decide) rfl dX5_scanAndClimb_32 ?_
      refine g_aload_n (pc := 33) dX5_scanAndClimb_33 0 rfl ?_
      refine g_get (pc := 34) (ci := 4) inG_X5 rfl 3 (by decide) rfl fl_X5_63 (0) at_arr rfl dX5_scanAndClimb_34 ?_
      refine g_iload_n (pc := 37) dX5_scanAndClimb_37 1 rfl ?_
      refine g_aald (pc := 38) 3 4 at_strs rfl (by omega) (by decide) rfl dX5_scanAndClimb_38 ?_
      refine g_iload_n (pc := 39) dX5_scanAndClimb_39 2 rfl ?_
      refine g_callN (pc := 40) (As := [.int (zI v)]) (rest := [.ref (ad (31 + s.toNat))]) k_X5_167_X4 (c_X4_bestOfScan (σ := σ) hB hL s (by omega) v (by omega)) ⟨rfl, rfl, Nat.le_of_ble_eq_true rfl, Nat.le_of_ble_eq_true rfl⟩ (31 + s.toNat) 3 rfl rfl (at_str (s := s) (by omega)) rfl rfl (Nat.le_of_ble_eq_true rfl) dX5_scanAndClimb_40 (fun v_ w_ hq_ => ?_)
      obtain ⟨rfl, rfl⟩ := hq_
      refine g_one ?_
      refine g_callN (pc := 43) (As := [.int (zI (scan (spow σ s) (limit σ s) v))]) (rest := []) k_X5_170_X4 (c_X4_climbFrom (σ := σ) hB hL s (by omega) (scan (spow σ s) (limit σ s) v) (by have := scan_b (spow σ s) (N := limit σ s) (v := v) (by omega) (by omega); omega)) ⟨rfl, rfl, Nat.le_of_ble_eq_true rfl, Nat.le_of_ble_eq_true rfl⟩ (31 + s.toNat) 3 rfl rfl (at_str (s := s) (by omega)) rfl rfl (Nat.le_of_ble_eq_true rfl) dX5_scanAndClimb_43 (fun v_ w_ hq_ => ?_)
      obtain ⟨rfl, rfl⟩ := hq_
      refine g_one ?_
      exact g_iret (pc := 46) dX5_scanAndClimb_46 rfl (rdI_of (by unfold a_scan; (repeat' split) <;> first | rfl | (exfalso; omega)))
    · refine g_one ?_
      refine g_if_neF (pc := 20) 27 dX5_scanAndClimb_20 (by decide) (by omega) (by omega) ?_
      refine g_sipush (pc := 23) dX5_scanAndClimb_23 (by omega) ?_
      exact g_iret (pc := 26) dX5_scanAndClimb_26 rfl (rdI_of (by unfold a_scan; (repeat' split) <;> first | rfl | (exfalso; omega)))
  · refine g_one ?_
    refine g_if_neF (pc := 5) 12 dX5_scanAndClimb_5 (by decide) (by omega) (by omega) ?_
    refine g_sipush (pc := 8) dX5_scanAndClimb_8 (by omega) ?_
    exact g_iret (pc := 11) dX5_scanAndClimb_11 rfl (rdI_of (by unfold a_scan; (repeat' split) <;> first | rfl | (exfalso; omega)))
set_option maxRecDepth 100000 in
set_option maxHeartbeats 2000000 in
/-- PvArray.arrayCurrent  -/
theorem c_X5_arrayCurrent {D : va_G} {cy : Nat → ClassId} {l : Launch} {ad : Nat → Nat} {σ : Nat → Int → Int} {X : va_W} (hB : Bd σ) (hL : LC σ) (v : Int) (hv : -2147483648 ≤ v ∧ v ≤ 2147483647) : Con D cy l yX5_arrayCurrent cX5_arrayCurrent 2 (some .int) rm_X5_arrayCurrent [.ref (ad 0), .int (zI v)] (CW cy ad σ ++ X) (rdI (a_arrayCurrent σ v) (CW cy ad σ ++ X)) := by
  refine Con.of (lv := [(0, .ref (ad 0)), (1, .int (zI v))]) (by decide) (Nat.le_of_ble_eq_true rfl) rfl ?_
  have g1 := hB.sc
  have g2 := hB.mc
  refine g_iload_n (pc := 0) dX5_arrayCurrent_0 1 rfl ?_
  refine g_iconst (pc := 1) dX5_arrayCurrent_1 ?_
  refine g_sipush (pc := 2) dX5_arrayCurrent_2 (by omega) ?_
  refine g_callS (pc := 5) (As := [.int (zI v), .int (zI 0), .int (zI 7200)]) (rest := []) k_X5_74_X5 (c_X5_isWithin (σ := σ) v 0 7200 (by omega) (by omega) (by omega)) ⟨rfl, rfl, Nat.le_of_ble_eq_true rfl, Nat.le_of_ble_eq_true rfl⟩ rfl rfl (Nat.le_of_ble_eq_true rfl) dX5_arrayCurrent_5 (fun v_ w_ hq_ => ?_)
  rcases hq_ with ⟨rfl, rfl, hw_1⟩ | ⟨rfl, rfl, hw_1⟩
  · refine g_one ?_
    refine g_if_eqF (pc := 8) 22 dX5_arrayCurrent_8 (by decide) (by omega) (by omega) ?_
    refine g_aload_n (pc := 11) dX5_arrayCurrent_11 0 rfl ?_
    refine g_get (pc := 12) (ci := 4) inG_X5 rfl 4 (by decide) rfl fl_X5_51 (0) at_arr rfl dX5_arrayCurrent_12 ?_
    refine g_iload_n (pc := 15) dX5_arrayCurrent_15 1 rfl ?_
    refine g_callV (pc := 16) (As := [.int (zI v)]) (rest := []) k_X5_173_X2 (c_X2_valueAt (σ := σ) hB hL v (by omega)) ⟨rfl, rfl, Nat.le_of_ble_eq_true rfl, Nat.le_of_ble_eq_true rfl⟩ (4) 1 rfl rfl at_par rfl rfl (Nat.le_of_ble_eq_true rfl) dX5_arrayCurrent_16 (fun v_ w_ hq_ => ?_)
    obtain ⟨rfl, rfl⟩ := hq_
    refine g_one ?_
    refine g_goto (pc := 19) 25 dX5_arrayCurrent_19 (by decide) ?_
    exact g_iret (pc := 25) dX5_arrayCurrent_25 rfl (rdI_of (by unfold a_arrayCurrent; (repeat' split) <;> first | rfl | (exfalso; omega)))
  · refine g_one ?_
    refine g_if_eqT (pc := 8) 22 dX5_arrayCurrent_8 (by decide) (by omega) (by omega) ?_
    refine g_sipush (pc := 22) dX5_arrayCurrent_22 (by omega) ?_
    exact g_iret (pc := 25) dX5_arrayCurrent_25 rfl (rdI_of (by unfold a_arrayCurrent; (repeat' split) <;> first | rfl | (exfalso; omega)))
set_option maxRecDepth 100000 in
set_option maxHeartbeats 2000000 in
/-- PvArray.bestArrayVoltage  -/
theorem c_X5_bestArrayVoltage {D : va_G} {cy : Nat → ClassId} {l : Launch} {ad : Nat → Nat} {σ : Nat → Int → Int} {X : va_W} (hB : Bd σ) (hL : LC σ) : Con D cy l yX5_bestArrayVoltage cX5_bestArrayVoltage 1 (some .int) rm_X5_bestArrayVoltage [.ref (ad 0)] (CW cy ad σ ++ X) (rdI (bestV σ) (CW cy ad σ ++ X)) := by
  refine Con.of (lv := [(0, .ref (ad 0))]) (by decide) (Nat.le_of_ble_eq_true rfl) rfl ?_
  refine g_aload_n (pc := 0) dX5_bestArrayVoltage_0 0 rfl ?_
  refine g_get (pc := 1) (ci := 4) inG_X5 rfl 4 (by decide) rfl fl_X5_51 (0) at_arr rfl dX5_bestArrayVoltage_1 ?_
  refine g_callU (pc := 4) (As := []) (rest := []) k_X5_174_X2 (c_X0_bestPoint_par (σ := σ) hB hL) ⟨rfl, rfl, Nat.le_of_ble_eq_true rfl, Nat.le_of_ble_eq_true rfl⟩ (4) 1 rfl rfl at_par rfl rfl (Nat.le_of_ble_eq_true rfl) dX5_bestArrayVoltage_4 (fun v_ w_ hq_ => ?_)
  obtain ⟨rfl, rfl⟩ := hq_
  refine g_one ?_
  exact g_iret (pc := 7) dX5_bestArrayVoltage_7 rfl (rdI_of rfl)
end
section
set_option maxRecDepth 100000 in
set_option maxHeartbeats 2000000 in
/-- PvArray.peakCount, the loop at 27  -/
theorem lp_X5_peakCount {D : va_G} {cy : Nat → ClassId} {l : Launch} {ad : Nat → Nat} {σ : Nat → Int → Int} {X : va_W} (hB : Bd σ) (hL : LC σ) (s : Int) (hs : 0 ≤ s ∧ s < σ 0 2) : ∀ (n : Nat) (i : Int), 1 ≤ i → i ≤ limit σ s + 1 → (limit σ s + 1 - i).toNat < n → GO D cy l rm_X5_peakCount cX5_peakCount 5 yX5_peakCount.cls (some .int) (CW cy ad σ ++ X) (rdI (a_peakCount σ s) (CW cy ad σ ++ X)) (CW cy ad σ ++ X) 27 [(0, .ref (ad 0)), (1, .int (zI s)), (2, .int (zI (limit σ s))), (3, .int (zI (pkN (spow σ s) (limit σ s) (i - 1).toNat))), (4, .int (zI i))] [] := by
  intro n
  induction n with
  | zero =>
    intro i hi hi2 hn
    exact absurd hn (Nat.not_lt_zero _)
  | succ n ih =>
    intro i hi hi2 hn
    have g1 := hB.sc
    have g2 := hB.mc
    have g3 := limit_b hB s
    have g4 := pkN_b (spow σ s) (limit σ s) (i - 1).toNat
    refine g_iload (pc := 27) dX5_peakCount_27 4 rfl ?_
    refine g_iload_n (pc := 29) dX5_peakCount_29 2 rfl ?_
    refine g_icmp_gt (pc := 30) 57 dX5_peakCount_30 (by decide) (by omega) (by omega) (fun h_1 => ?_) (fun h_1 => ?_)
    · refine g_iload_n (pc := 57) dX5_peakCount_57 3 rfl ?_
      exact g_iret (pc := 58) dX5_peakCount_58 rfl (rdI_of (by unfold a_peakCount; rw [if_pos hs, show i - 1 = limit σ s by omega]))
    · refine g_aload_n (pc := 33) dX5_peakCount_33 0 rfl ?_
      refine g_get (pc := 34) (ci := 4) inG_X5 rfl 3 (by decide) rfl fl_X5_63 (0) at_arr rfl dX5_peakCount_34 ?_
      refine g_iload_n (pc := 37) dX5_peakCount_37 1 rfl ?_
      refine g_aald (pc := 38) 3 4 at_strs rfl (by omega) (by decide) rfl dX5_peakCount_38 ?_
      refine g_iload (pc := 39) dX5_peakCount_39 4 rfl ?_
      refine g_iload_n (pc := 41) dX5_peakCount_41 2 rfl ?_
      refine g_callN (pc := 42) (As := [.int (zI i), .int (zI (limit σ s))]) (rest := []) k_X5_151_X4 (c_X4_isPeak (σ := σ) hB hL s (by omega) i (by omega)) ⟨rfl, rfl, Nat.le_of_ble_eq_true rfl, Nat.le_of_ble_eq_true rfl⟩ (31 + s.toNat) 3 rfl rfl (at_str (s := s) (by omega)) rfl rfl (Nat.le_of_ble_eq_true rfl) dX5_peakCount_42 (fun v_ w_ hq_ => ?_)
      rcases hq_ with ⟨rfl, rfl, hk_2⟩ | ⟨rfl, rfl, hk_2⟩
      · refine g_one ?_
        refine g_if_eqF (pc := 45) 51 dX5_peakCount_45 (by decide) (by omega) (by omega) ?_
        refine g_iinc (pc := 48) (lv' := [(3, .int (zI ((pkN (spow σ s) (limit σ s) (i - 1).toNat) + 1))), (0, .ref (ad 0)), (1, .int (zI s)), (2, .int (zI (limit σ s))), (4, .int (zI i))]) dX5_peakCount_48 (by decide) 3 rfl rfl ?_
        refine g_iinc (pc := 51) (lv' := [(4, .int (zI (i + 1))), (3, .int (zI ((pkN (spow σ s) (limit σ s) (i - 1).toNat) + 1))), (0, .ref (ad 0)), (1, .int (zI s)), (2, .int (zI (limit σ s)))]) dX5_peakCount_51 (by decide) 4 rfl rfl ?_
        refine g_goto (pc := 54) 27 dX5_peakCount_54 (by decide) ?_
        refine g_sub (lv' := [(0, .ref (ad 0)), (1, .int (zI s)), (2, .int (zI (limit σ s))), (3, .int (zI ((pkN (spow σ s) (limit σ s) (i - 1).toNat) + 1))), (4, .int (zI (i + 1)))]) [2, 3, 4, 1, 0] rfl ?_
        refine g_lv (lv' := [(0, .ref (ad 0)), (1, .int (zI s)), (2, .int (zI (limit σ s))), (3, .int (zI (pkN (spow σ s) (limit σ s) (i + 1 - 1).toNat))), (4, .int (zI (i + 1)))]) (by rw [show (i + 1 - 1).toNat = i.toNat by omega, pkN_s _ _ hi, pkB_t hk_2]; rw [if_pos rfl]) ?_
        exact ih (i + 1) (by omega) (by omega) (by omega)
      · refine g_one ?_
        refine g_if_eqT (pc := 45) 51 dX5_peakCount_45 (by decide) (by omega) (by omega) ?_
        refine g_iinc (pc := 51) (lv' := [(4, .int (zI (i + 1))), (0, .ref (ad 0)), (1, .int (zI s)), (2, .int (zI (limit σ s))), (3, .int (zI (pkN (spow σ s) (limit σ s) (i - 1).toNat)))]) dX5_peakCount_51 (by decide) 4 rfl rfl ?_
        refine g_goto (pc := 54) 27 dX5_peakCount_54 (by decide) ?_
        refine g_sub (lv' := [(0, .ref (ad 0)), (1, .int (zI s)), (2, .int (zI (limit σ s))), (3, .int (zI (pkN (spow σ s) (limit σ s) (i - 1).toNat))), (4, .int (zI (i + 1)))]) [1, 2, 3, 4, 0] rfl ?_
        refine g_lv (lv' := [(0, .ref (ad 0)), (1, .int (zI s)), (2, .int (zI (limit σ s))), (3, .int (zI (pkN (spow σ s) (limit σ s) (i + 1 - 1).toNat))), (4, .int (zI (i + 1)))]) (by rw [show (i + 1 - 1).toNat = i.toNat by omega, pkN_s _ _ hi, pkB_f hk_2]; rw [if_neg (by decide), Int.add_zero]) ?_
        exact ih (i + 1) (by omega) (by omega) (by omega)
set_option maxRecDepth 100000 in
set_option maxHeartbeats 2000000 in
/-- PvArray.peakCount  -/
theorem c_X5_peakCount {D : va_G} {cy : Nat → ClassId} {l : Launch} {ad : Nat → Nat} {σ : Nat → Int → Int} {X : va_W} (hB : Bd σ) (hL : LC σ) (s : Int) (hs : -2147483648 ≤ s ∧ s ≤ 2147483647) : Con D cy l yX5_peakCount cX5_peakCount 5 (some .int) rm_X5_peakCount [.ref (ad 0), .int (zI s)] (CW cy ad σ ++ X) (rdI (a_peakCount σ s) (CW cy ad σ ++ X)) := by
  refine Con.of (lv := [(0, .ref (ad 0)), (1, .int (zI s))]) (by decide) (Nat.le_of_ble_eq_true rfl) rfl ?_
  have g1 := hB.sc
  have g2 := hB.mc
  have g3 := limit_b hB s
  refine g_aload_n (pc := 0) dX5_peakCount_0 0 rfl ?_
  refine g_iload_n (pc := 1) dX5_peakCount_1 1 rfl ?_
  refine g_callV (pc := 2) (As := [.int (zI s)]) (rest := []) k_X5_70_X5 (c_X5_isString (σ := σ) hB s (by omega)) ⟨rfl, rfl, Nat.le_of_ble_eq_true rfl, Nat.le_of_ble_eq_true rfl⟩ (0) 4 rfl rfl at_arr rfl rfl (Nat.le_of_ble_eq_true rfl) dX5_peakCount_2 (fun v_ w_ hq_ => ?_)
  rcases hq_ with ⟨rfl, rfl, hs_1⟩ | ⟨rfl, rfl, hs_1⟩
  · refine g_one ?_
    refine g_if_neT (pc := 5) 12 dX5_peakCount_5 (by decide) (by omega) (by omega) ?_
    refine g_aload_n (pc := 12) dX5_peakCount_12 0 rfl ?_
    refine g_get (pc := 13) (ci := 4) inG_X5 rfl 3 (by decide) rfl fl_X5_63 (0) at_arr rfl dX5_peakCount_13 ?_
    refine g_iload_n (pc := 16) dX5_peakCount_16 1 rfl ?_
    refine g_aald (pc := 17) 3 4 at_strs rfl (by omega) (by decide) rfl dX5_peakCount_17 ?_
    refine g_callV (pc := 18) (As := []) (rest := []) k_X5_139_X4 (c_X4_end (σ := σ) hB hL s (by omega)) ⟨rfl, rfl, Nat.le_of_ble_eq_true rfl, Nat.le_of_ble_eq_true rfl⟩ (31 + s.toNat) 3 rfl rfl (at_str (s := s) (by omega)) rfl rfl (Nat.le_of_ble_eq_true rfl) dX5_peakCount_18 (fun v_ w_ hq_ => ?_)
    obtain ⟨rfl, rfl⟩ := hq_
    refine g_one ?_
    refine g_istore_n (pc := 21) (lv' := [(2, .int (zI (limit σ s))), (0, .ref (ad 0)), (1, .int (zI s))]) dX5_peakCount_21 (by decide) rfl ?_
    refine g_iconst (pc := 22) dX5_peakCount_22 ?_
    refine g_istore_n (pc := 23) (lv' := [(3, .int (zI 0)), (2, .int (zI (limit σ s))), (0, .ref (ad 0)), (1, .int (zI s))]) dX5_peakCount_23 (by decide) rfl ?_
    refine g_iconst (pc := 24) dX5_peakCount_24 ?_
    refine g_istore (pc := 25) (lv' := [(4, .int (zI 1)), (3, .int (zI 0)), (2, .int (zI (limit σ s))), (0, .ref (ad 0)), (1, .int (zI s))]) dX5_peakCount_25 (by decide) rfl ?_
    refine g_sub (lv' := [(0, .ref (ad 0)), (1, .int (zI s)), (2, .int (zI (limit σ s))), (3, .int (zI 0)), (4, .int (zI 1))]) [3, 4, 2, 1, 0] rfl ?_
    exact lp_X5_peakCount hB hL s (by omega) ((limit σ s).toNat + 2) 1 (by omega) (by omega) (by omega)
  · refine g_one ?_
    refine g_if_neF (pc := 5) 12 dX5_peakCount_5 (by decide) (by omega) (by omega) ?_
    refine g_sipush (pc := 8) dX5_peakCount_8 (by omega) ?_
    exact g_iret (pc := 11) dX5_peakCount_11 rfl (rdI_of (by unfold a_peakCount; (repeat' split) <;> first | rfl | (exfalso; omega)))
set_option maxRecDepth 100000 in
set_option maxHeartbeats 2000000 in
/-- PvArray.peakCurrent, the loop at 36  -/
theorem lp_X5_peakCurrent {D : va_G} {cy : Nat → ClassId} {l : Launch} {ad : Nat → Nat} {σ : Nat → Int → Int} {X : va_W} (hB : Bd σ) (hL : LC σ) (s : Int) (hs : 0 ≤ s ∧ s < σ 0 2) (k : Int) (hk : 0 ≤ k ∧ k ≤ 2147483647) : ∀ (n : Nat) (b i : Int), 0 ≤ b → b ≤ k → 1 ≤ i → i ≤ limit σ s + 1 → pkS (spow σ s) (limit σ s) (limit σ s + 1 - i).toNat i (k - b) = a_peakCurrent σ s k → (limit σ s + 1 - i).toNat < n → GO D cy l rm_X5_peakCurrent cX5_peakCurrent 6 yX5_peakCurrent.cls (some .int) (CW cy ad σ ++ X) (rdI (a_peakCurrent σ s k) (CW cy ad σ ++ X)) (CW cy ad σ ++ X) 36 [(0, .ref (ad 0)), (1, .int (zI s)), (2, .int (zI k)), (3, .int (zI (limit σ s))), (4, .int (zI b)), (5, .int (zI i))] [] := by
  intro n
  induction n with
  | zero =>
    intro b i hb hb2 hi hi2 ha hn
    exact absurd hn (Nat.not_lt_zero _)
  | succ n ih =>
    intro b i hb hb2 hi hi2 ha hn
    have g1 := hB.sc
    have g2 := hB.mc
    have g3 := limit_b hB s
    refine g_iload (pc := 36) dX5_peakCurrent_36 5 rfl ?_
    refine g_iload_n (pc := 38) dX5_peakCurrent_38 3 rfl ?_
    refine g_icmp_gt (pc := 39) 75 dX5_peakCurrent_39 (by decide) (by omega) (by omega) (fun h_1 => ?_) (fun h_1 => ?_)
    · refine g_sipush (pc := 75) dX5_peakCurrent_75 (by omega) ?_
      exact g_iret (pc := 78) dX5_peakCurrent_78 rfl (rdI_of (by rw [← ha, show (limit σ s + 1 - i).toNat = 0 by omega]; rfl))
    · refine g_aload_n (pc := 42) dX5_peakCurrent_42 0 rfl ?_
      refine g_get (pc := 43) (ci := 4) inG_X5 rfl 3 (by decide) rfl fl_X5_63 (0) at_arr rfl dX5_peakCurrent_43 ?_
      refine g_iload_n (pc := 46) dX5_peakCurrent_46 1 rfl ?_
      refine g_aald (pc := 47) 3 4 at_strs rfl (by omega) (by decide) rfl dX5_peakCurrent_47 ?_
      refine g_iload (pc := 48) dX5_peakCurrent_48 5 rfl ?_
      refine g_iload_n (pc := 50) dX5_peakCurrent_50 3 rfl ?_
      refine g_callN (pc := 51) (As := [.int (zI i), .int (zI (limit σ s))]) (rest := []) k_X5_151_X4 (c_X4_isPeak (σ := σ) hB hL s (by omega) i (by omega)) ⟨rfl, rfl, Nat.le_of_ble_eq_true rfl, Nat.le_of_ble_eq_true rfl⟩ (31 + s.toNat) 3 rfl rfl (at_str (s := s) (by omega)) rfl rfl (Nat.le_of_ble_eq_true rfl) dX5_peakCurrent_51 (fun v_ w_ hq_ => ?_)
      rcases hq_ with ⟨rfl, rfl, hk_2⟩ | ⟨rfl, rfl, hk_2⟩
      · refine g_one ?_
        refine g_if_eqF (pc := 54) 69 dX5_peakCurrent_54 (by decide) (by omega) (by omega) ?_
        refine g_iload (pc := 57) dX5_peakCurrent_57 4 rfl ?_
        refine g_iload_n (pc := 59) dX5_peakCurrent_59 2 rfl ?_
        refine g_icmp_ne (pc := 60) 66 dX5_peakCurrent_60 (by decide) (by omega) (by omega) (fun h_3 => ?_) (fun h_3 => ?_)
        · refine g_iinc (pc := 66) (lv' := [(4, .int (zI (b + 1))), (0, .ref (ad 0)), (1, .int (zI s)), (2, .int (zI k)), (3, .int (zI (limit σ s))), (5, .int (zI i))]) dX5_peakCurrent_66 (by decide) 4 rfl rfl ?_
          refine g_iinc (pc := 69) (lv' := [(5, .int (zI (i + 1))), (4, .int (zI (b + 1))), (0, .ref (ad 0)), (1, .int (zI s)), (2, .int (zI k)), (3, .int (zI (limit σ s)))]) dX5_peakCurrent_69 (by decide) 5 rfl rfl ?_
          refine g_goto (pc := 72) 36 dX5_peakCurrent_72 (by decide) ?_
          refine g_sub (lv' := [(0, .ref (ad 0)), (1, .int (zI s)), (2, .int (zI k)), (3, .int (zI (limit σ s))), (4, .int (zI (b + 1))), (5, .int (zI (i + 1)))]) [2, 3, 4, 5, 1, 0] rfl ?_
          exact ih (b + 1) (i + 1) (by omega) (by omega) (by omega) (by omega) (by rw [← ha, show (limit σ s + 1 - i).toNat = (limit σ s + 1 - (i + 1)).toNat + 1 by omega, pkS, if_pos (pkB_t hk_2), if_neg (by omega), show k - b - 1 = k - (b + 1) by omega]) (by omega)
        · refine g_iload (pc := 63) dX5_peakCurrent_63 5 rfl ?_
          exact g_iret (pc := 65) dX5_peakCurrent_65 rfl (rdI_of (by rw [← ha, show (limit σ s + 1 - i).toNat = (limit σ s + 1 - (i + 1)).toNat + 1 by omega, pkS, if_pos (pkB_t hk_2), if_pos (by omega)]))
      · refine g_one ?_
        refine g_if_eqT (pc := 54) 69 dX5_peakCurrent_54 (by decide) (by omega) (by omega) ?_
        refine g_iinc (pc := 69) (lv' := [(5, .int (zI (i + 1))), (0, .ref (ad 0)), (1, .int (zI s)), (2, .int (zI k)), (3, .int (zI (limit σ s))), (4, .int (zI b))]) dX5_peakCurrent_69 (by decide) 5 rfl rfl ?_
        refine g_goto (pc := 72) 36 dX5_peakCurrent_72 (by decide) ?_
        refine g_sub (lv' := [(0, .ref (ad 0)), (1, .int (zI s)), (2, .int (zI k)), (3, .int (zI (limit σ s))), (4, .int (zI b)), (5, .int (zI (i + 1)))]) [1, 2, 3, 4, 5, 0] rfl ?_
        exact ih b (i + 1) (by omega) (by omega) (by omega) (by omega) (by rw [← ha, show (limit σ s + 1 - i).toNat = (limit σ s + 1 - (i + 1)).toNat + 1 by omega, pkS, if_neg (by rw [pkB_f hk_2]; decide)]) (by omega)
set_option maxRecDepth 100000 in
set_option maxHeartbeats 2000000 in
/-- PvArray.peakCurrent  -/
theorem c_X5_peakCurrent {D : va_G} {cy : Nat → ClassId} {l : Launch} {ad : Nat → Nat} {σ : Nat → Int → Int} {X : va_W} (hB : Bd σ) (hL : LC σ) (s : Int) (hs : -2147483648 ≤ s ∧ s ≤ 2147483647) (k : Int) (hk : -2147483648 ≤ k ∧ k ≤ 2147483647) : Con D cy l yX5_peakCurrent cX5_peakCurrent 6 (some .int) rm_X5_peakCurrent [.ref (ad 0), .int (zI s), .int (zI k)] (CW cy ad σ ++ X) (rdI (a_peakCurrent σ s k) (CW cy ad σ ++ X)) := by
  refine Con.of (lv := [(0, .ref (ad 0)), (1, .int (zI s)), (2, .int (zI k))]) (by decide) (Nat.le_of_ble_eq_true rfl) rfl ?_
  have g1 := hB.sc
  have g2 := hB.mc
  have g3 := limit_b hB s
  refine g_aload_n (pc := 0) dX5_peakCurrent_0 0 rfl ?_
  refine g_iload_n (pc := 1) dX5_peakCurrent_1 1 rfl ?_
  refine g_callV (pc := 2) (As := [.int (zI s)]) (rest := []) k_X5_70_X5 (c_X5_isString (σ := σ) hB s (by omega)) ⟨rfl, rfl, Nat.le_of_ble_eq_true rfl, Nat.le_of_ble_eq_true rfl⟩ (0) 4 rfl rfl at_arr rfl rfl (Nat.le_of_ble_eq_true rfl) dX5_peakCurrent_2 (fun v_ w_ hq_ => ?_)
  rcases hq_ with ⟨rfl, rfl, hs_1⟩ | ⟨rfl, rfl, hs_1⟩
  · refine g_one ?_
    refine g_if_neT (pc := 5) 12 dX5_peakCurrent_5 (by decide) (by omega) (by omega) ?_
    refine g_iload_n (pc := 12) dX5_peakCurrent_12 2 rfl ?_
    refine g_if_ge (pc := 13) 20 dX5_peakCurrent_13 (by decide) (by omega) (fun h_2 => ?_) (fun h_2 => ?_)
    · refine g_aload_n (pc := 20) dX5_peakCurrent_20 0 rfl ?_
      refine g_get (pc := 21) (ci := 4) inG_X5 rfl 3 (by decide) rfl fl_X5_63 (0) at_arr rfl dX5_peakCurrent_21 ?_
      refine g_iload_n (pc := 24) dX5_peakCurrent_24 1 rfl ?_
      refine g_aald (pc := 25) 3 4 at_strs rfl (by omega) (by decide) rfl dX5_peakCurrent_25 ?_
      refine g_callV (pc := 26) (As := []) (rest := []) k_X5_139_X4 (c_X4_end (σ := σ) hB hL s (by omega)) ⟨rfl, rfl, Nat.le_of_ble_eq_true rfl, Nat.le_of_ble_eq_true rfl⟩ (31 + s.toNat) 3 rfl rfl (at_str (s := s) (by omega)) rfl rfl (Nat.le_of_ble_eq_true rfl) dX5_peakCurrent_26 (fun v_ w_ hq_ => ?_)
      obtain ⟨rfl, rfl⟩ := hq_
      refine g_one ?_
      refine g_istore_n (pc := 29) (lv' := [(3, .int (zI (limit σ s))), (0, .ref (ad 0)), (1, .int (zI s)), (2, .int (zI k))]) dX5_peakCurrent_29 (by decide) rfl ?_
      refine g_iconst (pc := 30) dX5_peakCurrent_30 ?_
      refine g_istore (pc := 31) (lv' := [(4, .int (zI 0)), (3, .int (zI (limit σ s))), (0, .ref (ad 0)), (1, .int (zI s)), (2, .int (zI k))]) dX5_peakCurrent_31 (by decide) rfl ?_
      refine g_iconst (pc := 33) dX5_peakCurrent_33 ?_
      refine g_istore (pc := 34) (lv' := [(5, .int (zI 1)), (4, .int (zI 0)), (3, .int (zI (limit σ s))), (0, .ref (ad 0)), (1, .int (zI s)), (2, .int (zI k))]) dX5_peakCurrent_34 (by decide) rfl ?_
      refine g_sub (lv' := [(0, .ref (ad 0)), (1, .int (zI s)), (2, .int (zI k)), (3, .int (zI (limit σ s))), (4, .int (zI 0)), (5, .int (zI 1))]) [3, 4, 5, 2, 1, 0] rfl ?_
      exact lp_X5_peakCurrent hB hL s (by omega) k (by omega) ((limit σ s).toNat + 2) 0 1 (by omega) (by omega) (by omega) (by omega) (by unfold a_peakCurrent; rw [if_pos (by omega), if_neg (by omega), show limit σ s + 1 - 1 = limit σ s by omega, show k - 0 = k by omega]) (by omega)
    · refine g_sipush (pc := 16) dX5_peakCurrent_16 (by omega) ?_
      exact g_iret (pc := 19) dX5_peakCurrent_19 rfl (rdI_of (by unfold a_peakCurrent; (repeat' split) <;> first | rfl | (exfalso; omega)))
  · refine g_one ?_
    refine g_if_neF (pc := 5) 12 dX5_peakCurrent_5 (by decide) (by omega) (by omega) ?_
    refine g_sipush (pc := 8) dX5_peakCurrent_8 (by omega) ?_
    exact g_iret (pc := 11) dX5_peakCurrent_11 rfl (rdI_of (by unfold a_peakCurrent; (repeat' split) <;> first | rfl | (exfalso; omega)))
set_option maxRecDepth 100000 in
set_option maxHeartbeats 2000000 in
/-- PvArray.totalBestPower, the loop at 4  -/
theorem lp_X5_total {D : va_G} {cy : Nat → ClassId} {l : Launch} {ad : Nat → Nat} {σ : Nat → Int → Int} {X : va_W} (hB : Bd σ) (hL : LC σ) : ∀ (n : Nat) (k : Int), 0 ≤ k → k ≤ σ 0 2 → (σ 0 2 - k).toNat < n → GO D cy l rm_X5_totalBestPower cX5_totalBestPower 4 yX5_totalBestPower.cls (some .long) (CW cy ad σ ++ X) (rdJ (a_total σ) (CW cy ad σ ++ X)) (CW cy ad σ ++ X) 4 [(0, .ref (ad 0)), (1, .long (zJ (sumP (bestP σ) k.toNat))), (3, .int (zI k))] [] := by
  intro n
  induction n with
  | zero =>
    intro k hk hk2 hn
    exact absurd hn (Nat.not_lt_zero _)
  | succ n ih =>
    intro k hk hk2 hn
    have g1 := hB.sc
    have g2 := hB.mc
    refine g_iload_n (pc := 4) dX5_totalBestPower_4 2 rfl ?_
    refine g_aload_n (pc := 5) dX5_totalBestPower_5 0 rfl ?_
    refine g_get (pc := 6) (ci := 4) inG_X5 rfl 4 (by decide) rfl fl_X5_51 (0) at_arr rfl dX5_totalBestPower_6 ?_
    refine g_getN (pc := 9) (ci := 1) inG_X2 rfl 1 (by decide) rfl fl_X5_67 (4) at_par rfl dX5_totalBestPower_9 ?_
    refine g_icmp_ge (pc := 12) 33 dX5_totalBestPower_12 (by decide) (by omega) (by omega) (fun h_1 => ?_) (fun h_1 => ?_)
    · refine g_lload_n (pc := 33) dX5_totalBestPower_33 1 rfl ?_
      exact g_lret (pc := 34) dX5_totalBestPower_34 rfl (rdJ_of (by unfold a_total; rw [show k = σ 0 2 by omega]))
    · refine g_lload_n (pc := 15) dX5_totalBestPower_15 1 rfl ?_
      refine g_aload_n (pc := 16) dX5_totalBestPower_16 0 rfl ?_
      refine g_get (pc := 17) (ci := 4) inG_X5 rfl 3 (by decide) rfl fl_X5_63 (0) at_arr rfl dX5_totalBestPower_17 ?_
      refine g_iload_n (pc := 20) dX5_totalBestPower_20 2 rfl ?_
      refine g_aald (pc := 21) 3 4 at_strs rfl (by omega) (by decide) rfl dX5_totalBestPower_21 ?_
      refine g_callU (pc := 22) (As := []) (rest := [.long (zJ (sumP (bestP σ) k.toNat))]) k_X5_158_X4 (c_X0_greatestProduct_str (σ := σ) hB hL k (by omega)) ⟨rfl, rfl, Nat.le_of_ble_eq_true rfl, Nat.le_of_ble_eq_true rfl⟩ (31 + k.toNat) 3 rfl rfl (at_str (s := k) (by omega)) rfl rfl (Nat.le_of_ble_eq_true rfl) dX5_totalBestPower_22 (fun v_ w_ hq_ => ?_)
      obtain ⟨rfl, rfl⟩ := hq_
      refine g_one ?_
      refine g_ladd (pc := 25) dX5_totalBestPower_25 ?_
      refine g_lstore_n (pc := 26) (lv' := [(1, .long (zJ ((sumP (bestP σ) k.toNat) + (bestP σ k)))), (0, .ref (ad 0)), (3, .int (zI k))]) dX5_totalBestPower_26 (by decide) rfl ?_
      refine g_iinc (pc := 27) (lv' := [(3, .int (zI (k + 1))), (1, .long (zJ ((sumP (bestP σ) k.toNat) + (bestP σ k)))), (0, .ref (ad 0))]) dX5_totalBestPower_27 (by decide) 2 rfl rfl ?_
      refine g_goto (pc := 30) 4 dX5_totalBestPower_30 (by decide) ?_
      refine g_sub (lv' := [(0, .ref (ad 0)), (1, .long (zJ ((sumP (bestP σ) k.toNat) + (bestP σ k)))), (3, .int (zI (k + 1)))]) [2, 1, 0] rfl ?_
      refine g_lv (lv' := [(0, .ref (ad 0)), (1, .long (zJ (sumP (bestP σ) (k + 1).toNat))), (3, .int (zI (k + 1)))]) (by rw [sumP_s _ hk]) ?_
      exact ih (k + 1) (by omega) (by omega) (by omega)
set_option maxRecDepth 100000 in
set_option maxHeartbeats 2000000 in
/-- PvArray.totalBestPower  -/
theorem c_X5_totalBestPower {D : va_G} {cy : Nat → ClassId} {l : Launch} {ad : Nat → Nat} {σ : Nat → Int → Int} {X : va_W} (hB : Bd σ) (hL : LC σ) : Con D cy l yX5_totalBestPower cX5_totalBestPower 4 (some .long) rm_X5_totalBestPower [.ref (ad 0)] (CW cy ad σ ++ X) (rdJ (a_total σ) (CW cy ad σ ++ X)) := by
  refine Con.of (lv := [(0, .ref (ad 0))]) (by decide) (Nat.le_of_ble_eq_true rfl) rfl ?_
  have g1 := hB.sc
  have g2 := hB.mc
  refine g_lconst (pc := 0) (z := 0) dX5_totalBestPower_0 rfl ?_
  refine g_lstore_n (pc := 1) (lv' := [(1, .long (zJ 0)), (0, .ref (ad 0))]) dX5_totalBestPower_1 (by decide) rfl ?_
  refine g_iconst (pc := 2) dX5_totalBestPower_2 ?_
  refine g_istore_n (pc := 3) (lv' := [(3, .int (zI 0)), (1, .long (zJ 0)), (0, .ref (ad 0))]) dX5_totalBestPower_3 (by decide) rfl ?_
  refine g_sub (lv' := [(0, .ref (ad 0)), (1, .long (zJ 0)), (3, .int (zI 0))]) [2, 1, 0] rfl ?_
  exact lp_X5_total hB hL ((σ 0 2).toNat + 1) 0 (by omega) (by omega) (by omega)
set_option maxRecDepth 100000 in
set_option maxHeartbeats 2000000 in
/-- PvArray.mismatchLoss, the loop at 32  -/
theorem lp_X5_loss2 {D : va_G} {cy : Nat → ClassId} {l : Launch} {ad : Nat → Nat} {σ : Nat → Int → Int} {X : va_W} (hB : Bd σ) (hL : LC σ) : ∀ (n : Nat) (k : Int), 0 ≤ k → k ≤ σ 0 2 → (σ 0 2 - k).toNat < n → GO D cy l rm_X5_mismatchLoss cX5_mismatchLoss 4 yX5_mismatchLoss.cls (some .long) (CW cy ad σ ++ X) (rdJ (a_loss σ) (CW cy ad σ ++ X)) (CW cy ad σ ++ X) 32 [(0, .ref (ad 0)), (1, .long (zJ (sumP (mpeak σ) (σ 0 1).toNat - sumP (bestP σ) k.toNat))), (3, .int (zI k))] [] := by
  intro n
  induction n with
  | zero =>
    intro k hk hk2 hn
    exact absurd hn (Nat.not_lt_zero _)
  | succ n ih =>
    intro k hk hk2 hn
    have g1 := hB.sc
    have g2 := hB.mc
    refine g_iload_n (pc := 32) dX5_mismatchLoss_32 2 rfl ?_
    refine g_aload_n (pc := 33) dX5_mismatchLoss_33 0 rfl ?_
    refine g_get (pc := 34) (ci := 4) inG_X5 rfl 4 (by decide) rfl fl_X5_51 (0) at_arr rfl dX5_mismatchLoss_34 ?_
    refine g_getN (pc := 37) (ci := 1) inG_X2 rfl 1 (by decide) rfl fl_X5_67 (4) at_par rfl dX5_mismatchLoss_37 ?_
    refine g_icmp_ge (pc := 40) 61 dX5_mismatchLoss_40 (by decide) (by omega) (by omega) (fun h_1 => ?_) (fun h_1 => ?_)
    · refine g_lload_n (pc := 61) dX5_mismatchLoss_61 1 rfl ?_
      exact g_lret (pc := 62) dX5_mismatchLoss_62 rfl (rdJ_of (by unfold a_loss; rw [show k = σ 0 2 by omega]))
    · refine g_lload_n (pc := 43) dX5_mismatchLoss_43 1 rfl ?_
      refine g_aload_n (pc := 44) dX5_mismatchLoss_44 0 rfl ?_
      refine g_get (pc := 45) (ci := 4) inG_X5 rfl 3 (by decide) rfl fl_X5_63 (0) at_arr rfl dX5_mismatchLoss_45 ?_
      refine g_iload_n (pc := 48) dX5_mismatchLoss_48 2 rfl ?_
      refine g_aald (pc := 49) 3 4 at_strs rfl (by omega) (by decide) rfl dX5_mismatchLoss_49 ?_
      refine g_callU (pc := 50) (As := []) (rest := [.long (zJ (sumP (mpeak σ) (σ 0 1).toNat - sumP (bestP σ) k.toNat))]) k_X5_158_X4 (c_X0_greatestProduct_str (σ := σ) hB hL k (by omega)) ⟨rfl, rfl, Nat.le_of_ble_eq_true rfl, Nat.le_of_ble_eq_true rfl⟩ (31 + k.toNat) 3 rfl rfl (at_str (s := k) (by omega)) rfl rfl (Nat.le_of_ble_eq_true rfl) dX5_mismatchLoss_50 (fun v_ w_ hq_ => ?_)
      obtain ⟨rfl, rfl⟩ := hq_
      refine g_one ?_
      refine g_lsub (pc := 53) dX5_mismatchLoss_53 ?_
      refine g_lstore_n (pc := 54) (lv' := [(1, .long (zJ ((sumP (mpeak σ) (σ 0 1).toNat - sumP (bestP σ) k.toNat) - (bestP σ k)))), (0, .ref (ad 0)), (3, .int (zI k))]) dX5_mismatchLoss_54 (by decide) rfl ?_
      refine g_iinc (pc := 55) (lv' := [(3, .int (zI (k + 1))), (1, .long (zJ ((sumP (mpeak σ) (σ 0 1).toNat - sumP (bestP σ) k.toNat) - (bestP σ k)))), (0, .ref (ad 0))]) dX5_mismatchLoss_55 (by decide) 2 rfl rfl ?_
      refine g_goto (pc := 58) 32 dX5_mismatchLoss_58 (by decide) ?_
      refine g_sub (lv' := [(0, .ref (ad 0)), (1, .long (zJ ((sumP (mpeak σ) (σ 0 1).toNat - sumP (bestP σ) k.toNat) - (bestP σ k)))), (3, .int (zI (k + 1)))]) [2, 1, 0] rfl ?_
      refine g_lv (lv' := [(0, .ref (ad 0)), (1, .long (zJ (sumP (mpeak σ) (σ 0 1).toNat - sumP (bestP σ) (k + 1).toNat))), (3, .int (zI (k + 1)))]) (by rw [sumP_s _ hk, ← Int.sub_sub]) ?_
      exact ih (k + 1) (by omega) (by omega) (by omega)
set_option maxRecDepth 100000 in
set_option maxHeartbeats 2000000 in
/-- PvArray.mismatchLoss, the loop at 4  -/
theorem lp_X5_loss1 {D : va_G} {cy : Nat → ClassId} {l : Launch} {ad : Nat → Nat} {σ : Nat → Int → Int} {X : va_W} (hB : Bd σ) (hL : LC σ) : ∀ (n : Nat) (k : Int), 0 ≤ k → k ≤ σ 0 1 → (σ 0 1 - k).toNat < n → GO D cy l rm_X5_mismatchLoss cX5_mismatchLoss 4 yX5_mismatchLoss.cls (some .long) (CW cy ad σ ++ X) (rdJ (a_loss σ) (CW cy ad σ ++ X)) (CW cy ad σ ++ X) 4 [(0, .ref (ad 0)), (1, .long (zJ (sumP (mpeak σ) k.toNat))), (3, .int (zI k))] [] := by
  intro n
  induction n with
  | zero =>
    intro k hk hk2 hn
    exact absurd hn (Nat.not_lt_zero _)
  | succ n ih =>
    intro k hk hk2 hn
    have g1 := hB.sc
    have g2 := hB.mc
    refine g_iload_n (pc := 4) dX5_mismatchLoss_4 2 rfl ?_
    refine g_aload_n (pc := 5) dX5_mismatchLoss_5 0 rfl ?_
    refine g_get (pc := 6) (ci := 4) inG_X5 rfl 2 (by decide) rfl fl_X5_9 (0) at_arr rfl dX5_mismatchLoss_6 ?_
    refine g_icmp_ge (pc := 9) 30 dX5_mismatchLoss_9 (by decide) (by omega) (by omega) (fun h_1 => ?_) (fun h_1 => ?_)
    · refine g_iconst (pc := 30) dX5_mismatchLoss_30 ?_
      refine g_istore_n (pc := 31) (lv' := [(3, .int (zI 0)), (0, .ref (ad 0)), (1, .long (zJ (sumP (mpeak σ) k.toNat)))]) dX5_mismatchLoss_31 (by decide) rfl ?_
      refine g_sub (lv' := [(0, .ref (ad 0)), (1, .long (zJ (sumP (mpeak σ) k.toNat))), (3, .int (zI 0))]) [1, 2, 0] rfl ?_
      refine g_lv (lv' := [(0, .ref (ad 0)), (1, .long (zJ (sumP (mpeak σ) (σ 0 1).toNat - sumP (bestP σ) (0 : Int).toNat))), (3, .int (zI 0))]) (by rw [show k = σ 0 1 by omega, show sumP (bestP σ) (0 : Int).toNat = 0 from rfl, Int.sub_zero]) ?_
      exact lp_X5_loss2 hB hL ((σ 0 2).toNat + 1) 0 (by omega) (by omega) (by omega)
    · refine g_lload_n (pc := 12) dX5_mismatchLoss_12 1 rfl ?_
      refine g_aload_n (pc := 13) dX5_mismatchLoss_13 0 rfl ?_
      refine g_get (pc := 14) (ci := 4) inG_X5 rfl 1 (by decide) rfl fl_X5_59 (0) at_arr rfl dX5_mismatchLoss_14 ?_
      refine g_iload_n (pc := 17) dX5_mismatchLoss_17 2 rfl ?_
      refine g_aald (pc := 18) 2 3 at_mods rfl (by omega) (by decide) rfl dX5_mismatchLoss_18 ?_
      refine g_callU (pc := 19) (As := []) (rest := [.long (zJ (sumP (mpeak σ) k.toNat))]) k_X5_133_X3 (c_X0_greatestProduct_mod (σ := σ) hB hL k (by omega)) ⟨rfl, rfl, Nat.le_of_ble_eq_true rfl, Nat.le_of_ble_eq_true rfl⟩ (7 + k.toNat) 2 rfl rfl (at_mod (i := k) (by omega)) rfl rfl (Nat.le_of_ble_eq_true rfl) dX5_mismatchLoss_19 (fun v_ w_ hq_ => ?_)
      obtain ⟨rfl, rfl⟩ := hq_
      refine g_one ?_
      refine g_ladd (pc := 22) dX5_mismatchLoss_22 ?_
      refine g_lstore_n (pc := 23) (lv' := [(1, .long (zJ ((sumP (mpeak σ) k.toNat) + (mpeak σ k)))), (0, .ref (ad 0)), (3, .int (zI k))]) dX5_mismatchLoss_23 (by decide) rfl ?_
      refine g_iinc (pc := 24) (lv' := [(3, .int (zI (k + 1))), (1, .long (zJ ((sumP (mpeak σ) k.toNat) + (mpeak σ k)))), (0, .ref (ad 0))]) dX5_mismatchLoss_24 (by decide) 2 rfl rfl ?_
      refine g_goto (pc := 27) 4 dX5_mismatchLoss_27 (by decide) ?_
      refine g_sub (lv' := [(0, .ref (ad 0)), (1, .long (zJ ((sumP (mpeak σ) k.toNat) + (mpeak σ k)))), (3, .int (zI (k + 1)))]) [2, 1, 0] rfl ?_
      refine g_lv (lv' := [(0, .ref (ad 0)), (1, .long (zJ (sumP (mpeak σ) (k + 1).toNat))), (3, .int (zI (k + 1)))]) (by rw [sumP_s _ hk]) ?_
      exact ih (k + 1) (by omega) (by omega) (by omega)
set_option maxRecDepth 100000 in
set_option maxHeartbeats 2000000 in
/-- PvArray.mismatchLoss  -/
theorem c_X5_mismatchLoss {D : va_G} {cy : Nat → ClassId} {l : Launch} {ad : Nat → Nat} {σ : Nat → Int → Int} {X : va_W} (hB : Bd σ) (hL : LC σ) : Con D cy l yX5_mismatchLoss cX5_mismatchLoss 4 (some .long) rm_X5_mismatchLoss [.ref (ad 0)] (CW cy ad σ ++ X) (rdJ (a_loss σ) (CW cy ad σ ++ X)) := by
  refine Con.of (lv := [(0, .ref (ad 0))]) (by decide) (Nat.le_of_ble_eq_true rfl) rfl ?_
  have g1 := hB.sc
  have g2 := hB.mc
  refine g_lconst (pc := 0) (z := 0) dX5_mismatchLoss_0 rfl ?_
  refine g_lstore_n (pc := 1) (lv' := [(1, .long (zJ 0)), (0, .ref (ad 0))]) dX5_mismatchLoss_1 (by decide) rfl ?_
  refine g_iconst (pc := 2) dX5_mismatchLoss_2 ?_
  refine g_istore_n (pc := 3) (lv' := [(3, .int (zI 0)), (1, .long (zJ 0)), (0, .ref (ad 0))]) dX5_mismatchLoss_3 (by decide) rfl ?_
  refine g_sub (lv' := [(0, .ref (ad 0)), (1, .long (zJ 0)), (3, .int (zI 0))]) [2, 1, 0] rfl ?_
  exact lp_X5_loss1 hB hL ((σ 0 1).toNat + 1) 0 (by omega) (by omega) (by omega)
set_option maxRecDepth 100000 in
set_option maxHeartbeats 2000000 in
theorem st_X5_perturb_true {D : va_G} {cy : Nat → ClassId} {l : Launch} {ad : Nat → Nat} {σ : Nat → Int → Int} {X : va_W} (hB : Bd σ) (hL : LC σ) (s : Int) (hs : 0 ≤ s ∧ s < σ 0 2) (a t it : Int) (hac : (0 ≤ a ∧ a ≤ limit σ s) ∧ (1 ≤ t ∧ t ≤ 100) ∧ (0 ≤ it ∧ it ≤ 200)) (c n : Int) (hc1 : 0 ≤ c) (hc2 : c ≤ limit σ s) (hn1 : 0 ≤ n) (hn2 : n ≤ it) (ha : pobs (spow σ s) (limit σ s) t (it - n).toNat c true = a_perturb σ s a t it) (ihT : ∀ c m : Int, 0 ≤ c → c ≤ limit σ s → m = n + 1 → m ≤ it → pobs (spow σ s) (limit σ s) t (it - m).toNat c true = a_perturb σ s a t it → GO D cy l rm_X5_perturbAndObserve cX5_perturbAndObserve 11 yX5_perturbAndObserve.cls (some .int) (CW cy ad σ ++ X) (rdI (a_perturb σ s a t it) (CW cy ad σ ++ X)) (CW cy ad σ ++ X) 72 [(0, .ref (ad 0)), (1, .int (zI s)), (2, .int (zI a)), (3, .int (zI t)), (4, .int (zI it)), (5, .ref (ad (31 + s.toNat))), (6, .int (zI (limit σ s))), (7, .int (zI c)), (8, .int (zI 1)), (9, .int (zI m))] []) (ihF : ∀ c m : Int, 0 ≤ c → c ≤ limit σ s → m = n + 1 → m ≤ it → pobs (spow σ s) (limit σ s) t (it - m).toNat c false = a_perturb σ s a t it → GO D cy l rm_X5_perturbAndObserve cX5_perturbAndObserve 11 yX5_perturbAndObserve.cls (some .int) (CW cy ad σ ++ X) (rdI (a_perturb σ s a t it) (CW cy ad σ ++ X)) (CW cy ad σ ++ X) 72 [(0, .ref (ad 0)), (1, .int (zI s)), (2, .int (zI a)), (3, .int (zI t)), (4, .int (zI it)), (5, .ref (ad (31 + s.toNat))), (6, .int (zI (limit σ s))), (7, .int (zI c)), (8, .int (zI 0)), (9, .int (zI m))] []) : GO D cy l rm_X5_perturbAndObserve cX5_perturbAndObserve 11 yX5_perturbAndObserve.cls (some .int) (CW cy ad σ ++ X) (rdI (a_perturb σ s a t it) (CW cy ad σ ++ X)) (CW cy ad σ ++ X) 72 [(0, .ref (ad 0)), (1, .int (zI s)), (2, .int (zI a)), (3, .int (zI t)), (4, .int (zI it)), (5, .ref (ad (31 + s.toNat))), (6, .int (zI (limit σ s))), (7, .int (zI c)), (8, .int (zI 1)), (9, .int (zI n))] [] := by
  have g1 := hB.sc
  have g2 := hB.mc
  have g3 := limit_b hB s
  have q1 := spow_b2 hB s (c := c) (by omega)
  have q2 := spow_b2 hB s (c := min (c + t) (limit σ s)) (by omega)
  refine g_iload (pc := 72) dX5_perturbAndObserve_72 9 rfl ?_
  refine g_iload (pc := 74) dX5_perturbAndObserve_74 4 rfl ?_
  refine g_icmp_ge (pc := 76) 149 dX5_perturbAndObserve_76 (by decide) (by omega) (by omega) (fun h_1 => ?_) (fun h_1 => ?_)
  · refine g_iload (pc := 149) dX5_perturbAndObserve_149 7 rfl ?_
    exact g_iret (pc := 151) dX5_perturbAndObserve_151 rfl (rdI_of (by rw [← ha, show (it - n).toNat = 0 by omega]; rfl))
  · refine g_iload (pc := 79) dX5_perturbAndObserve_79 8 rfl ?_
    refine g_if_eqF (pc := 81) 96 dX5_perturbAndObserve_81 (by decide) (by omega) (by omega) ?_
    refine g_iload (pc := 84) dX5_perturbAndObserve_84 7 rfl ?_
    refine g_iload_n (pc := 86) dX5_perturbAndObserve_86 3 rfl ?_
    refine g_iadd (pc := 87) dX5_perturbAndObserve_87 ?_
    refine g_iload (pc := 88) dX5_perturbAndObserve_88 6 rfl ?_
    refine g_min (pc := 90) ma_min_X5_159 ma_min_s ma_i ma_min_c (Nat.le_of_ble_eq_true rfl) (Nat.le_of_ble_eq_true rfl) (by omega) (by omega) dX5_perturbAndObserve_90 ?_
    refine g_goto (pc := 93) 104 dX5_perturbAndObserve_93 (by decide) ?_
    refine g_istore (pc := 104) (lv' := [(10, .int (zI (min (c + t) (limit σ s)))), (0, .ref (ad 0)), (1, .int (zI s)), (2, .int (zI a)), (3, .int (zI t)), (4, .int (zI it)), (5, .ref (ad (31 + s.toNat))), (6, .int (zI (limit σ s))), (7, .int (zI c)), (8, .int (zI 1)), (9, .int (zI n))]) dX5_perturbAndObserve_104 (by decide) rfl ?_
    refine g_aload (pc := 106) dX5_perturbAndObserve_106 6 rfl ?_
    refine g_iload (pc := 108) dX5_perturbAndObserve_108 0 rfl ?_
    refine g_callU (pc := 110) (As := [.int (zI (min (c + t) (limit σ s)))]) (rest := []) k_X5_144_X4 (c_X0_productAt_str (σ := σ) hB hL s (by omega) (min (c + t) (limit σ s)) (by omega)) ⟨rfl, rfl, Nat.le_of_ble_eq_true rfl, Nat.le_of_ble_eq_true rfl⟩ (31 + s.toNat) 3 rfl rfl (at_str (s := s) (by omega)) rfl rfl (Nat.le_of_ble_eq_true rfl) dX5_perturbAndObserve_110 (fun v_ w_ hq_ => ?_)
    obtain ⟨rfl, rfl⟩ := hq_
    refine g_one ?_
    refine g_aload (pc := 113) dX5_perturbAndObserve_113 6 rfl ?_
    refine g_iload (pc := 115) dX5_perturbAndObserve_115 8 rfl ?_
    refine g_callU (pc := 117) (As := [.int (zI c)]) (rest := [.long (zJ (spow σ s (min (c + t) (limit σ s))))]) k_X5_144_X4 (c_X0_productAt_str (σ := σ) hB hL s (by omega) c (by omega)) ⟨rfl, rfl, Nat.le_of_ble_eq_true rfl, Nat.le_of_ble_eq_true rfl⟩ (31 + s.toNat) 3 rfl rfl (at_str (s := s) (by omega)) rfl rfl (Nat.le_of_ble_eq_true rfl) dX5_perturbAndObserve_117 (fun v_ w_ hq_ => ?_)
    obtain ⟨rfl, rfl⟩ := hq_
    refine g_one ?_
    refine g_lcmp_le (pc := 120) 131 dX5_perturbAndObserve_120 dX5_perturbAndObserve_121 (by decide) (by omega) (by omega) (fun h_2 => ?_) (fun h_2 => ?_)
    · refine g_iload (pc := 131) dX5_perturbAndObserve_131 9 rfl ?_
      refine g_if_neT (pc := 133) 140 dX5_perturbAndObserve_133 (by decide) (by omega) (by omega) ?_
      refine g_iconst (pc := 140) dX5_perturbAndObserve_140 ?_
      refine g_istore (pc := 141) (lv' := [(8, .int (zI 0)), (10, .int (zI (min (c + t) (limit σ s)))), (0, .ref (ad 0)), (1, .int (zI s)), (2, .int (zI a)), (3, .int (zI t)), (4, .int (zI it)), (5, .ref (ad (31 + s.toNat))), (6, .int (zI (limit σ s))), (7, .int (zI c)), (9, .int (zI n))]) dX5_perturbAndObserve_141 (by decide) rfl ?_
      refine g_iinc (pc := 143) (lv' := [(9, .int (zI (n + 1))), (8, .int (zI 0)), (10, .int (zI (min (c + t) (limit σ s)))), (0, .ref (ad 0)), (1, .int (zI s)), (2, .int (zI a)), (3, .int (zI t)), (4, .int (zI it)), (5, .ref (ad (31 + s.toNat))), (6, .int (zI (limit σ s))), (7, .int (zI c))]) dX5_perturbAndObserve_143 (by decide) 10 rfl rfl ?_
      refine g_goto (pc := 146) 72 dX5_perturbAndObserve_146 (by decide) ?_
      refine g_sub (lv' := [(0, .ref (ad 0)), (1, .int (zI s)), (2, .int (zI a)), (3, .int (zI t)), (4, .int (zI it)), (5, .ref (ad (31 + s.toNat))), (6, .int (zI (limit σ s))), (7, .int (zI c)), (8, .int (zI 0)), (9, .int (zI (n + 1)))]) [3, 4, 5, 6, 7, 8, 9, 10, 1, 0] rfl ?_
      exact ihF c (n + 1) (by omega) (by omega) rfl (by omega) (by rw [← ha, show (it - n).toNat = (it - (n + 1)).toNat + 1 by omega, pobs_t]; rw [if_neg (show ¬ (spow σ s) c < (spow σ s) (min (c + t) (limit σ s)) by omega)])
    · refine g_iload (pc := 124) dX5_perturbAndObserve_124 0 rfl ?_
      refine g_istore (pc := 126) (lv' := [(7, .int (zI (min (c + t) (limit σ s)))), (10, .int (zI (min (c + t) (limit σ s)))), (0, .ref (ad 0)), (1, .int (zI s)), (2, .int (zI a)), (3, .int (zI t)), (4, .int (zI it)), (5, .ref (ad (31 + s.toNat))), (6, .int (zI (limit σ s))), (8, .int (zI 1)), (9, .int (zI n))]) dX5_perturbAndObserve_126 (by decide) rfl ?_
      refine g_goto (pc := 128) 143 dX5_perturbAndObserve_128 (by decide) ?_
      refine g_iinc (pc := 143) (lv' := [(9, .int (zI (n + 1))), (7, .int (zI (min (c + t) (limit σ s)))), (10, .int (zI (min (c + t) (limit σ s)))), (0, .ref (ad 0)), (1, .int (zI s)), (2, .int (zI a)), (3, .int (zI t)), (4, .int (zI it)), (5, .ref (ad (31 + s.toNat))), (6, .int (zI (limit σ s))), (8, .int (zI 1))]) dX5_perturbAndObserve_143 (by decide) 10 rfl rfl ?_
      refine g_goto (pc := 146) 72 dX5_perturbAndObserve_146 (by decide) ?_
      refine g_sub (lv' := [(0, .ref (ad 0)), (1, .int (zI s)), (2, .int (zI a)), (3, .int (zI t)), (4, .int (zI it)), (5, .ref (ad (31 + s.toNat))), (6, .int (zI (limit σ s))), (7, .int (zI (min (c + t) (limit σ s)))), (8, .int (zI 1)), (9, .int (zI (n + 1)))]) [3, 4, 5, 6, 7, 8, 9, 1, 10, 0] rfl ?_
      exact ihT (min (c + t) (limit σ s)) (n + 1) (by omega) (by omega) rfl (by omega) (by rw [← ha, show (it - n).toNat = (it - (n + 1)).toNat + 1 by omega, pobs_t]; rw [if_pos (show (spow σ s) c < (spow σ s) (min (c + t) (limit σ s)) by omega)])
set_option maxRecDepth 100000 in
set_option maxHeartbeats 2000000 in
theorem st_X5_perturb_false {D : va_G} {cy : Nat → ClassId} {l : Launch} {ad : Nat → Nat} {σ : Nat → Int → Int} {X : va_W} (hB : Bd σ) (hL : LC σ) (s : Int) (hs : 0 ≤ s ∧ s < σ 0 2) (a t it : Int) (hac : (0 ≤ a ∧ a ≤ limit σ s) ∧ (1 ≤ t ∧ t ≤ 100) ∧ (0 ≤ it ∧ it ≤ 200)) (c n : Int) (hc1 : 0 ≤ c) (hc2 : c ≤ limit σ s) (hn1 : 0 ≤ n) (hn2 : n ≤ it) (ha : pobs (spow σ s) (limit σ s) t (it - n).toNat c false = a_perturb σ s a t it) (ihT : ∀ c m : Int, 0 ≤ c → c ≤ limit σ s → m = n + 1 → m ≤ it → pobs (spow σ s) (limit σ s) t (it - m).toNat c true = a_perturb σ s a t it → GO D cy l rm_X5_perturbAndObserve cX5_perturbAndObserve 11 yX5_perturbAndObserve.cls (some .int) (CW cy ad σ ++ X) (rdI (a_perturb σ s a t it) (CW cy ad σ ++ X)) (CW cy ad σ ++ X) 72 [(0, .ref (ad 0)), (1, .int (zI s)), (2, .int (zI a)), (3, .int (zI t)), (4, .int (zI it)), (5, .ref (ad (31 + s.toNat))), (6, .int (zI (limit σ s))), (7, .int (zI c)), (8, .int (zI 1)), (9, .int (zI m))] []) (ihF : ∀ c m : Int, 0 ≤ c → c ≤ limit σ s → m = n + 1 → m ≤ it → pobs (spow σ s) (limit σ s) t (it - m).toNat c false = a_perturb σ s a t it → GO D cy l rm_X5_perturbAndObserve cX5_perturbAndObserve 11 yX5_perturbAndObserve.cls (some .int) (CW cy ad σ ++ X) (rdI (a_perturb σ s a t it) (CW cy ad σ ++ X)) (CW cy ad σ ++ X) 72 [(0, .ref (ad 0)), (1, .int (zI s)), (2, .int (zI a)), (3, .int (zI t)), (4, .int (zI it)), (5, .ref (ad (31 + s.toNat))), (6, .int (zI (limit σ s))), (7, .int (zI c)), (8, .int (zI 0)), (9, .int (zI m))] []) : GO D cy l rm_X5_perturbAndObserve cX5_perturbAndObserve 11 yX5_perturbAndObserve.cls (some .int) (CW cy ad σ ++ X) (rdI (a_perturb σ s a t it) (CW cy ad σ ++ X)) (CW cy ad σ ++ X) 72 [(0, .ref (ad 0)), (1, .int (zI s)), (2, .int (zI a)), (3, .int (zI t)), (4, .int (zI it)), (5, .ref (ad (31 + s.toNat))), (6, .int (zI (limit σ s))), (7, .int (zI c)), (8, .int (zI 0)), (9, .int (zI n))] [] := by
  have g1 := hB.sc
  have g2 := hB.mc
  have g3 := limit_b hB s
  have q1 := spow_b2 hB s (c := c) (by omega)
  have q2 := spow_b2 hB s (c := max (c - t) 0) (by omega)
  refine g_iload (pc := 72) dX5_perturbAndObserve_72 9 rfl ?_
  refine g_iload (pc := 74) dX5_perturbAndObserve_74 4 rfl ?_
  refine g_icmp_ge (pc := 76) 149 dX5_perturbAndObserve_76 (by decide) (by omega) (by omega) (fun h_1 => ?_) (fun h_1 => ?_)
  · refine g_iload (pc := 149) dX5_perturbAndObserve_149 7 rfl ?_
    exact g_iret (pc := 151) dX5_perturbAndObserve_151 rfl (rdI_of (by rw [← ha, show (it - n).toNat = 0 by omega]; rfl))
  · refine g_iload (pc := 79) dX5_perturbAndObserve_79 8 rfl ?_
    refine g_if_eqT (pc := 81) 96 dX5_perturbAndObserve_81 (by decide) (by omega) (by omega) ?_
    refine g_iload (pc := 96) dX5_perturbAndObserve_96 7 rfl ?_
    refine g_iload_n (pc := 98) dX5_perturbAndObserve_98 3 rfl ?_
    refine g_isub (pc := 99) dX5_perturbAndObserve_99 ?_
    refine g_iconst (pc := 100) dX5_perturbAndObserve_100 ?_
    refine g_max (pc := 101) ma_max_X5_164 ma_max_s ma_i ma_max_c (Nat.le_of_ble_eq_true rfl) (Nat.le_of_ble_eq_true rfl) (by omega) (by omega) dX5_perturbAndObserve_101 ?_
    refine g_istore (pc := 104) (lv' := [(10, .int (zI (max (c - t) 0))), (0, .ref (ad 0)), (1, .int (zI s)), (2, .int (zI a)), (3, .int (zI t)), (4, .int (zI it)), (5, .ref (ad (31 + s.toNat))), (6, .int (zI (limit σ s))), (7, .int (zI c)), (8, .int (zI 0)), (9, .int (zI n))]) dX5_perturbAndObserve_104 (by decide) rfl ?_
    refine g_aload (pc := 106) dX5_perturbAndObserve_106 6 rfl ?_
    refine g_iload (pc := 108) dX5_perturbAndObserve_108 0 rfl ?_
    refine g_callU (pc := 110) (As := [.int (zI (max (c - t) 0))]) (rest := []) k_X5_144_X4 (c_X0_productAt_str (σ := σ) hB hL s (by omega) (max (c - t) 0) (by omega)) ⟨rfl, rfl, Nat.le_of_ble_eq_true rfl, Nat.le_of_ble_eq_true rfl⟩ (31 + s.toNat) 3 rfl rfl (at_str (s := s) (by omega)) rfl rfl (Nat.le_of_ble_eq_true rfl) dX5_perturbAndObserve_110 (fun v_ w_ hq_ => ?_)
    obtain ⟨rfl, rfl⟩ := hq_
    refine g_one ?_
    refine g_aload (pc := 113) dX5_perturbAndObserve_113 6 rfl ?_
    refine g_iload (pc := 115) dX5_perturbAndObserve_115 8 rfl ?_
    refine g_callU (pc := 117) (As := [.int (zI c)]) (rest := [.long (zJ (spow σ s (max (c - t) 0)))]) k_X5_144_X4 (c_X0_productAt_str (σ := σ) hB hL s (by omega) c (by omega)) ⟨rfl, rfl, Nat.le_of_ble_eq_true rfl, Nat.le_of_ble_eq_true rfl⟩ (31 + s.toNat) 3 rfl rfl (at_str (s := s) (by omega)) rfl rfl (Nat.le_of_ble_eq_true rfl) dX5_perturbAndObserve_117 (fun v_ w_ hq_ => ?_)
    obtain ⟨rfl, rfl⟩ := hq_
    refine g_one ?_
    refine g_lcmp_le (pc := 120) 131 dX5_perturbAndObserve_120 dX5_perturbAndObserve_121 (by decide) (by omega) (by omega) (fun h_2 => ?_) (fun h_2 => ?_)
    · refine g_iload (pc := 131) dX5_perturbAndObserve_131 9 rfl ?_
      refine g_if_neF (pc := 133) 140 dX5_perturbAndObserve_133 (by decide) (by omega) (by omega) ?_
      refine g_iconst (pc := 136) dX5_perturbAndObserve_136 ?_
      refine g_goto (pc := 137) 141 dX5_perturbAndObserve_137 (by decide) ?_
      refine g_istore (pc := 141) (lv' := [(8, .int (zI 1)), (10, .int (zI (max (c - t) 0))), (0, .ref (ad 0)), (1, .int (zI s)), (2, .int (zI a)), (3, .int (zI t)), (4, .int (zI it)), (5, .ref (ad (31 + s.toNat))), (6, .int (zI (limit σ s))), (7, .int (zI c)), (9, .int (zI n))]) dX5_perturbAndObserve_141 (by decide) rfl ?_
      refine g_iinc (pc := 143) (lv' := [(9, .int (zI (n + 1))), (8, .int (zI 1)), (10, .int (zI (max (c - t) 0))), (0, .ref (ad 0)), (1, .int (zI s)), (2, .int (zI a)), (3, .int (zI t)), (4, .int (zI it)), (5, .ref (ad (31 + s.toNat))), (6, .int (zI (limit σ s))), (7, .int (zI c))]) dX5_perturbAndObserve_143 (by decide) 10 rfl rfl ?_
      refine g_goto (pc := 146) 72 dX5_perturbAndObserve_146 (by decide) ?_
      refine g_sub (lv' := [(0, .ref (ad 0)), (1, .int (zI s)), (2, .int (zI a)), (3, .int (zI t)), (4, .int (zI it)), (5, .ref (ad (31 + s.toNat))), (6, .int (zI (limit σ s))), (7, .int (zI c)), (8, .int (zI 1)), (9, .int (zI (n + 1)))]) [3, 4, 5, 6, 7, 8, 9, 10, 1, 0] rfl ?_
      exact ihT c (n + 1) (by omega) (by omega) rfl (by omega) (by rw [← ha, show (it - n).toNat = (it - (n + 1)).toNat + 1 by omega, pobs_f]; rw [if_neg (show ¬ (spow σ s) c < (spow σ s) (max (c - t) 0) by omega)])
    · refine g_iload (pc := 124) dX5_perturbAndObserve_124 0 rfl ?_
      refine g_istore (pc := 126) (lv' := [(7, .int (zI (max (c - t) 0))), (10, .int (zI (max (c - t) 0))), (0, .ref (ad 0)), (1, .int (zI s)), (2, .int (zI a)), (3, .int (zI t)), (4, .int (zI it)), (5, .ref (ad (31 + s.toNat))), (6, .int (zI (limit σ s))), (8, .int (zI 0)), (9, .int (zI n))]) dX5_perturbAndObserve_126 (by decide) rfl ?_
      refine g_goto (pc := 128) 143 dX5_perturbAndObserve_128 (by decide) ?_
      refine g_iinc (pc := 143) (lv' := [(9, .int (zI (n + 1))), (7, .int (zI (max (c - t) 0))), (10, .int (zI (max (c - t) 0))), (0, .ref (ad 0)), (1, .int (zI s)), (2, .int (zI a)), (3, .int (zI t)), (4, .int (zI it)), (5, .ref (ad (31 + s.toNat))), (6, .int (zI (limit σ s))), (8, .int (zI 0))]) dX5_perturbAndObserve_143 (by decide) 10 rfl rfl ?_
      refine g_goto (pc := 146) 72 dX5_perturbAndObserve_146 (by decide) ?_
      refine g_sub (lv' := [(0, .ref (ad 0)), (1, .int (zI s)), (2, .int (zI a)), (3, .int (zI t)), (4, .int (zI it)), (5, .ref (ad (31 + s.toNat))), (6, .int (zI (limit σ s))), (7, .int (zI (max (c - t) 0))), (8, .int (zI 0)), (9, .int (zI (n + 1)))]) [3, 4, 5, 6, 7, 8, 9, 1, 10, 0] rfl ?_
      exact ihF (max (c - t) 0) (n + 1) (by omega) (by omega) rfl (by omega) (by rw [← ha, show (it - n).toNat = (it - (n + 1)).toNat + 1 by omega, pobs_f]; rw [if_pos (show (spow σ s) c < (spow σ s) (max (c - t) 0) by omega)])
set_option maxRecDepth 100000 in
set_option maxHeartbeats 2000000 in
theorem lp_X5_perturb {D : va_G} {cy : Nat → ClassId} {l : Launch} {ad : Nat → Nat} {σ : Nat → Int → Int} {X : va_W} (hB : Bd σ) (hL : LC σ) (s : Int) (hs : 0 ≤ s ∧ s < σ 0 2) (a t it : Int) (hac : (0 ≤ a ∧ a ≤ limit σ s) ∧ (1 ≤ t ∧ t ≤ 100) ∧ (0 ≤ it ∧ it ≤ 200)) : ∀ (k : Nat) (u : Bool) (c n : Int), 0 ≤ c → c ≤ limit σ s → 0 ≤ n → n ≤ it → pobs (spow σ s) (limit σ s) t (it - n).toNat c u = a_perturb σ s a t it → (it - n).toNat < k → GO D cy l rm_X5_perturbAndObserve cX5_perturbAndObserve 11 yX5_perturbAndObserve.cls (some .int) (CW cy ad σ ++ X) (rdI (a_perturb σ s a t it) (CW cy ad σ ++ X)) (CW cy ad σ ++ X) 72 [(0, .ref (ad 0)), (1, .int (zI s)), (2, .int (zI a)), (3, .int (zI t)), (4, .int (zI it)), (5, .ref (ad (31 + s.toNat))), (6, .int (zI (limit σ s))), (7, .int (zI c)), (8, .int (zI (if u = true then 1 else 0))), (9, .int (zI n))] [] := by
  intro k
  induction k with
  | zero =>
    intro u c n h1 h2 h3 h4 h5 hn
    exact absurd hn (Nat.not_lt_zero _)
  | succ k ih =>
    intro u c n h1 h2 h3 h4 h5 hn
    by_cases hlast : n = it
    · cases u with
      | true => exact st_X5_perturb_true hB hL s hs a t it hac c n h1 h2 h3 h4 h5 (fun c m q1 q2 q3 q4 q5 => absurd q4 (by omega)) (fun c m q1 q2 q3 q4 q5 => absurd q4 (by omega))
      | false => exact st_X5_perturb_false hB hL s hs a t it hac c n h1 h2 h3 h4 h5 (fun c m q1 q2 q3 q4 q5 => absurd q4 (by omega)) (fun c m q1 q2 q3 q4 q5 => absurd q4 (by omega))
    · cases u with
      | true => exact st_X5_perturb_true hB hL s hs a t it hac c n h1 h2 h3 h4 h5 (fun c m q1 q2 q3 q4 q5 => ih true c m q1 q2 (by omega) q4 q5 (by omega)) (fun c m q1 q2 q3 q4 q5 => ih false c m q1 q2 (by omega) q4 q5 (by omega))
      | false => exact st_X5_perturb_false hB hL s hs a t it hac c n h1 h2 h3 h4 h5 (fun c m q1 q2 q3 q4 q5 => ih true c m q1 q2 (by omega) q4 q5 (by omega)) (fun c m q1 q2 q3 q4 q5 => ih false c m q1 q2 (by omega) q4 q5 (by omega))
set_option maxRecDepth 100000 in
set_option maxHeartbeats 2000000 in
/-- PvArray.perturbAndObserve  -/
theorem c_X5_perturbAndObserve {D : va_G} {cy : Nat → ClassId} {l : Launch} {ad : Nat → Nat} {σ : Nat → Int → Int} {X : va_W} (hB : Bd σ) (hL : LC σ) (s : Int) (hs : -2147483648 ≤ s ∧ s ≤ 2147483647) (a : Int) (ha : -2147483648 ≤ a ∧ a ≤ 2147483647) (t : Int) (ht : -2147483648 ≤ t ∧ t ≤ 2147483647) (it : Int) (hit : -2147483648 ≤ it ∧ it ≤ 2147483647) : Con D cy l yX5_perturbAndObserve cX5_perturbAndObserve 11 (some .int) rm_X5_perturbAndObserve [.ref (ad 0), .int (zI s), .int (zI a), .int (zI t), .int (zI it)] (CW cy ad σ ++ X) (rdI (a_perturb σ s a t it) (CW cy ad σ ++ X)) := by
  refine Con.of (lv := [(0, .ref (ad 0)), (1, .int (zI s)), (2, .int (zI a)), (3, .int (zI t)), (4, .int (zI it))]) (by decide) (Nat.le_of_ble_eq_true rfl) rfl ?_
  have g1 := hB.sc
  have g2 := hB.mc
  have g3 := limit_b hB s
  refine g_aload_n (pc := 0) dX5_perturbAndObserve_0 0 rfl ?_
  refine g_iload_n (pc := 1) dX5_perturbAndObserve_1 1 rfl ?_
  refine g_callV (pc := 2) (As := [.int (zI s)]) (rest := []) k_X5_70_X5 (c_X5_isString (σ := σ) hB s (by omega)) ⟨rfl, rfl, Nat.le_of_ble_eq_true rfl, Nat.le_of_ble_eq_true rfl⟩ (0) 4 rfl rfl at_arr rfl rfl (Nat.le_of_ble_eq_true rfl) dX5_perturbAndObserve_2 (fun v_ w_ hq_ => ?_)
  rcases hq_ with ⟨rfl, rfl, hs_1⟩ | ⟨rfl, rfl, hs_1⟩
  · refine g_one ?_
    refine g_if_neT (pc := 5) 12 dX5_perturbAndObserve_5 (by decide) (by omega) (by omega) ?_
    refine g_aload_n (pc := 12) dX5_perturbAndObserve_12 0 rfl ?_
    refine g_get (pc := 13) (ci := 4) inG_X5 rfl 3 (by decide) rfl fl_X5_63 (0) at_arr rfl dX5_perturbAndObserve_13 ?_
    refine g_iload_n (pc := 16) dX5_perturbAndObserve_16 1 rfl ?_
    refine g_aald (pc := 17) 3 4 at_strs rfl (by omega) (by decide) rfl dX5_perturbAndObserve_17 ?_
    refine g_astore (pc := 18) (lv' := [(5, .ref (ad (31 + s.toNat))), (0, .ref (ad 0)), (1, .int (zI s)), (2, .int (zI a)), (3, .int (zI t)), (4, .int (zI it))]) dX5_perturbAndObserve_18 (by decide) rfl ?_
    refine g_aload (pc := 20) dX5_perturbAndObserve_20 0 rfl ?_
    refine g_callV (pc := 22) (As := []) (rest := []) k_X5_139_X4 (c_X4_end (σ := σ) hB hL s (by omega)) ⟨rfl, rfl, Nat.le_of_ble_eq_true rfl, Nat.le_of_ble_eq_true rfl⟩ (31 + s.toNat) 3 rfl rfl (at_str (s := s) (by omega)) rfl rfl (Nat.le_of_ble_eq_true rfl) dX5_perturbAndObserve_22 (fun v_ w_ hq_ => ?_)
    obtain ⟨rfl, rfl⟩ := hq_
    refine g_one ?_
    refine g_istore (pc := 25) (lv' := [(6, .int (zI (limit σ s))), (5, .ref (ad (31 + s.toNat))), (0, .ref (ad 0)), (1, .int (zI s)), (2, .int (zI a)), (3, .int (zI t)), (4, .int (zI it))]) dX5_perturbAndObserve_25 (by decide) rfl ?_
    refine g_iload_n (pc := 27) dX5_perturbAndObserve_27 4 rfl ?_
    refine g_iconst (pc := 28) dX5_perturbAndObserve_28 ?_
    refine g_iload (pc := 29) dX5_perturbAndObserve_29 0 rfl ?_
    refine g_callS (pc := 31) (As := [.int (zI a), .int (zI 0), .int (zI (limit σ s))]) (rest := []) k_X5_74_X5 (c_X5_isWithin (σ := σ) a 0 (limit σ s) (by omega) (by omega) (by omega)) ⟨rfl, rfl, Nat.le_of_ble_eq_true rfl, Nat.le_of_ble_eq_true rfl⟩ rfl rfl (Nat.le_of_ble_eq_true rfl) dX5_perturbAndObserve_31 (fun v_ w_ hq_ => ?_)
    rcases hq_ with ⟨rfl, rfl, hw_2⟩ | ⟨rfl, rfl, hw_2⟩
    · refine g_one ?_
      refine g_if_eqF (pc := 34) 59 dX5_perturbAndObserve_34 (by decide) (by omega) (by omega) ?_
      refine g_iload_n (pc := 37) dX5_perturbAndObserve_37 5 rfl ?_
      refine g_iconst (pc := 38) dX5_perturbAndObserve_38 ?_
      refine g_bipush (pc := 39) dX5_perturbAndObserve_39 (by omega) ?_
      refine g_callS (pc := 41) (As := [.int (zI t), .int (zI 1), .int (zI 100)]) (rest := []) k_X5_74_X5 (c_X5_isWithin (σ := σ) t 1 100 (by omega) (by omega) (by omega)) ⟨rfl, rfl, Nat.le_of_ble_eq_true rfl, Nat.le_of_ble_eq_true rfl⟩ rfl rfl (Nat.le_of_ble_eq_true rfl) dX5_perturbAndObserve_41 (fun v_ w_ hq_ => ?_)
      rcases hq_ with ⟨rfl, rfl, hw_3⟩ | ⟨rfl, rfl, hw_3⟩
      · refine g_one ?_
        refine g_if_eqF (pc := 44) 59 dX5_perturbAndObserve_44 (by decide) (by omega) (by omega) ?_
        refine g_iload (pc := 47) dX5_perturbAndObserve_47 6 rfl ?_
        refine g_iconst (pc := 49) dX5_perturbAndObserve_49 ?_
        refine g_sipush (pc := 50) dX5_perturbAndObserve_50 (by omega) ?_
        refine g_callS (pc := 53) (As := [.int (zI it), .int (zI 0), .int (zI 200)]) (rest := []) k_X5_74_X5 (c_X5_isWithin (σ := σ) it 0 200 (by omega) (by omega) (by omega)) ⟨rfl, rfl, Nat.le_of_ble_eq_true rfl, Nat.le_of_ble_eq_true rfl⟩ rfl rfl (Nat.le_of_ble_eq_true rfl) dX5_perturbAndObserve_53 (fun v_ w_ hq_ => ?_)
        rcases hq_ with ⟨rfl, rfl, hw_4⟩ | ⟨rfl, rfl, hw_4⟩
        · refine g_one ?_
          refine g_if_neT (pc := 56) 63 dX5_perturbAndObserve_56 (by decide) (by omega) (by omega) ?_
          refine g_iload_n (pc := 63) dX5_perturbAndObserve_63 4 rfl ?_
          refine g_istore (pc := 64) (lv' := [(7, .int (zI a)), (6, .int (zI (limit σ s))), (5, .ref (ad (31 + s.toNat))), (0, .ref (ad 0)), (1, .int (zI s)), (2, .int (zI a)), (3, .int (zI t)), (4, .int (zI it))]) dX5_perturbAndObserve_64 (by decide) rfl ?_
          refine g_iconst (pc := 66) dX5_perturbAndObserve_66 ?_
          refine g_istore (pc := 67) (lv' := [(8, .int (zI 1)), (7, .int (zI a)), (6, .int (zI (limit σ s))), (5, .ref (ad (31 + s.toNat))), (0, .ref (ad 0)), (1, .int (zI s)), (2, .int (zI a)), (3, .int (zI t)), (4, .int (zI it))]) dX5_perturbAndObserve_67 (by decide) rfl ?_
          refine g_iconst (pc := 69) dX5_perturbAndObserve_69 ?_
          refine g_istore (pc := 70) (lv' := [(9, .int (zI 0)), (8, .int (zI 1)), (7, .int (zI a)), (6, .int (zI (limit σ s))), (5, .ref (ad (31 + s.toNat))), (0, .ref (ad 0)), (1, .int (zI s)), (2, .int (zI a)), (3, .int (zI t)), (4, .int (zI it))]) dX5_perturbAndObserve_70 (by decide) rfl ?_
          refine g_sub (lv' := [(0, .ref (ad 0)), (1, .int (zI s)), (2, .int (zI a)), (3, .int (zI t)), (4, .int (zI it)), (5, .ref (ad (31 + s.toNat))), (6, .int (zI (limit σ s))), (7, .int (zI a)), (8, .int (zI 1)), (9, .int (zI 0))]) [5, 6, 7, 8, 9, 4, 3, 2, 1, 0] rfl ?_
          exact lp_X5_perturb hB hL s (by omega) a t it ⟨by omega, by omega, by omega⟩ (it.toNat + 1) true a 0 (by omega) (by omega) (by omega) (by omega) (by unfold a_perturb; rw [if_pos (by omega), if_pos (by omega), show it - 0 = it by omega]) (by omega)
        · refine g_one ?_
          refine g_if_neF (pc := 56) 63 dX5_perturbAndObserve_56 (by decide) (by omega) (by omega) ?_
          refine g_sipush (pc := 59) dX5_perturbAndObserve_59 (by omega) ?_
          exact g_iret (pc := 62) dX5_perturbAndObserve_62 rfl (rdI_of (by unfold a_perturb; (repeat' split) <;> first | rfl | (exfalso; omega)))
      · refine g_one ?_
        refine g_if_eqT (pc := 44) 59 dX5_perturbAndObserve_44 (by decide) (by omega) (by omega) ?_
        refine g_sipush (pc := 59) dX5_perturbAndObserve_59 (by omega) ?_
        exact g_iret (pc := 62) dX5_perturbAndObserve_62 rfl (rdI_of (by unfold a_perturb; (repeat' split) <;> first | rfl | (exfalso; omega)))
    · refine g_one ?_
      refine g_if_eqT (pc := 34) 59 dX5_perturbAndObserve_34 (by decide) (by omega) (by omega) ?_
      refine g_sipush (pc := 59) dX5_perturbAndObserve_59 (by omega) ?_
      exact g_iret (pc := 62) dX5_perturbAndObserve_62 rfl (rdI_of (by unfold a_perturb; (repeat' split) <;> first | rfl | (exfalso; omega)))
  · refine g_one ?_
    refine g_if_neF (pc := 5) 12 dX5_perturbAndObserve_5 (by decide) (by omega) (by omega) ?_
    refine g_sipush (pc := 8) dX5_perturbAndObserve_8 (by omega) ?_
    exact g_iret (pc := 11) dX5_perturbAndObserve_11 rfl (rdI_of (by unfold a_perturb; (repeat' split) <;> first | rfl | (exfalso; omega)))
end
section
/-! calls that change numbers of modules -/
def setR (σ : Nat → Int → Int) (f : Nat) (r : Int → Int) : Nat → Int → Int := fun g => if g = f then r else σ g
theorem setR_s (σ : Nat → Int → Int) (f : Nat) (r : Int → Int) : setR σ f r f = r := if_pos rfl
theorem setR_o (σ : Nat → Int → Int) {f g : Nat} (r : Int → Int) (h : g ≠ f) : setR σ f r g = σ g := if_neg h
theorem up_setR (σ : Nat → Int → Int) (f : Nat) (i v : Int) : up σ f i v = setR σ f (zup (σ f) i v) := rfl
theorem wr_of {cy : Nat → ClassId} {ad : Nat → Nat} {S S' : Nat → Int → Int} {X : va_W} {x r : Int} (h1 : x = r) (h2 : S = S') : rdI r (CW cy ad S' ++ X) (some (.int (zI x))) (CW cy ad S ++ X) := ⟨by rw [h1], by rw [h2]⟩
theorem wm_of {cy : Nat → ClassId} {bd : Nat → Nat} {S S' : Nat → Int → Int} {X : va_W} {x r : Int} (h1 : x = r) (h2 : S = S') : rdI r (MW cy bd S' ++ X) (some (.int (zI x))) (MW cy bd S ++ X) := ⟨by rw [h1], by rw [h2]⟩
def wv (w : va_W) : Option Value → va_W → Prop := fun v w' => v = none ∧ w' = w
theorem wv_of {cy : Nat → ClassId} {ad : Nat → Nat} {S S' : Nat → Int → Int} {X : va_W} (h2 : S = S') : wv (CW cy ad S' ++ X) none (CW cy ad S ++ X) := ⟨rfl, by rw [h2]⟩
theorem wvm_of {cy : Nat → ClassId} {bd : Nat → Nat} {S S' : Nat → Int → Int} {X : va_W} (h2 : S = S') : wv (MW cy bd S' ++ X) none (MW cy bd S ++ X) := ⟨rfl, by rw [h2]⟩
def ilm (σ : Nat → Int → Int) (m z : Int) : Nat → Int → Int := up (up σ 3 m z) 8 m (z * σ 1 m / 1000)
def a_setIrr (g : Nat → Int → Int) (m z : Int) : Int := if 0 ≤ m ∧ m < g 0 1 then (if 0 ≤ z ∧ z ≤ 1200 then g 3 m else -1003) else -1002
def t_setIrr (σ : Nat → Int → Int) (m z : Int) : Nat → Int → Int := if (0 ≤ m ∧ m < σ 0 1) ∧ (0 ≤ z ∧ z ≤ 1200) then ilm σ m z else σ
def a_setRes (g : Nat → Int → Int) (m z : Int) : Int := if 0 ≤ m ∧ m < g 0 1 then (if 0 ≤ z ∧ z ≤ 5000 then g 4 m else -1003) else -1002
def t_setRes (σ : Nat → Int → Int) (m z : Int) : Nat → Int → Int := if (0 ≤ m ∧ m < σ 0 1) ∧ (0 ≤ z ∧ z ≤ 5000) then up σ 4 m z else σ
def a_setDio (g : Nat → Int → Int) (m b : Int) : Int := if 0 ≤ m ∧ m < g 0 1 then (if g 5 m = b then 0 else 1) else -1002
def t_setDio (σ : Nat → Int → Int) (m b : Int) : Nat → Int → Int := if 0 ≤ m ∧ m < σ 0 1 then (if σ 5 m = b then σ else up σ 5 m b) else σ
def a_setDrop (g : Nat → Int → Int) (z : Int) : Int := if 0 ≤ z ∧ z ≤ 20 then g 0 0 else -1003
def t_setDrop (σ : Nat → Int → Int) (z : Int) : Nat → Int → Int := if 0 ≤ z ∧ z ≤ 20 then up σ 0 0 z else σ
def a_addStr (g : Nat → Int → Int) : Int := if g 0 2 < 6 then g 0 2 else -1004
def t_addStr (σ : Nat → Int → Int) : Nat → Int → Int := if σ 0 2 < 6 then up σ 0 2 (σ 0 2 + 1) else σ
/-- shading: rows and count -/
def shR (r : Int → Int) (a m q : Int) : Int → Int := fun i => if a ≤ i ∧ i < m then r i * (100 - q) / 100 else r i
def shC (r : Int → Int) (q a : Int) : Nat → Int
  | 0 => 0
  | n + 1 => shC r q a n + (if r (a + n) * (100 - q) / 100 = r (a + n) then 0 else 1)
def shS (σ : Nat → Int → Int) (a m q : Int) : Nat → Int → Int := setR (setR σ 3 (shR (σ 3) a m q)) 8 (fun i => shR (σ 3) a m q i * σ 1 i / 1000)
theorem shR_s (r : Int → Int) {a m q : Int} (h : a ≤ m) : shR r a (m + 1) q = zup (shR r a m q) m (r m * (100 - q) / 100) := by
  funext i
  unfold shR zup
  by_cases h1 : i = m
  · subst h1; rw [if_pos (by omega), if_pos rfl]
  · rw [if_neg h1]
    dsimp only
    by_cases h2 : a ≤ i ∧ i < m
    · rw [if_pos (by omega), if_pos h2]
    · rw [if_neg (by omega), if_neg h2]
theorem shR_at (r : Int → Int) (a m q : Int) : shR r a m q m = r m := if_neg (by omega)
theorem shR_0 (r : Int → Int) (a q : Int) : shR r a a q = r := by
  funext i
  unfold shR
  rw [if_neg (by omega)]
theorem shC_s (r : Int → Int) (q : Int) {a m : Int} (h : a ≤ m) : shC r q a (m + 1 - a).toNat = shC r q a (m - a).toNat + (if r m * (100 - q) / 100 = r m then 0 else 1) := by
  rw [show (m + 1 - a).toNat = (m - a).toNat + 1 by omega]
  show shC r q a (m - a).toNat + (if r (a + ((m - a).toNat : Int)) * (100 - q) / 100 = r (a + ((m - a).toNat : Int)) then 0 else 1) = _
  rw [show a + ((m - a).toNat : Int) = m by omega]
theorem shC_b (r : Int → Int) (q a : Int) : ∀ n : Nat, 0 ≤ shC r q a n ∧ shC r q a n ≤ n
  | 0 => by simp [shC]
  | n + 1 => by
    have := shC_b r q a n
    unfold shC
    split <;> omega
theorem shS_0 {σ : Nat → Int → Int} (hL : LC σ) (a q : Int) : shS σ a a q = σ := by
  funext g
  unfold shS
  by_cases h8 : g = 8
  · subst h8
    rw [setR_s, shR_0]
    funext i
    exact (hL i).symm
  · rw [setR_o _ _ h8]
    by_cases h3 : g = 3
    · subst h3; rw [setR_s, shR_0]
    · rw [setR_o _ _ h3]
theorem shS_s (σ : Nat → Int → Int) {a m q : Int} (h : a ≤ m) : ilm (shS σ a m q) m (σ 3 m * (100 - q) / 100) = shS σ a (m + 1) q := by
  have e1 : shS σ a m q 1 = σ 1 := rfl
  funext g
  unfold ilm
  rw [e1]
  by_cases h8 : g = 8
  · subst h8
    rw [up_r, up_o _ _ _ (by decide)]
    show zup (fun i => shR (σ 3) a m q i * σ 1 i / 1000) m _ = fun i => shR (σ 3) a (m + 1) q i * σ 1 i / 1000
    rw [shR_s _ h]
    funext i
    unfold zup
    by_cases hi : i = m
    · subst hi; rw [if_pos rfl, if_pos rfl]
    · rw [if_neg hi, if_neg hi]
  · rw [up_o _ _ _ h8]
    by_cases h3 : g = 3
    · subst h3
      rw [up_r]
      show zup (shR (σ 3) a m q) m _ = shR (σ 3) a (m + 1) q
      rw [shR_s _ h]
    · rw [up_o _ _ _ h3]
      unfold shS
      rw [setR_o _ _ h8, setR_o _ _ h3, setR_o _ _ h8, setR_o _ _ h3]
theorem mulq_b {x q : Int} (hx : 0 ≤ x ∧ x ≤ 1200) (hq : 0 ≤ q ∧ q ≤ 100) : 0 ≤ x * (100 - q) ∧ x * (100 - q) ≤ 120000 ∧ 0 ≤ x * (100 - q) / 100 ∧ x * (100 - q) / 100 ≤ 1200 := by
  have h := mul_b (a := x) (b := 100 - q) (A := 1200) (B := 100) hx (by omega)
  omega
theorem shR_b {r : Int → Int} (h : ∀ i, 0 ≤ r i ∧ r i ≤ 1200) {a m q : Int} (hq : 0 ≤ q ∧ q ≤ 100) (i : Int) : 0 ≤ shR r a m q i ∧ shR r a m q i ≤ 1200 := by
  have h1 := mulq_b (h i) hq
  have h2 := h i
  unfold shR
  split <;> omega
def a_shade (g : Nat → Int → Int) (a b q : Int) : Int := if (0 ≤ a ∧ a < g 0 1) ∧ (0 ≤ b ∧ b < g 0 1) then (if a ≤ b ∧ 0 ≤ q ∧ q ≤ 100 then shC (g 3) q a (b + 1 - a).toNat else -1003) else -1002
def t_shade (σ : Nat → Int → Int) (a b q : Int) : Nat → Int → Int := if ((0 ≤ a ∧ a < σ 0 1) ∧ (0 ≤ b ∧ b < σ 0 1)) ∧ (a ≤ b ∧ 0 ≤ q ∧ q ≤ 100) then shS σ a (b + 1) q else σ
theorem Bd.shS {σ : Nat → Int → Int} (h : Bd σ) (a m : Int) {q : Int} (hq : 0 ≤ q ∧ q ≤ 100) : Bd (shS σ a m q) := ⟨h.1, h.2.1, h.2.2.1, h.2.2.2.1, h.2.2.2.2.1, fun i => shR_b h.2.2.2.2.2.1 hq i, h.2.2.2.2.2.2⟩
set_option maxRecDepth 100000 in
set_option maxHeartbeats 2000000 in
/-- PvArray.addString  -/
theorem c_X5_addString {D : va_G} {cy : Nat → ClassId} {l : Launch} {ad : Nat → Nat} {σ : Nat → Int → Int} {X : va_W} (hB : Bd σ) : Con D cy l yX5_addString cX5_addString 1 (some .int) rm_X5_addString [.ref (ad 0)] (CW cy ad σ ++ X) (rdI (a_addStr σ) (CW cy ad (t_addStr σ) ++ X)) := by
  refine Con.of (lv := [(0, .ref (ad 0))]) (by decide) (Nat.le_of_ble_eq_true rfl) rfl ?_
  have g1 := hB.sc
  have g2 := hB.mc
  refine g_aload_n (pc := 0) dX5_addString_0 0 rfl ?_
  refine g_get (pc := 1) (ci := 4) inG_X5 rfl 4 (by decide) rfl fl_X5_51 (0) at_arr rfl dX5_addString_1 ?_
  refine g_getN (pc := 4) (ci := 1) inG_X2 rfl 1 (by decide) rfl fl_X5_67 (4) at_par rfl dX5_addString_4 ?_
  refine g_bipush (pc := 7) dX5_addString_7 (by omega) ?_
  refine g_icmp_lt (pc := 9) 16 dX5_addString_9 (by decide) (by omega) (by omega) (fun h_1 => ?_) (fun h_1 => ?_)
  · refine g_aload_n (pc := 16) dX5_addString_16 0 rfl ?_
    refine g_get (pc := 17) (ci := 4) inG_X5 rfl 4 (by decide) rfl fl_X5_51 (0) at_arr rfl dX5_addString_17 ?_
    refine g_dup (pc := 20) dX5_addString_20 rfl ?_
    refine g_getN (pc := 21) (ci := 1) inG_X2 rfl 1 (by decide) rfl fl_X5_67 (4) at_par rfl dX5_addString_21 ?_
    refine g_iconst (pc := 24) dX5_addString_24 ?_
    refine g_iadd (pc := 25) dX5_addString_25 ?_
    refine g_putN (pc := 26) (ci := 1) inG_X2 tyX2 tyX2_ok nmX2 rfl 1 (by decide) rfl rfl fl_X5_67 (4) at_par rfl rfl (Nat.le_of_ble_eq_true rfl) st_0_2 dX5_addString_26 ?_
    refine g_aload_n (pc := 29) dX5_addString_29 0 rfl ?_
    refine g_get (pc := 30) (ci := 4) inG_X5 rfl 4 (by decide) rfl fl_X5_51 (0) at_arr rfl dX5_addString_30 ?_
    refine g_getN (pc := 33) (ci := 1) inG_X2 rfl 1 (by decide) rfl fl_X5_67 (4) at_par rfl dX5_addString_33 ?_
    refine g_iconst (pc := 36) dX5_addString_36 ?_
    refine g_isub (pc := 37) dX5_addString_37 ?_
    exact g_iret (pc := 38) dX5_addString_38 rfl (wr_of (by unfold a_addStr; rw [if_pos (by omega)]; show up σ 0 2 (σ 0 2 + 1) 0 2 - 1 = σ 0 2; rw [up_r, zup_s]; omega) (by unfold t_addStr; rw [if_pos (by omega)]))
  · refine g_sipush (pc := 12) dX5_addString_12 (by omega) ?_
    exact g_iret (pc := 15) dX5_addString_15 rfl (wr_of (by unfold a_addStr; (repeat' split) <;> first | rfl | (exfalso; omega)) (by unfold t_addStr; (repeat' split) <;> first | rfl | (exfalso; omega)))
set_option maxRecDepth 100000 in
set_option maxHeartbeats 2000000 in
/-- PvArray.setIrradiance  -/
theorem c_X5_setIrradiance {D : va_G} {cy : Nat → ClassId} {l : Launch} {ad : Nat → Nat} {σ : Nat → Int → Int} {X : va_W} (hB : Bd σ) (m : Int) (hm : -2147483648 ≤ m ∧ m ≤ 2147483647) (z : Int) (hz : -2147483648 ≤ z ∧ z ≤ 2147483647) : Con D cy l yX5_setIrradiance cX5_setIrradiance 4 (some .int) rm_X5_setIrradiance [.ref (ad 0), .int (zI m), .int (zI z)] (CW cy ad σ ++ X) (rdI (a_setIrr σ m z) (CW cy ad (t_setIrr σ m z) ++ X)) := by
  refine Con.of (lv := [(0, .ref (ad 0)), (1, .int (zI m)), (2, .int (zI z))]) (by decide) (Nat.le_of_ble_eq_true rfl) rfl ?_
  have g1 := hB.sc
  have g2 := hB.mc
  refine g_aload_n (pc := 0) dX5_setIrradiance_0 0 rfl ?_
  refine g_iload_n (pc := 1) dX5_setIrradiance_1 1 rfl ?_
  refine g_callV (pc := 2) (As := [.int (zI m)]) (rest := []) k_X5_96_X5 (c_X5_isModule (σ := σ) hB m (by omega)) ⟨rfl, rfl, Nat.le_of_ble_eq_true rfl, Nat.le_of_ble_eq_true rfl⟩ (0) 4 rfl rfl at_arr rfl rfl (Nat.le_of_ble_eq_true rfl) dX5_setIrradiance_2 (fun v_ w_ hq_ => ?_)
  rcases hq_ with ⟨rfl, rfl, hm_1⟩ | ⟨rfl, rfl, hm_1⟩
  · refine g_one ?_
    refine g_if_neT (pc := 5) 12 dX5_setIrradiance_5 (by decide) (by omega) (by omega) ?_
    refine g_iload_n (pc := 12) dX5_setIrradiance_12 2 rfl ?_
    refine g_iconst (pc := 13) dX5_setIrradiance_13 ?_
    refine g_sipush (pc := 14) dX5_setIrradiance_14 (by omega) ?_
    refine g_callS (pc := 17) (As := [.int (zI z), .int (zI 0), .int (zI 1200)]) (rest := []) k_X5_74_X5 (c_X5_isWithin (σ := σ) z 0 1200 (by omega) (by omega) (by omega)) ⟨rfl, rfl, Nat.le_of_ble_eq_true rfl, Nat.le_of_ble_eq_true rfl⟩ rfl rfl (Nat.le_of_ble_eq_true rfl) dX5_setIrradiance_17 (fun v_ w_ hq_ => ?_)
    rcases hq_ with ⟨rfl, rfl, hw_2⟩ | ⟨rfl, rfl, hw_2⟩
    · refine g_one ?_
      refine g_if_neT (pc := 20) 27 dX5_setIrradiance_20 (by decide) (by omega) (by omega) ?_
      refine g_aload_n (pc := 27) dX5_setIrradiance_27 0 rfl ?_
      refine g_get (pc := 28) (ci := 4) inG_X5 rfl 1 (by decide) rfl fl_X5_59 (0) at_arr rfl dX5_setIrradiance_28 ?_
      refine g_iload_n (pc := 31) dX5_setIrradiance_31 1 rfl ?_
      refine g_aald (pc := 32) 2 3 at_mods rfl (by omega) (by decide) rfl dX5_setIrradiance_32 ?_
      refine g_getN (pc := 33) (ci := 2) inG_X3 rfl 3 (by decide) rfl fl_X5_99 (7 + m.toNat) (at_mod (i := m) (by omega)) rfl dX5_setIrradiance_33 ?_
      refine g_istore_n (pc := 36) (lv' := [(3, .int (zI (σ 3 m))), (0, .ref (ad 0)), (1, .int (zI m)), (2, .int (zI z))]) dX5_setIrradiance_36 (by decide) rfl ?_
      refine g_aload_n (pc := 37) dX5_setIrradiance_37 1 rfl ?_
      refine g_get (pc := 38) (ci := 4) inG_X5 rfl 1 (by decide) rfl fl_X5_59 (0) at_arr rfl dX5_setIrradiance_38 ?_
      refine g_iload_n (pc := 41) dX5_setIrradiance_41 2 rfl ?_
      refine g_aald (pc := 42) 2 3 at_mods rfl (by omega) (by decide) rfl dX5_setIrradiance_42 ?_
      refine g_iload_n (pc := 43) dX5_setIrradiance_43 3 rfl ?_
      refine g_callN (pc := 44) (As := [.int (zI z)]) (rest := []) k_X5_88_X3 (c_X3_illuminate (σ := σ) m (hB.b1 m) (by omega) z (by omega)) ⟨rfl, rfl, Nat.le_of_ble_eq_true rfl, Nat.le_of_ble_eq_true rfl⟩ (7 + m.toNat) 2 rfl rfl (at_mod (i := m) (by omega)) rfl rfl (Nat.le_of_ble_eq_true rfl) dX5_setIrradiance_44 (fun v_ w_ hq_ => ?_)
      obtain ⟨rfl, rfl⟩ := hq_
      refine g_none ?_
      refine g_iload_n (pc := 47) dX5_setIrradiance_47 0 rfl ?_
      exact g_iret (pc := 48) dX5_setIrradiance_48 rfl (wr_of (by unfold a_setIrr; (repeat' split) <;> first | rfl | (exfalso; omega)) (by unfold t_setIrr; (repeat' split) <;> first | rfl | (exfalso; omega)))
    · refine g_one ?_
      refine g_if_neF (pc := 20) 27 dX5_setIrradiance_20 (by decide) (by omega) (by omega) ?_
      refine g_sipush (pc := 23) dX5_setIrradiance_23 (by omega) ?_
      exact g_iret (pc := 26) dX5_setIrradiance_26 rfl (wr_of (by unfold a_setIrr; (repeat' split) <;> first | rfl | (exfalso; omega)) (by unfold t_setIrr; (repeat' split) <;> first | rfl | (exfalso; omega)))
  · refine g_one ?_
    refine g_if_neF (pc := 5) 12 dX5_setIrradiance_5 (by decide) (by omega) (by omega) ?_
    refine g_sipush (pc := 8) dX5_setIrradiance_8 (by omega) ?_
    exact g_iret (pc := 11) dX5_setIrradiance_11 rfl (wr_of (by unfold a_setIrr; (repeat' split) <;> first | rfl | (exfalso; omega)) (by unfold t_setIrr; (repeat' split) <;> first | rfl | (exfalso; omega)))
set_option maxRecDepth 100000 in
set_option maxHeartbeats 2000000 in
/-- PvArray.setResistance  -/
theorem c_X5_setResistance {D : va_G} {cy : Nat → ClassId} {l : Launch} {ad : Nat → Nat} {σ : Nat → Int → Int} {X : va_W} (hB : Bd σ) (m : Int) (hm : -2147483648 ≤ m ∧ m ≤ 2147483647) (z : Int) (hz : -2147483648 ≤ z ∧ z ≤ 2147483647) : Con D cy l yX5_setResistance cX5_setResistance 4 (some .int) rm_X5_setResistance [.ref (ad 0), .int (zI m), .int (zI z)] (CW cy ad σ ++ X) (rdI (a_setRes σ m z) (CW cy ad (t_setRes σ m z) ++ X)) := by
  refine Con.of (lv := [(0, .ref (ad 0)), (1, .int (zI m)), (2, .int (zI z))]) (by decide) (Nat.le_of_ble_eq_true rfl) rfl ?_
  have g1 := hB.sc
  have g2 := hB.mc
  refine g_aload_n (pc := 0) dX5_setResistance_0 0 rfl ?_
  refine g_iload_n (pc := 1) dX5_setResistance_1 1 rfl ?_
  refine g_callV (pc := 2) (As := [.int (zI m)]) (rest := []) k_X5_96_X5 (c_X5_isModule (σ := σ) hB m (by omega)) ⟨rfl, rfl, Nat.le_of_ble_eq_true rfl, Nat.le_of_ble_eq_true rfl⟩ (0) 4 rfl rfl at_arr rfl rfl (Nat.le_of_ble_eq_true rfl) dX5_setResistance_2 (fun v_ w_ hq_ => ?_)
  rcases hq_ with ⟨rfl, rfl, hm_1⟩ | ⟨rfl, rfl, hm_1⟩
  · refine g_one ?_
    refine g_if_neT (pc := 5) 12 dX5_setResistance_5 (by decide) (by omega) (by omega) ?_
    refine g_iload_n (pc := 12) dX5_setResistance_12 2 rfl ?_
    refine g_iconst (pc := 13) dX5_setResistance_13 ?_
    refine g_sipush (pc := 14) dX5_setResistance_14 (by omega) ?_
    refine g_callS (pc := 17) (As := [.int (zI z), .int (zI 0), .int (zI 5000)]) (rest := []) k_X5_74_X5 (c_X5_isWithin (σ := σ) z 0 5000 (by omega) (by omega) (by omega)) ⟨rfl, rfl, Nat.le_of_ble_eq_true rfl, Nat.le_of_ble_eq_true rfl⟩ rfl rfl (Nat.le_of_ble_eq_true rfl) dX5_setResistance_17 (fun v_ w_ hq_ => ?_)
    rcases hq_ with ⟨rfl, rfl, hw_2⟩ | ⟨rfl, rfl, hw_2⟩
    · refine g_one ?_
      refine g_if_neT (pc := 20) 27 dX5_setResistance_20 (by decide) (by omega) (by omega) ?_
      refine g_aload_n (pc := 27) dX5_setResistance_27 0 rfl ?_
      refine g_get (pc := 28) (ci := 4) inG_X5 rfl 1 (by decide) rfl fl_X5_59 (0) at_arr rfl dX5_setResistance_28 ?_
      refine g_iload_n (pc := 31) dX5_setResistance_31 1 rfl ?_
      refine g_aald (pc := 32) 2 3 at_mods rfl (by omega) (by decide) rfl dX5_setResistance_32 ?_
      refine g_getN (pc := 33) (ci := 2) inG_X3 rfl 5 (by decide) rfl fl_X5_102 (7 + m.toNat) (at_mod (i := m) (by omega)) rfl dX5_setResistance_33 ?_
      refine g_istore_n (pc := 36) (lv' := [(3, .int (zI (σ 4 m))), (0, .ref (ad 0)), (1, .int (zI m)), (2, .int (zI z))]) dX5_setResistance_36 (by decide) rfl ?_
      refine g_aload_n (pc := 37) dX5_setResistance_37 1 rfl ?_
      refine g_get (pc := 38) (ci := 4) inG_X5 rfl 1 (by decide) rfl fl_X5_59 (0) at_arr rfl dX5_setResistance_38 ?_
      refine g_iload_n (pc := 41) dX5_setResistance_41 2 rfl ?_
      refine g_aald (pc := 42) 2 3 at_mods rfl (by omega) (by decide) rfl dX5_setResistance_42 ?_
      refine g_iload_n (pc := 43) dX5_setResistance_43 3 rfl ?_
      refine g_putN (pc := 44) (ci := 2) inG_X3 tyX3 tyX3_ok nmX3 rfl 5 (by decide) rfl rfl fl_X5_102 (7 + m.toNat) (at_mod (i := m) (by omega)) rfl rfl (Nat.le_of_ble_eq_true rfl) (st_4 (by omega)) dX5_setResistance_44 ?_
      refine g_iload_n (pc := 47) dX5_setResistance_47 0 rfl ?_
      exact g_iret (pc := 48) dX5_setResistance_48 rfl (wr_of (by unfold a_setRes; (repeat' split) <;> first | rfl | (exfalso; omega)) (by unfold t_setRes; (repeat' split) <;> first | rfl | (exfalso; omega)))
    · refine g_one ?_
      refine g_if_neF (pc := 20) 27 dX5_setResistance_20 (by decide) (by omega) (by omega) ?_
      refine g_sipush (pc := 23) dX5_setResistance_23 (by omega) ?_
      exact g_iret (pc := 26) dX5_setResistance_26 rfl (wr_of (by unfold a_setRes; (repeat' split) <;> first | rfl | (exfalso; omega)) (by unfold t_setRes; (repeat' split) <;> first | rfl | (exfalso; omega)))
  · refine g_one ?_
    refine g_if_neF (pc := 5) 12 dX5_setResistance_5 (by decide) (by omega) (by omega) ?_
    refine g_sipush (pc := 8) dX5_setResistance_8 (by omega) ?_
    exact g_iret (pc := 11) dX5_setResistance_11 rfl (wr_of (by unfold a_setRes; (repeat' split) <;> first | rfl | (exfalso; omega)) (by unfold t_setRes; (repeat' split) <;> first | rfl | (exfalso; omega)))
set_option maxRecDepth 100000 in
set_option maxHeartbeats 2000000 in
/-- PvArray.setBypassDiode  -/
theorem c_X5_setBypassDiode {D : va_G} {cy : Nat → ClassId} {l : Launch} {ad : Nat → Nat} {σ : Nat → Int → Int} {X : va_W} (hB : Bd σ) (m : Int) (hm : -2147483648 ≤ m ∧ m ≤ 2147483647) (b : Int) (hb : b = 0 ∨ b = 1) : Con D cy l yX5_setBypassDiode cX5_setBypassDiode 3 (some .int) rm_X5_setBypassDiode [.ref (ad 0), .int (zI m), .int (zI b)] (CW cy ad σ ++ X) (rdI (a_setDio σ m b) (CW cy ad (t_setDio σ m b) ++ X)) := by
  refine Con.of (lv := [(0, .ref (ad 0)), (1, .int (zI m)), (2, .int (zI b))]) (by decide) (Nat.le_of_ble_eq_true rfl) rfl ?_
  have g1 := hB.sc
  have g2 := hB.mc
  have g3 := hB.b5 m
  refine g_aload_n (pc := 0) dX5_setBypassDiode_0 0 rfl ?_
  refine g_iload_n (pc := 1) dX5_setBypassDiode_1 1 rfl ?_
  refine g_callV (pc := 2) (As := [.int (zI m)]) (rest := []) k_X5_96_X5 (c_X5_isModule (σ := σ) hB m (by omega)) ⟨rfl, rfl, Nat.le_of_ble_eq_true rfl, Nat.le_of_ble_eq_true rfl⟩ (0) 4 rfl rfl at_arr rfl rfl (Nat.le_of_ble_eq_true rfl) dX5_setBypassDiode_2 (fun v_ w_ hq_ => ?_)
  rcases hq_ with ⟨rfl, rfl, hm_1⟩ | ⟨rfl, rfl, hm_1⟩
  · refine g_one ?_
    refine g_if_neT (pc := 5) 12 dX5_setBypassDiode_5 (by decide) (by omega) (by omega) ?_
    refine g_aload_n (pc := 12) dX5_setBypassDiode_12 0 rfl ?_
    refine g_get (pc := 13) (ci := 4) inG_X5 rfl 1 (by decide) rfl fl_X5_59 (0) at_arr rfl dX5_setBypassDiode_13 ?_
    refine g_iload_n (pc := 16) dX5_setBypassDiode_16 1 rfl ?_
    refine g_aald (pc := 17) 2 3 at_mods rfl (by omega) (by decide) rfl dX5_setBypassDiode_17 ?_
    refine g_getN (pc := 18) (ci := 2) inG_X3 rfl 6 (by decide) rfl fl_X5_105 (7 + m.toNat) (at_mod (i := m) (by omega)) rfl dX5_setBypassDiode_18 ?_
    refine g_iload_n (pc := 21) dX5_setBypassDiode_21 2 rfl ?_
    refine g_icmp_ne (pc := 22) 27 dX5_setBypassDiode_22 (by decide) (by omega) (by omega) (fun h_2 => ?_) (fun h_2 => ?_)
    · refine g_aload_n (pc := 27) dX5_setBypassDiode_27 0 rfl ?_
      refine g_get (pc := 28) (ci := 4) inG_X5 rfl 1 (by decide) rfl fl_X5_59 (0) at_arr rfl dX5_setBypassDiode_28 ?_
      refine g_iload_n (pc := 31) dX5_setBypassDiode_31 1 rfl ?_
      refine g_aald (pc := 32) 2 3 at_mods rfl (by omega) (by decide) rfl dX5_setBypassDiode_32 ?_
      refine g_iload_n (pc := 33) dX5_setBypassDiode_33 2 rfl ?_
      refine g_putN (pc := 34) (ci := 2) inG_X3 tyX3 tyX3_ok nmX3 rfl 6 (by decide) rfl rfl fl_X5_105 (7 + m.toNat) (at_mod (i := m) (by omega)) (by rcases hb with rfl | rfl <;> rfl) (by rcases hb with rfl | rfl <;> rfl) (Nat.le_of_ble_eq_true rfl) (st_5 (by omega)) dX5_setBypassDiode_34 ?_
      refine g_iconst (pc := 37) dX5_setBypassDiode_37 ?_
      exact g_iret (pc := 38) dX5_setBypassDiode_38 rfl (wr_of (by unfold a_setDio; (repeat' split) <;> first | rfl | (exfalso; omega)) (by unfold t_setDio; (repeat' split) <;> first | rfl | (exfalso; omega)))
    · refine g_iconst (pc := 25) dX5_setBypassDiode_25 ?_
      exact g_iret (pc := 26) dX5_setBypassDiode_26 rfl (wr_of (by unfold a_setDio; (repeat' split) <;> first | rfl | (exfalso; omega)) (by unfold t_setDio; (repeat' split) <;> first | rfl | (exfalso; omega)))
  · refine g_one ?_
    refine g_if_neF (pc := 5) 12 dX5_setBypassDiode_5 (by decide) (by omega) (by omega) ?_
    refine g_sipush (pc := 8) dX5_setBypassDiode_8 (by omega) ?_
    exact g_iret (pc := 11) dX5_setBypassDiode_11 rfl (wr_of (by unfold a_setDio; (repeat' split) <;> first | rfl | (exfalso; omega)) (by unfold t_setDio; (repeat' split) <;> first | rfl | (exfalso; omega)))
set_option maxRecDepth 100000 in
set_option maxHeartbeats 2000000 in
/-- PvArray.setDiodeDrop  -/
theorem c_X5_setDiodeDrop {D : va_G} {cy : Nat → ClassId} {l : Launch} {ad : Nat → Nat} {σ : Nat → Int → Int} {X : va_W} (hB : Bd σ) (z : Int) (hz : -2147483648 ≤ z ∧ z ≤ 2147483647) : Con D cy l yX5_setDiodeDrop cX5_setDiodeDrop 3 (some .int) rm_X5_setDiodeDrop [.ref (ad 0), .int (zI z)] (CW cy ad σ ++ X) (rdI (a_setDrop σ z) (CW cy ad (t_setDrop σ z) ++ X)) := by
  refine Con.of (lv := [(0, .ref (ad 0)), (1, .int (zI z))]) (by decide) (Nat.le_of_ble_eq_true rfl) rfl ?_
  have g1 := hB.sc
  have g2 := hB.mc
  refine g_iload_n (pc := 0) dX5_setDiodeDrop_0 1 rfl ?_
  refine g_iconst (pc := 1) dX5_setDiodeDrop_1 ?_
  refine g_bipush (pc := 2) dX5_setDiodeDrop_2 (by omega) ?_
  refine g_callS (pc := 4) (As := [.int (zI z), .int (zI 0), .int (zI 20)]) (rest := []) k_X5_74_X5 (c_X5_isWithin (σ := σ) z 0 20 (by omega) (by omega) (by omega)) ⟨rfl, rfl, Nat.le_of_ble_eq_true rfl, Nat.le_of_ble_eq_true rfl⟩ rfl rfl (Nat.le_of_ble_eq_true rfl) dX5_setDiodeDrop_4 (fun v_ w_ hq_ => ?_)
  rcases hq_ with ⟨rfl, rfl, hw_1⟩ | ⟨rfl, rfl, hw_1⟩
  · refine g_one ?_
    refine g_if_neT (pc := 7) 14 dX5_setDiodeDrop_7 (by decide) (by omega) (by omega) ?_
    refine g_aload_n (pc := 14) dX5_setDiodeDrop_14 0 rfl ?_
    refine g_get (pc := 15) (ci := 4) inG_X5 rfl 0 (by decide) rfl fl_X5_55 (0) at_arr rfl dX5_setDiodeDrop_15 ?_
    refine g_getN (pc := 18) (ci := 0) inG_X1 rfl 0 (by decide) rfl fl_X5_109 (1) at_dio rfl dX5_setDiodeDrop_18 ?_
    refine g_istore_n (pc := 21) (lv' := [(2, .int (zI (σ 0 0))), (0, .ref (ad 0)), (1, .int (zI z))]) dX5_setDiodeDrop_21 (by decide) rfl ?_
    refine g_aload_n (pc := 22) dX5_setDiodeDrop_22 1 rfl ?_
    refine g_get (pc := 23) (ci := 4) inG_X5 rfl 0 (by decide) rfl fl_X5_55 (0) at_arr rfl dX5_setDiodeDrop_23 ?_
    refine g_iload_n (pc := 26) dX5_setDiodeDrop_26 2 rfl ?_
    refine g_putN (pc := 27) (ci := 0) inG_X1 tyX1 tyX1_ok nmX1 rfl 0 (by decide) rfl rfl fl_X5_109 (1) at_dio rfl rfl (Nat.le_of_ble_eq_true rfl) st_0_0 dX5_setDiodeDrop_27 ?_
    refine g_iload_n (pc := 30) dX5_setDiodeDrop_30 0 rfl ?_
    exact g_iret (pc := 31) dX5_setDiodeDrop_31 rfl (wr_of (by unfold a_setDrop; (repeat' split) <;> first | rfl | (exfalso; omega)) (by unfold t_setDrop; (repeat' split) <;> first | rfl | (exfalso; omega)))
  · refine g_one ?_
    refine g_if_neF (pc := 7) 14 dX5_setDiodeDrop_7 (by decide) (by omega) (by omega) ?_
    refine g_sipush (pc := 10) dX5_setDiodeDrop_10 (by omega) ?_
    exact g_iret (pc := 13) dX5_setDiodeDrop_13 rfl (wr_of (by unfold a_setDrop; (repeat' split) <;> first | rfl | (exfalso; omega)) (by unfold t_setDrop; (repeat' split) <;> first | rfl | (exfalso; omega)))
set_option maxRecDepth 100000 in
set_option maxHeartbeats 2000000 in
/-- PvArray.shade, the loop at 45  -/
theorem lp_X5_shade {D : va_G} {cy : Nat → ClassId} {l : Launch} {ad : Nat → Nat} {σ : Nat → Int → Int} {X : va_W} (hB : Bd σ) (hL : LC σ) (a b q : Int) (ha : 0 ≤ a ∧ a < σ 0 1) (hb : 0 ≤ b ∧ b < σ 0 1) (hq : 0 ≤ q ∧ q ≤ 100) (hab : a ≤ b) : ∀ (n : Nat) (m : Int), a ≤ m → m ≤ b + 1 → (b + 1 - m).toNat < n → GO D cy l rm_X5_shade cX5_shade 7 yX5_shade.cls (some .int) (CW cy ad σ ++ X) (rdI (a_shade σ a b q) (CW cy ad (t_shade σ a b q) ++ X)) (CW cy ad (shS σ a m q) ++ X) 45 [(0, .ref (ad 0)), (1, .int (zI a)), (2, .int (zI b)), (3, .int (zI q)), (4, .int (zI (shC (σ 3) q a (m - a).toNat))), (5, .int (zI m))] [] := by
  intro n
  induction n with
  | zero =>
    intro m hm hm2 hn
    exact absurd hn (Nat.not_lt_zero _)
  | succ n ih =>
    intro m hm hm2 hn
    have g1 := hB.sc
    have g2 := hB.mc
    have hB2 := hB.shS a m hq
    have g3 := mulq_b (hB.b3 m) hq
    have g4 := hB.b3 m
    have g5 := shC_b (σ 3) q a (m - a).toNat
    refine g_iload (pc := 45) dX5_shade_45 5 rfl ?_
    refine g_iload_n (pc := 47) dX5_shade_47 2 rfl ?_
    refine g_icmp_gt (pc := 48) 107 dX5_shade_48 (by decide) (by omega) (by omega) (fun h_1 => ?_) (fun h_1 => ?_)
    · refine g_iload (pc := 107) dX5_shade_107 4 rfl ?_
      exact g_iret (pc := 109) dX5_shade_109 rfl (wr_of (by unfold a_shade; rw [if_pos (by omega), if_pos (by omega), show m = b + 1 by omega]) (by unfold t_shade; rw [if_pos (by omega), show m = b + 1 by omega]))
    · refine g_aload_n (pc := 51) dX5_shade_51 0 rfl ?_
      refine g_get (pc := 52) (ci := 4) inG_X5 rfl 1 (by decide) rfl fl_X5_59 (0) at_arr rfl dX5_shade_52 ?_
      refine g_iload (pc := 55) dX5_shade_55 5 rfl ?_
      refine g_aald (pc := 57) 2 3 at_mods rfl (by omega) (by decide) rfl dX5_shade_57 ?_
      refine g_getN (pc := 58) (ci := 2) inG_X3 rfl 3 (by decide) rfl fl_X5_99 (7 + m.toNat) (at_mod (i := m) (by omega)) rfl dX5_shade_58 ?_
      refine g_topI (show (shS σ a m q) 3 m = σ 3 m from shR_at _ _ _ _) ?_
      refine g_istore (pc := 61) (lv' := [(6, .int (zI (σ 3 m))), (0, .ref (ad 0)), (1, .int (zI a)), (2, .int (zI b)), (3, .int (zI q)), (4, .int (zI (shC (σ 3) q a (m - a).toNat))), (5, .int (zI m))]) dX5_shade_61 (by decide) rfl ?_
      refine g_aload_n (pc := 63) dX5_shade_63 1 rfl ?_
      refine g_get (pc := 64) (ci := 4) inG_X5 rfl 1 (by decide) rfl fl_X5_59 (0) at_arr rfl dX5_shade_64 ?_
      refine g_iload (pc := 67) dX5_shade_67 6 rfl ?_
      refine g_aald (pc := 69) 2 3 at_mods rfl (by omega) (by decide) rfl dX5_shade_69 ?_
      refine g_iload (pc := 70) dX5_shade_70 0 rfl ?_
      refine g_bipush (pc := 72) dX5_shade_72 (by omega) ?_
      refine g_iload_n (pc := 74) dX5_shade_74 4 rfl ?_
      refine g_isub (pc := 75) dX5_shade_75 ?_
      refine g_imul (pc := 76) dX5_shade_76 ?_
      refine g_bipush (pc := 77) dX5_shade_77 (by omega) ?_
      refine g_idiv (pc := 79) dX5_shade_79 (by omega) (by omega) ?_
      refine g_callN (pc := 80) (As := [.int (zI (((σ 3 m) * (100 - q)) / 100))]) (rest := []) k_X5_88_X3 (c_X3_illuminate (σ := (shS σ a m q)) m (hB2.b1 m) (by omega) (((σ 3 m) * (100 - q)) / 100) (by omega)) ⟨rfl, rfl, Nat.le_of_ble_eq_true rfl, Nat.le_of_ble_eq_true rfl⟩ (7 + m.toNat) 2 rfl rfl (at_mod (i := m) (by omega)) rfl rfl (Nat.le_of_ble_eq_true rfl) dX5_shade_80 (fun v_ w_ hq_ => ?_)
      obtain ⟨rfl, rfl⟩ := hq_
      refine g_none ?_
      refine g_aload_n (pc := 83) dX5_shade_83 1 rfl ?_
      refine g_get (pc := 84) (ci := 4) inG_X5 rfl 1 (by decide) rfl fl_X5_59 (0) at_arr rfl dX5_shade_84 ?_
      refine g_iload (pc := 87) dX5_shade_87 6 rfl ?_
      refine g_aald (pc := 89) 2 3 at_mods rfl (by omega) (by decide) rfl dX5_shade_89 ?_
      refine g_getN (pc := 90) (ci := 2) inG_X3 rfl 3 (by decide) rfl fl_X5_99 (7 + m.toNat) (at_mod (i := m) (by omega)) rfl dX5_shade_90 ?_
      refine g_topI (show ilm (shS σ a m q) m (σ 3 m * (100 - q) / 100) 3 m = σ 3 m * (100 - q) / 100 from zup_s _ _ _) ?_
      refine g_iload (pc := 93) dX5_shade_93 0 rfl ?_
      refine g_icmp_eq (pc := 95) 101 dX5_shade_95 (by decide) (by omega) (by omega) (fun h_2 => ?_) (fun h_2 => ?_)
      · refine g_iinc (pc := 101) (lv' := [(5, .int (zI (m + 1))), (6, .int (zI (σ 3 m))), (0, .ref (ad 0)), (1, .int (zI a)), (2, .int (zI b)), (3, .int (zI q)), (4, .int (zI (shC (σ 3) q a (m - a).toNat)))]) dX5_shade_101 (by decide) 6 rfl rfl ?_
        refine g_goto (pc := 104) 45 dX5_shade_104 (by decide) ?_
        refine g_sub (lv' := [(0, .ref (ad 0)), (1, .int (zI a)), (2, .int (zI b)), (3, .int (zI q)), (4, .int (zI (shC (σ 3) q a (m - a).toNat))), (5, .int (zI (m + 1)))]) [2, 3, 4, 5, 6, 0] rfl ?_
        refine g_lv (lv' := [(0, .ref (ad 0)), (1, .int (zI a)), (2, .int (zI b)), (3, .int (zI q)), (4, .int (zI (shC (σ 3) q a ((m + 1) - a).toNat))), (5, .int (zI (m + 1)))]) (by rw [shC_s _ _ hm]; rw [if_pos (by omega), Int.add_zero]) ?_
        refine g_world (w' := CW cy ad (shS σ a (m + 1) q) ++ X) (by rw [← shS_s σ hm]; rfl) ?_
        exact ih (m + 1) (by omega) (by omega) (by omega)
      · refine g_iinc (pc := 98) (lv' := [(4, .int (zI ((shC (σ 3) q a (m - a).toNat) + 1))), (6, .int (zI (σ 3 m))), (0, .ref (ad 0)), (1, .int (zI a)), (2, .int (zI b)), (3, .int (zI q)), (5, .int (zI m))]) dX5_shade_98 (by decide) 5 rfl rfl ?_
        refine g_iinc (pc := 101) (lv' := [(5, .int (zI (m + 1))), (4, .int (zI ((shC (σ 3) q a (m - a).toNat) + 1))), (6, .int (zI (σ 3 m))), (0, .ref (ad 0)), (1, .int (zI a)), (2, .int (zI b)), (3, .int (zI q))]) dX5_shade_101 (by decide) 6 rfl rfl ?_
        refine g_goto (pc := 104) 45 dX5_shade_104 (by decide) ?_
        refine g_sub (lv' := [(0, .ref (ad 0)), (1, .int (zI a)), (2, .int (zI b)), (3, .int (zI q)), (4, .int (zI ((shC (σ 3) q a (m - a).toNat) + 1))), (5, .int (zI (m + 1)))]) [3, 4, 5, 6, 1, 0] rfl ?_
        refine g_lv (lv' := [(0, .ref (ad 0)), (1, .int (zI a)), (2, .int (zI b)), (3, .int (zI q)), (4, .int (zI (shC (σ 3) q a ((m + 1) - a).toNat))), (5, .int (zI (m + 1)))]) (by rw [shC_s _ _ hm]; rw [if_neg (by omega)]) ?_
        refine g_world (w' := CW cy ad (shS σ a (m + 1) q) ++ X) (by rw [← shS_s σ hm]; rfl) ?_
        exact ih (m + 1) (by omega) (by omega) (by omega)
set_option maxRecDepth 100000 in
set_option maxHeartbeats 2000000 in
/-- PvArray.shade  -/
theorem c_X5_shade {D : va_G} {cy : Nat → ClassId} {l : Launch} {ad : Nat → Nat} {σ : Nat → Int → Int} {X : va_W} (hB : Bd σ) (hL : LC σ) (a : Int) (ha : -2147483648 ≤ a ∧ a ≤ 2147483647) (b : Int) (hb : -2147483648 ≤ b ∧ b ≤ 2147483647) (q : Int) (hq : -2147483648 ≤ q ∧ q ≤ 2147483647) : Con D cy l yX5_shade cX5_shade 7 (some .int) rm_X5_shade [.ref (ad 0), .int (zI a), .int (zI b), .int (zI q)] (CW cy ad σ ++ X) (rdI (a_shade σ a b q) (CW cy ad (t_shade σ a b q) ++ X)) := by
  refine Con.of (lv := [(0, .ref (ad 0)), (1, .int (zI a)), (2, .int (zI b)), (3, .int (zI q))]) (by decide) (Nat.le_of_ble_eq_true rfl) rfl ?_
  have g1 := hB.sc
  have g2 := hB.mc
  refine g_aload_n (pc := 0) dX5_shade_0 0 rfl ?_
  refine g_iload_n (pc := 1) dX5_shade_1 1 rfl ?_
  refine g_callV (pc := 2) (As := [.int (zI a)]) (rest := []) k_X5_96_X5 (c_X5_isModule (σ := σ) hB a (by omega)) ⟨rfl, rfl, Nat.le_of_ble_eq_true rfl, Nat.le_of_ble_eq_true rfl⟩ (0) 4 rfl rfl at_arr rfl rfl (Nat.le_of_ble_eq_true rfl) dX5_shade_2 (fun v_ w_ hq_ => ?_)
  rcases hq_ with ⟨rfl, rfl, hm_1⟩ | ⟨rfl, rfl, hm_1⟩
  · refine g_one ?_
    refine g_if_eqF (pc := 5) 16 dX5_shade_5 (by decide) (by omega) (by omega) ?_
    refine g_aload_n (pc := 8) dX5_shade_8 0 rfl ?_
    refine g_iload_n (pc := 9) dX5_shade_9 2 rfl ?_
    refine g_callV (pc := 10) (As := [.int (zI b)]) (rest := []) k_X5_96_X5 (c_X5_isModule (σ := σ) hB b (by omega)) ⟨rfl, rfl, Nat.le_of_ble_eq_true rfl, Nat.le_of_ble_eq_true rfl⟩ (0) 4 rfl rfl at_arr rfl rfl (Nat.le_of_ble_eq_true rfl) dX5_shade_10 (fun v_ w_ hq_ => ?_)
    rcases hq_ with ⟨rfl, rfl, hm_2⟩ | ⟨rfl, rfl, hm_2⟩
    · refine g_one ?_
      refine g_if_neT (pc := 13) 20 dX5_shade_13 (by decide) (by omega) (by omega) ?_
      refine g_iload_n (pc := 20) dX5_shade_20 1 rfl ?_
      refine g_iload_n (pc := 21) dX5_shade_21 2 rfl ?_
      refine g_icmp_gt (pc := 22) 35 dX5_shade_22 (by decide) (by omega) (by omega) (fun h_3 => ?_) (fun h_3 => ?_)
      · refine g_sipush (pc := 35) dX5_shade_35 (by omega) ?_
        exact g_iret (pc := 38) dX5_shade_38 rfl (wr_of (by unfold a_shade; (repeat' split) <;> first | rfl | (exfalso; omega)) (by unfold t_shade; (repeat' split) <;> first | rfl | (exfalso; omega)))
      · refine g_iload_n (pc := 25) dX5_shade_25 3 rfl ?_
        refine g_iconst (pc := 26) dX5_shade_26 ?_
        refine g_bipush (pc := 27) dX5_shade_27 (by omega) ?_
        refine g_callS (pc := 29) (As := [.int (zI q), .int (zI 0), .int (zI 100)]) (rest := []) k_X5_74_X5 (c_X5_isWithin (σ := σ) q 0 100 (by omega) (by omega) (by omega)) ⟨rfl, rfl, Nat.le_of_ble_eq_true rfl, Nat.le_of_ble_eq_true rfl⟩ rfl rfl (Nat.le_of_ble_eq_true rfl) dX5_shade_29 (fun v_ w_ hq_ => ?_)
        rcases hq_ with ⟨rfl, rfl, hw_4⟩ | ⟨rfl, rfl, hw_4⟩
        · refine g_one ?_
          refine g_if_neT (pc := 32) 39 dX5_shade_32 (by decide) (by omega) (by omega) ?_
          refine g_iconst (pc := 39) dX5_shade_39 ?_
          refine g_istore (pc := 40) (lv' := [(4, .int (zI 0)), (0, .ref (ad 0)), (1, .int (zI a)), (2, .int (zI b)), (3, .int (zI q))]) dX5_shade_40 (by decide) rfl ?_
          refine g_iload_n (pc := 42) dX5_shade_42 2 rfl ?_
          refine g_istore (pc := 43) (lv' := [(5, .int (zI a)), (4, .int (zI 0)), (0, .ref (ad 0)), (1, .int (zI a)), (2, .int (zI b)), (3, .int (zI q))]) dX5_shade_43 (by decide) rfl ?_
          refine g_sub (lv' := [(0, .ref (ad 0)), (1, .int (zI a)), (2, .int (zI b)), (3, .int (zI q)), (4, .int (zI 0)), (5, .int (zI a))]) [2, 3, 4, 5, 1, 0] rfl ?_
          refine g_lv (lv' := [(0, .ref (ad 0)), (1, .int (zI a)), (2, .int (zI b)), (3, .int (zI q)), (4, .int (zI (shC (σ 3) q a (a - a).toNat))), (5, .int (zI a))]) (by rw [show a - a = 0 by omega]; rfl) ?_
          refine g_world (w' := CW cy ad (shS σ a a q) ++ X) (by rw [shS_0 hL]) ?_
          exact lp_X5_shade hB hL a b q (by omega) (by omega) (by omega) (by omega) ((b + 1 - a).toNat + 1) a (by omega) (by omega) (by omega)
        · refine g_one ?_
          refine g_if_neF (pc := 32) 39 dX5_shade_32 (by decide) (by omega) (by omega) ?_
          refine g_sipush (pc := 35) dX5_shade_35 (by omega) ?_
          exact g_iret (pc := 38) dX5_shade_38 rfl (wr_of (by unfold a_shade; (repeat' split) <;> first | rfl | (exfalso; omega)) (by unfold t_shade; (repeat' split) <;> first | rfl | (exfalso; omega)))
    · refine g_one ?_
      refine g_if_neF (pc := 13) 20 dX5_shade_13 (by decide) (by omega) (by omega) ?_
      refine g_sipush (pc := 16) dX5_shade_16 (by omega) ?_
      exact g_iret (pc := 19) dX5_shade_19 rfl (wr_of (by unfold a_shade; (repeat' split) <;> first | rfl | (exfalso; omega)) (by unfold t_shade; (repeat' split) <;> first | rfl | (exfalso; omega)))
  · refine g_one ?_
    refine g_if_eqT (pc := 5) 16 dX5_shade_5 (by decide) (by omega) (by omega) ?_
    refine g_sipush (pc := 16) dX5_shade_16 (by omega) ?_
    exact g_iret (pc := 19) dX5_shade_19 rfl (wr_of (by unfold a_shade; (repeat' split) <;> first | rfl | (exfalso; omega)) (by unfold t_shade; (repeat' split) <;> first | rfl | (exfalso; omega)))
end
section
/-! places of modules -/
def plc (σ : Nat → Int → Int) (m s p : Int) : Nat → Int → Int := up (up (up σ 7 (12 * s + p) m) 9 m s) 10 m p
def plL (σ : Nat → Int → Int) (m s : Int) : Nat → Int → Int := up (plc σ m s (σ 6 s)) 6 s (σ 6 s + 1)
def exc (σ : Nat → Int → Int) (a b : Int) : Nat → Int → Int := plc (plc σ a (σ 9 b) (σ 10 b)) b (σ 9 a) (σ 10 a)
def shft (r : Int → Int) (a b : Int) : Int → Int := fun j => if a ≤ j ∧ j < b then r (j + 1) else r j
def tkP (σ : Nat → Int → Int) (s p0 p : Int) : Nat → Int → Int := setR (setR (setR σ 6 (zup (σ 6) s (σ 6 s - 1))) 7 (shft (σ 7) (12 * s + p0) (12 * s + p))) 10 (fun i => if σ 9 i = s ∧ p0 < σ 10 i ∧ σ 10 i ≤ p then σ 10 i - 1 else σ 10 i)
def Pos (g : Nat → Int → Int) (st po : Int → Int) : Prop :=
  (∀ i, 0 ≤ i → i < g 0 1 → (0 ≤ st i ∧ st i < g 0 2) ∧ (0 ≤ po i ∧ po i < g 6 (st i)) ∧ g 7 (12 * st i + po i) = i) ∧
  (∀ s p, 0 ≤ s → s < g 0 2 → 0 ≤ p → p < g 6 s → (0 ≤ g 7 (12 * s + p) ∧ g 7 (12 * s + p) < g 0 1) ∧ st (g 7 (12 * s + p)) = s ∧ po (g 7 (12 * s + p)) = p)
def Unu (σ : Nat → Int → Int) : Prop := ∀ i, i < 0 ∨ σ 0 1 ≤ i → σ 9 i = 0 ∧ σ 10 i = 0
theorem shft_0 (r : Int → Int) (a : Int) : shft r a a = r := by
  funext j
  unfold shft
  rw [if_neg (by omega)]
theorem shft_s (r : Int → Int) {a b : Int} (h : a ≤ b) : shft r a (b + 1) = zup (shft r a b) b (r (b + 1)) := by
  funext j
  unfold shft zup
  by_cases h1 : j = b
  · subst h1; rw [if_pos (by omega), if_pos rfl]
  · rw [if_neg h1]
    dsimp only
    by_cases h2 : a ≤ j ∧ j < b
    · rw [if_pos (by omega), if_pos h2]
    · rw [if_neg (by omega), if_neg h2]
theorem shft_at (r : Int → Int) {a b j : Int} (h : b ≤ j) : shft r a b j = r j := if_neg (by omega)
theorem tkP_0 (σ : Nat → Int → Int) (s p0 : Int) : up σ 6 s (σ 6 s - 1) = tkP σ s p0 p0 := by
  funext g
  unfold tkP
  rw [up_setR]
  by_cases h10 : g = 10
  · subst h10
    rw [setR_s, setR_o _ _ (by decide)]
    funext i
    rw [if_neg (by omega)]
  · rw [setR_o _ _ h10]
    by_cases h7 : g = 7
    · subst h7; rw [setR_s, shft_0]; rfl
    · rw [setR_o _ _ h7]
theorem tkP_s {σ : Nat → Int → Int} {s p0 p m : Int} (hp : p0 ≤ p) (hm : σ 7 (12 * s + p + 1) = m) (h9 : σ 9 m = s) (h10 : σ 10 m = p + 1) (hu : ∀ i, σ 9 i = s → σ 10 i = p + 1 → i = m) : plc (tkP σ s p0 p) m s p = tkP σ s p0 (p + 1) := by
  funext g
  unfold plc
  by_cases g10 : g = 10
  · subst g10
    rw [up_r, up_o _ _ _ (by decide), up_o _ _ _ (by decide)]
    unfold tkP
    rw [setR_s, setR_s]
    funext i
    unfold zup
    by_cases hi : i = m
    · subst hi; rw [if_pos rfl, if_pos (by omega)]; omega
    · rw [if_neg hi]
      dsimp only
      by_cases q : σ 9 i = s ∧ p0 < σ 10 i ∧ σ 10 i ≤ p
      · rw [if_pos q, if_pos (by omega)]
      · rw [if_neg q]
        by_cases q2 : σ 9 i = s ∧ p0 < σ 10 i ∧ σ 10 i ≤ p + 1
        · exact absurd (hu i q2.1 (by omega)) hi
        · rw [if_neg q2]
  · rw [up_o _ _ _ g10]
    by_cases g9 : g = 9
    · subst g9
      rw [up_r, up_o _ _ _ (by decide)]
      show zup (σ 9) m s = σ 9
      funext i
      unfold zup
      by_cases hi : i = m
      · subst hi; rw [if_pos rfl, h9]
      · rw [if_neg hi]
    · rw [up_o _ _ _ g9]
      by_cases g7 : g = 7
      · subst g7
        rw [up_r]
        show zup (shft (σ 7) (12 * s + p0) (12 * s + p)) (12 * s + p) m = shft (σ 7) (12 * s + p0) (12 * s + (p + 1))
        rw [show 12 * s + (p + 1) = 12 * s + p + 1 by omega, shft_s _ (by omega), hm]
      · rw [up_o _ _ _ g7]
        unfold tkP
        rw [setR_o _ _ g10, setR_o _ _ g7, setR_o _ _ g10, setR_o _ _ g7]
theorem pos_uniq {σ : Nat → Int → Int} (hP : Pos σ (σ 9) (σ 10)) (hU : Unu σ) {s p : Int} (hp : 0 ≤ p) : ∀ i, σ 9 i = s → σ 10 i = p + 1 → i = σ 7 (12 * s + p + 1) := by
  intro i q1 q2
  by_cases qi : 0 ≤ i ∧ i < σ 0 1
  · have q3 := (hP.1 i qi.1 qi.2).2.2
    rw [q1, q2, ← Int.add_assoc] at q3
    exact q3.symm
  · have q4 := hU i (by omega)
    omega
theorem tk6 (σ : Nat → Int → Int) (t p0 q s : Int) : tkP σ t p0 q 6 s = if s = t then σ 6 t - 1 else σ 6 s := rfl
theorem tk6_b {σ : Nat → Int → Int} {t s : Int} (p0 q : Int) (h1 : 1 ≤ σ 6 t ∧ σ 6 t ≤ 12) (h2 : 0 ≤ σ 6 s) (h3 : ¬ (¬ t = s ∧ 12 ≤ σ 6 s)) : 0 ≤ tkP σ t p0 q 6 s ∧ tkP σ t p0 q 6 s < 12 := by
  rw [tk6]
  split
  · omega
  · omega
theorem tk6_a {σ : Nat → Int → Int} {t s : Int} (p0 q : Int) : tkP σ t p0 q 6 s = if t = s then σ 6 s - 1 else σ 6 s := by
  rw [tk6]
  by_cases h : t = s
  · rw [if_pos h, if_pos h.symm, h]
  · rw [if_neg h, if_neg (fun q => h q.symm)]
def a_addMod (g : Nat → Int → Int) (s r o : Int) : Int := if 0 ≤ s ∧ s < g 0 2 then (if (1 ≤ r ∧ r ≤ 1000) ∧ (1 ≤ o ∧ o ≤ 600) then (if g 0 1 < 24 ∧ g 6 s < 12 then g 0 1 else -1004) else -1003) else -1001
def ok_addMod (g : Nat → Int → Int) (s r o : Int) : Prop := (0 ≤ s ∧ s < g 0 2) ∧ ((1 ≤ r ∧ r ≤ 1000) ∧ (1 ≤ o ∧ o ≤ 600)) ∧ g 0 1 < 24 ∧ g 6 s < 12
def n_addMod (σ : Nat → Int → Int) (s r o : Int) : Nat → Int → Int := plL (ilm (up (up (up σ 0 1 (σ 0 1 + 1)) 1 (σ 0 1) r) 2 (σ 0 1) o) (σ 0 1) 1000) (σ 0 1) s
def a_move (g : Nat → Int → Int) (st : Int → Int) (m s : Int) : Int := if 0 ≤ m ∧ m < g 0 1 then (if 0 ≤ s ∧ s < g 0 2 then (if ¬ st m = s ∧ 12 ≤ g 6 s then -1004 else (if st m = s then g 6 s - 1 else g 6 s)) else -1001) else -1002
def ok_move (g : Nat → Int → Int) (st : Int → Int) (m s : Int) : Prop := (0 ≤ m ∧ m < g 0 1) ∧ (0 ≤ s ∧ s < g 0 2) ∧ ¬ (¬ st m = s ∧ 12 ≤ g 6 s)
theorem a_move_ok {g : Nat → Int → Int} {st : Int → Int} {m s : Int} (h : ok_move g st m s) : a_move g st m s = if st m = s then g 6 s - 1 else g 6 s := by
  unfold ok_move at h
  unfold a_move
  rw [if_pos h.1, if_pos h.2.1, if_neg h.2.2]
def n_move (σ : Nat → Int → Int) (m s : Int) : Nat → Int → Int := plL (tkP σ (σ 9 m) (σ 10 m) (σ 6 (σ 9 m) - 1)) m s
def a_swap (g : Nat → Int → Int) (st : Int → Int) (a b : Int) : Int := if (0 ≤ a ∧ a < g 0 1) ∧ (0 ≤ b ∧ b < g 0 1) then (if st a = st b then 0 else 1) else -1002
def a_stringOf (g : Nat → Int → Int) (st : Int → Int) (m : Int) : Int := if 0 ≤ m ∧ m < g 0 1 then st m else -1002
/-- an end that is one of two: refused, or done -/
def rwI (c : Prop) (r r' : Int) (w w' : va_W) : Option Value → va_W → Prop := fun v u => (c ∧ v = some (.int (zI r)) ∧ u = w) ∨ (¬ c ∧ v = some (.int (zI r')) ∧ u = w')
theorem exc_9a (σ : Nat → Int → Int) (a b : Int) : exc σ a b 9 a = σ 9 b := by
  show zup (zup (σ 9) a (σ 9 b)) b (σ 9 a) a = σ 9 b
  unfold zup
  by_cases h : a = b
  · subst h; rw [if_pos rfl]
  · rw [if_neg h, if_pos rfl]
theorem exc_9b (σ : Nat → Int → Int) (a b : Int) : exc σ a b 9 b = σ 9 a := by
  show zup (zup (σ 9) a (σ 9 b)) b (σ 9 a) b = σ 9 a
  rw [zup_s]
set_option maxRecDepth 100000 in
set_option maxHeartbeats 2000000 in
/-- PvArray.place  -/
theorem c_X5_place {D : va_G} {cy : Nat → ClassId} {l : Launch} {ad : Nat → Nat} {σ : Nat → Int → Int} {X : va_W} (m : Int) (hm : 0 ≤ m ∧ m < 24) (s : Int) (hs : 0 ≤ s ∧ s < 6) (p : Int) (hp : 0 ≤ p ∧ p < 12) : Con D cy l yX5_place cX5_place 4 none rm_X5_place [.ref (ad 0), .int (zI m), .int (zI s), .int (zI p)] (CW cy ad σ ++ X) (wv (CW cy ad (plc σ m s p) ++ X)) := by
  refine Con.of (lv := [(0, .ref (ad 0)), (1, .int (zI m)), (2, .int (zI s)), (3, .int (zI p))]) (by decide) (Nat.le_of_ble_eq_true rfl) rfl ?_
  refine g_aload_n (pc := 0) dX5_place_0 0 rfl ?_
  refine g_get (pc := 1) (ci := 4) inG_X5 rfl 3 (by decide) rfl fl_X5_63 (0) at_arr rfl dX5_place_1 ?_
  refine g_iload_n (pc := 4) dX5_place_4 2 rfl ?_
  refine g_aald (pc := 5) 3 4 at_strs rfl (by omega) (by decide) rfl dX5_place_5 ?_
  refine g_getN (pc := 6) (ci := 3) inG_X4 rfl 1 (by decide) rfl fl_X5_123 (31 + s.toNat) (at_str (s := s) (by omega)) rfl dX5_place_6 ?_
  refine g_iload_n (pc := 9) dX5_place_9 3 rfl ?_
  refine g_iload_n (pc := 10) dX5_place_10 1 rfl ?_
  refine g_memst (pc := 11) (by omega) (by omega) dX5_place_11 ?_
  refine g_aload_n (pc := 12) dX5_place_12 0 rfl ?_
  refine g_get (pc := 13) (ci := 4) inG_X5 rfl 1 (by decide) rfl fl_X5_59 (0) at_arr rfl dX5_place_13 ?_
  refine g_iload_n (pc := 16) dX5_place_16 1 rfl ?_
  refine g_aald (pc := 17) 2 3 at_mods rfl (by omega) (by decide) rfl dX5_place_17 ?_
  refine g_iload_n (pc := 18) dX5_place_18 2 rfl ?_
  refine g_putN (pc := 19) (ci := 2) inG_X3 tyX3 tyX3_ok nmX3 rfl 7 (by decide) rfl rfl fl_X5_112 (7 + m.toNat) (at_mod (i := m) (by omega)) rfl rfl (Nat.le_of_ble_eq_true rfl) (st_9 (by omega)) dX5_place_19 ?_
  refine g_aload_n (pc := 22) dX5_place_22 0 rfl ?_
  refine g_get (pc := 23) (ci := 4) inG_X5 rfl 1 (by decide) rfl fl_X5_59 (0) at_arr rfl dX5_place_23 ?_
  refine g_iload_n (pc := 26) dX5_place_26 1 rfl ?_
  refine g_aald (pc := 27) 2 3 at_mods rfl (by omega) (by decide) rfl dX5_place_27 ?_
  refine g_iload_n (pc := 28) dX5_place_28 3 rfl ?_
  refine g_putN (pc := 29) (ci := 2) inG_X3 tyX3 tyX3_ok nmX3 rfl 8 (by decide) rfl rfl fl_X5_185 (7 + m.toNat) (at_mod (i := m) (by omega)) rfl rfl (Nat.le_of_ble_eq_true rfl) (st_10 (by omega)) dX5_place_29 ?_
  exact g_vret (pc := 32) dX5_place_32 rfl (wv_of rfl)
set_option maxRecDepth 100000 in
set_option maxHeartbeats 2000000 in
/-- PvArray.putLast  -/
theorem c_X5_putLast {D : va_G} {cy : Nat → ClassId} {l : Launch} {ad : Nat → Nat} {σ : Nat → Int → Int} {X : va_W} (m : Int) (hm : 0 ≤ m ∧ m < 24) (s : Int) (hs : 0 ≤ s ∧ s < 6) (hc : 0 ≤ σ 6 s ∧ σ 6 s < 12) : Con D cy l yX5_putLast cX5_putLast 4 (some .int) rm_X5_putLast [.ref (ad 0), .int (zI m), .int (zI s)] (CW cy ad σ ++ X) (rdI (σ 6 s) (CW cy ad (plL σ m s) ++ X)) := by
  refine Con.of (lv := [(0, .ref (ad 0)), (1, .int (zI m)), (2, .int (zI s))]) (by decide) (Nat.le_of_ble_eq_true rfl) rfl ?_
  refine g_aload_n (pc := 0) dX5_putLast_0 0 rfl ?_
  refine g_get (pc := 1) (ci := 4) inG_X5 rfl 3 (by decide) rfl fl_X5_63 (0) at_arr rfl dX5_putLast_1 ?_
  refine g_iload_n (pc := 4) dX5_putLast_4 2 rfl ?_
  refine g_aald (pc := 5) 3 4 at_strs rfl (by omega) (by decide) rfl dX5_putLast_5 ?_
  refine g_getN (pc := 6) (ci := 3) inG_X4 rfl 2 (by decide) rfl fl_X5_122 (31 + s.toNat) (at_str (s := s) (by omega)) rfl dX5_putLast_6 ?_
  refine g_istore_n (pc := 9) (lv' := [(3, .int (zI (σ 6 s))), (0, .ref (ad 0)), (1, .int (zI m)), (2, .int (zI s))]) dX5_putLast_9 (by decide) rfl ?_
  refine g_aload_n (pc := 10) dX5_putLast_10 1 rfl ?_
  refine g_iload_n (pc := 11) dX5_putLast_11 2 rfl ?_
  refine g_iload_n (pc := 12) dX5_putLast_12 3 rfl ?_
  refine g_iload_n (pc := 13) dX5_putLast_13 0 rfl ?_
  refine g_callV (pc := 14) (As := [.int (zI m), .int (zI s), .int (zI (σ 6 s))]) (rest := []) k_X5_181_X5 (c_X5_place (σ := σ) m (by omega) s (by omega) (σ 6 s) (by omega)) ⟨rfl, rfl, Nat.le_of_ble_eq_true rfl, Nat.le_of_ble_eq_true rfl⟩ (0) 4 rfl rfl at_arr rfl rfl (Nat.le_of_ble_eq_true rfl) dX5_putLast_14 (fun v_ w_ hq_ => ?_)
  obtain ⟨rfl, rfl⟩ := hq_
  refine g_none ?_
  refine g_aload_n (pc := 17) dX5_putLast_17 1 rfl ?_
  refine g_get (pc := 18) (ci := 4) inG_X5 rfl 3 (by decide) rfl fl_X5_63 (0) at_arr rfl dX5_putLast_18 ?_
  refine g_iload_n (pc := 21) dX5_putLast_21 3 rfl ?_
  refine g_aald (pc := 22) 3 4 at_strs rfl (by omega) (by decide) rfl dX5_putLast_22 ?_
  refine g_dup (pc := 23) dX5_putLast_23 rfl ?_
  refine g_getN (pc := 24) (ci := 3) inG_X4 rfl 2 (by decide) rfl fl_X5_122 (31 + s.toNat) (at_str (s := s) (by omega)) rfl dX5_putLast_24 ?_
  refine g_topI (show plc σ m s (σ 6 s) 6 s = σ 6 s from rfl) ?_
  refine g_iconst (pc := 27) dX5_putLast_27 ?_
  refine g_iadd (pc := 28) dX5_putLast_28 ?_
  refine g_putN (pc := 29) (ci := 3) inG_X4 tyX4 tyX4_ok nmX4 rfl 2 (by decide) rfl rfl fl_X5_122 (31 + s.toNat) (at_str (s := s) (by omega)) rfl rfl (Nat.le_of_ble_eq_true rfl) (st_6 (by omega)) dX5_putLast_29 ?_
  refine g_iload_n (pc := 32) dX5_putLast_32 0 rfl ?_
  exact g_iret (pc := 33) dX5_putLast_33 rfl (wr_of rfl rfl)
set_option maxRecDepth 100000 in
set_option maxHeartbeats 2000000 in
/-- PvArray.takeOut, the loop at 38  -/
theorem lp_X5_takeOut {D : va_G} {cy : Nat → ClassId} {l : Launch} {ad : Nat → Nat} {σ : Nat → Int → Int} {X : va_W} (hB : Bd σ) (hP : Pos σ (σ 9) (σ 10)) (hU : Unu σ) (m : Int) (hm : 0 ≤ m ∧ m < σ 0 1) : ∀ (n : Nat) (p : Int), σ 10 m ≤ p → p ≤ σ 6 (σ 9 m) - 1 → (σ 6 (σ 9 m) - 1 - p).toNat < n → GO D cy l rm_X5_takeOut cX5_takeOut 5 yX5_takeOut.cls none (CW cy ad σ ++ X) (wv (CW cy ad (tkP σ (σ 9 m) (σ 10 m) (σ 6 (σ 9 m) - 1)) ++ X)) (CW cy ad (tkP σ (σ 9 m) (σ 10 m) p) ++ X) 38 [(0, .ref (ad 0)), (1, .int (zI m)), (2, .int (zI (σ 9 m))), (3, .ref (ad (31 + (σ 9 m).toNat))), (4, .int (zI p))] [] := by
  intro n
  induction n with
  | zero =>
    intro p hp hp2 hn
    exact absurd hn (Nat.not_lt_zero _)
  | succ n ih =>
    intro p hp hp2 hn
    have g1 := hB.sc
    have g2 := hB.mc
    have g3 := hP.1 m hm.1 hm.2
    have g4 := hB.b6 (σ 9 m)
    refine g_iload (pc := 38) dX5_takeOut_38 4 rfl ?_
    refine g_aload_n (pc := 40) dX5_takeOut_40 3 rfl ?_
    refine g_getN (pc := 41) (ci := 3) inG_X4 rfl 2 (by decide) rfl fl_X5_122 (31 + (σ 9 m).toNat) (at_str (s := (σ 9 m)) (by omega)) rfl dX5_takeOut_41 ?_
    refine g_topI (show (tkP σ (σ 9 m) (σ 10 m) p) 6 (σ 9 m) = σ 6 (σ 9 m) - 1 from zup_s _ _ _) ?_
    refine g_icmp_ge (pc := 44) 69 dX5_takeOut_44 (by decide) (by omega) (by omega) (fun h_1 => ?_) (fun h_1 => ?_)
    · exact g_vret (pc := 69) dX5_takeOut_69 rfl (wv_of (by rw [show p = σ 6 (σ 9 m) - 1 by omega]))
    · have g5 : (0 ≤ σ 7 (12 * σ 9 m + p + 1) ∧ σ 7 (12 * σ 9 m + p + 1) < σ 0 1) ∧ σ 9 (σ 7 (12 * σ 9 m + p + 1)) = σ 9 m ∧ σ 10 (σ 7 (12 * σ 9 m + p + 1)) = p + 1 := by have q := hP.2 (σ 9 m) (p + 1) (by omega) (by omega) (by omega) (by omega); rw [← Int.add_assoc] at q; exact q
      refine g_aload_n (pc := 47) dX5_takeOut_47 0 rfl ?_
      refine g_aload_n (pc := 48) dX5_takeOut_48 3 rfl ?_
      refine g_getN (pc := 49) (ci := 3) inG_X4 rfl 1 (by decide) rfl fl_X5_123 (31 + (σ 9 m).toNat) (at_str (s := (σ 9 m)) (by omega)) rfl dX5_takeOut_49 ?_
      refine g_iload (pc := 52) dX5_takeOut_52 4 rfl ?_
      refine g_iconst (pc := 54) dX5_takeOut_54 ?_
      refine g_iadd (pc := 55) dX5_takeOut_55 ?_
      refine g_mem (pc := 56) (by omega) (by omega) dX5_takeOut_56 ?_
      refine g_topI (show (tkP σ (σ 9 m) (σ 10 m) p) 7 (12 * σ 9 m + (p + 1)) = σ 7 (12 * σ 9 m + p + 1) by rw [← Int.add_assoc]; exact shft_at _ (by omega)) ?_
      refine g_iload_n (pc := 57) dX5_takeOut_57 2 rfl ?_
      refine g_iload (pc := 58) dX5_takeOut_58 4 rfl ?_
      refine g_callV (pc := 60) (As := [.int (zI (σ 7 (12 * σ 9 m + p + 1))), .int (zI (σ 9 m)), .int (zI p)]) (rest := []) k_X5_181_X5 (c_X5_place (σ := (tkP σ (σ 9 m) (σ 10 m) p)) (σ 7 (12 * σ 9 m + p + 1)) (by omega) (σ 9 m) (by omega) p (by omega)) ⟨rfl, rfl, Nat.le_of_ble_eq_true rfl, Nat.le_of_ble_eq_true rfl⟩ (0) 4 rfl rfl at_arr rfl rfl (Nat.le_of_ble_eq_true rfl) dX5_takeOut_60 (fun v_ w_ hq_ => ?_)
      obtain ⟨rfl, rfl⟩ := hq_
      refine g_none ?_
      refine g_iinc (pc := 63) (lv' := [(4, .int (zI (p + 1))), (0, .ref (ad 0)), (1, .int (zI m)), (2, .int (zI (σ 9 m))), (3, .ref (ad (31 + (σ 9 m).toNat)))]) dX5_takeOut_63 (by decide) 4 rfl rfl ?_
      refine g_goto (pc := 66) 38 dX5_takeOut_66 (by decide) ?_
      refine g_sub (lv' := [(0, .ref (ad 0)), (1, .int (zI m)), (2, .int (zI (σ 9 m))), (3, .ref (ad (31 + (σ 9 m).toNat))), (4, .int (zI (p + 1)))]) [1, 2, 3, 4, 0] rfl ?_
      refine g_world (w' := CW cy ad (tkP σ (σ 9 m) (σ 10 m) (p + 1)) ++ X) (by rw [← tkP_s (m := σ 7 (12 * σ 9 m + p + 1)) hp rfl g5.2.1 g5.2.2 (pos_uniq hP hU (by omega))]) ?_
      exact ih (p + 1) (by omega) (by omega) (by omega)
set_option maxRecDepth 100000 in
set_option maxHeartbeats 2000000 in
/-- PvArray.takeOut  -/
theorem c_X5_takeOut {D : va_G} {cy : Nat → ClassId} {l : Launch} {ad : Nat → Nat} {σ : Nat → Int → Int} {X : va_W} (hB : Bd σ) (hP : Pos σ (σ 9) (σ 10)) (hU : Unu σ) (m : Int) (hm : 0 ≤ m ∧ m < σ 0 1) : Con D cy l yX5_takeOut cX5_takeOut 5 none rm_X5_takeOut [.ref (ad 0), .int (zI m)] (CW cy ad σ ++ X) (wv (CW cy ad (tkP σ (σ 9 m) (σ 10 m) (σ 6 (σ 9 m) - 1)) ++ X)) := by
  refine Con.of (lv := [(0, .ref (ad 0)), (1, .int (zI m))]) (by decide) (Nat.le_of_ble_eq_true rfl) rfl ?_
  have g1 := hB.sc
  have g2 := hB.mc
  have g3 := hP.1 m hm.1 hm.2
  have g4 := hB.b6 (σ 9 m)
  refine g_aload_n (pc := 0) dX5_takeOut_0 0 rfl ?_
  refine g_get (pc := 1) (ci := 4) inG_X5 rfl 1 (by decide) rfl fl_X5_59 (0) at_arr rfl dX5_takeOut_1 ?_
  refine g_iload_n (pc := 4) dX5_takeOut_4 1 rfl ?_
  refine g_aald (pc := 5) 2 3 at_mods rfl (by omega) (by decide) rfl dX5_takeOut_5 ?_
  refine g_getN (pc := 6) (ci := 2) inG_X3 rfl 7 (by decide) rfl fl_X5_112 (7 + m.toNat) (at_mod (i := m) (by omega)) rfl dX5_takeOut_6 ?_
  refine g_istore_n (pc := 9) (lv' := [(2, .int (zI (σ 9 m))), (0, .ref (ad 0)), (1, .int (zI m))]) dX5_takeOut_9 (by decide) rfl ?_
  refine g_aload_n (pc := 10) dX5_takeOut_10 1 rfl ?_
  refine g_get (pc := 11) (ci := 4) inG_X5 rfl 3 (by decide) rfl fl_X5_63 (0) at_arr rfl dX5_takeOut_11 ?_
  refine g_iload_n (pc := 14) dX5_takeOut_14 0 rfl ?_
  refine g_aald (pc := 15) 3 4 at_strs rfl (by omega) (by decide) rfl dX5_takeOut_15 ?_
  refine g_astore_n (pc := 16) (lv' := [(3, .ref (ad (31 + (σ 9 m).toNat))), (2, .int (zI (σ 9 m))), (0, .ref (ad 0)), (1, .int (zI m))]) dX5_takeOut_16 (by decide) rfl ?_
  refine g_aload_n (pc := 17) dX5_takeOut_17 0 rfl ?_
  refine g_dup (pc := 18) dX5_takeOut_18 rfl ?_
  refine g_getN (pc := 19) (ci := 3) inG_X4 rfl 2 (by decide) rfl fl_X5_122 (31 + (σ 9 m).toNat) (at_str (s := (σ 9 m)) (by omega)) rfl dX5_takeOut_19 ?_
  refine g_iconst (pc := 22) dX5_takeOut_22 ?_
  refine g_isub (pc := 23) dX5_takeOut_23 ?_
  refine g_putN (pc := 24) (ci := 3) inG_X4 tyX4 tyX4_ok nmX4 rfl 2 (by decide) rfl rfl fl_X5_122 (31 + (σ 9 m).toNat) (at_str (s := (σ 9 m)) (by omega)) rfl rfl (Nat.le_of_ble_eq_true rfl) (st_6 (by omega)) dX5_takeOut_24 ?_
  refine g_aload_n (pc := 27) dX5_takeOut_27 2 rfl ?_
  refine g_get (pc := 28) (ci := 4) inG_X5 rfl 1 (by decide) rfl fl_X5_59 (0) at_arr rfl dX5_takeOut_28 ?_
  refine g_iload_n (pc := 31) dX5_takeOut_31 3 rfl ?_
  refine g_aald (pc := 32) 2 3 at_mods rfl (by omega) (by decide) rfl dX5_takeOut_32 ?_
  refine g_getN (pc := 33) (ci := 2) inG_X3 rfl 8 (by decide) rfl fl_X5_185 (7 + m.toNat) (at_mod (i := m) (by omega)) rfl dX5_takeOut_33 ?_
  refine g_topI (show up σ 6 (σ 9 m) (σ 6 (σ 9 m) - 1) 10 m = σ 10 m from rfl) ?_
  refine g_istore (pc := 36) (lv' := [(4, .int (zI (σ 10 m))), (3, .ref (ad (31 + (σ 9 m).toNat))), (2, .int (zI (σ 9 m))), (0, .ref (ad 0)), (1, .int (zI m))]) dX5_takeOut_36 (by decide) rfl ?_
  refine g_sub (lv' := [(0, .ref (ad 0)), (1, .int (zI m)), (2, .int (zI (σ 9 m))), (3, .ref (ad (31 + (σ 9 m).toNat))), (4, .int (zI (σ 10 m)))]) [3, 4, 2, 1, 0] rfl ?_
  refine g_world (w' := CW cy ad (tkP σ (σ 9 m) (σ 10 m) (σ 10 m)) ++ X) (by rw [← tkP_0]) ?_
  exact lp_X5_takeOut hB hP hU m hm ((σ 6 (σ 9 m)).toNat + 1) (σ 10 m) (by omega) (by omega) (by omega)
set_option maxRecDepth 100000 in
set_option maxHeartbeats 2000000 in
/-- PvArray.exchange  -/
theorem c_X5_exchange {D : va_G} {cy : Nat → ClassId} {l : Launch} {ad : Nat → Nat} {σ : Nat → Int → Int} {X : va_W} (hB : Bd σ) (hP : Pos σ (σ 9) (σ 10)) (a : Int) (ha : 0 ≤ a ∧ a < σ 0 1) (b : Int) (hb : 0 ≤ b ∧ b < σ 0 1) : Con D cy l yX5_exchange cX5_exchange 5 none rm_X5_exchange [.ref (ad 0), .int (zI a), .int (zI b)] (CW cy ad σ ++ X) (wv (CW cy ad (exc σ a b) ++ X)) := by
  refine Con.of (lv := [(0, .ref (ad 0)), (1, .int (zI a)), (2, .int (zI b))]) (by decide) (Nat.le_of_ble_eq_true rfl) rfl ?_
  have g1 := hB.sc
  have g2 := hB.mc
  have g3 := hP.1 a ha.1 ha.2
  have g4 := hP.1 b hb.1 hb.2
  have g5 := hB.b6 (σ 9 a)
  have g6 := hB.b6 (σ 9 b)
  refine g_aload_n (pc := 0) dX5_exchange_0 0 rfl ?_
  refine g_get (pc := 1) (ci := 4) inG_X5 rfl 1 (by decide) rfl fl_X5_59 (0) at_arr rfl dX5_exchange_1 ?_
  refine g_iload_n (pc := 4) dX5_exchange_4 1 rfl ?_
  refine g_aald (pc := 5) 2 3 at_mods rfl (by omega) (by decide) rfl dX5_exchange_5 ?_
  refine g_getN (pc := 6) (ci := 2) inG_X3 rfl 7 (by decide) rfl fl_X5_112 (7 + a.toNat) (at_mod (i := a) (by omega)) rfl dX5_exchange_6 ?_
  refine g_istore_n (pc := 9) (lv' := [(3, .int (zI (σ 9 a))), (0, .ref (ad 0)), (1, .int (zI a)), (2, .int (zI b))]) dX5_exchange_9 (by decide) rfl ?_
  refine g_aload_n (pc := 10) dX5_exchange_10 1 rfl ?_
  refine g_get (pc := 11) (ci := 4) inG_X5 rfl 1 (by decide) rfl fl_X5_59 (0) at_arr rfl dX5_exchange_11 ?_
  refine g_iload_n (pc := 14) dX5_exchange_14 2 rfl ?_
  refine g_aald (pc := 15) 2 3 at_mods rfl (by omega) (by decide) rfl dX5_exchange_15 ?_
  refine g_getN (pc := 16) (ci := 2) inG_X3 rfl 8 (by decide) rfl fl_X5_185 (7 + a.toNat) (at_mod (i := a) (by omega)) rfl dX5_exchange_16 ?_
  refine g_istore (pc := 19) (lv' := [(4, .int (zI (σ 10 a))), (3, .int (zI (σ 9 a))), (0, .ref (ad 0)), (1, .int (zI a)), (2, .int (zI b))]) dX5_exchange_19 (by decide) rfl ?_
  refine g_aload_n (pc := 21) dX5_exchange_21 2 rfl ?_
  refine g_iload_n (pc := 22) dX5_exchange_22 3 rfl ?_
  refine g_aload_n (pc := 23) dX5_exchange_23 2 rfl ?_
  refine g_get (pc := 24) (ci := 4) inG_X5 rfl 1 (by decide) rfl fl_X5_59 (0) at_arr rfl dX5_exchange_24 ?_
  refine g_iload_n (pc := 27) dX5_exchange_27 4 rfl ?_
  refine g_aald (pc := 28) 2 3 at_mods rfl (by omega) (by decide) rfl dX5_exchange_28 ?_
  refine g_getN (pc := 29) (ci := 2) inG_X3 rfl 7 (by decide) rfl fl_X5_112 (7 + b.toNat) (at_mod (i := b) (by omega)) rfl dX5_exchange_29 ?_
  refine g_aload_n (pc := 32) dX5_exchange_32 2 rfl ?_
  refine g_get (pc := 33) (ci := 4) inG_X5 rfl 1 (by decide) rfl fl_X5_59 (0) at_arr rfl dX5_exchange_33 ?_
  refine g_iload_n (pc := 36) dX5_exchange_36 4 rfl ?_
  refine g_aald (pc := 37) 2 3 at_mods rfl (by omega) (by decide) rfl dX5_exchange_37 ?_
  refine g_getN (pc := 38) (ci := 2) inG_X3 rfl 8 (by decide) rfl fl_X5_185 (7 + b.toNat) (at_mod (i := b) (by omega)) rfl dX5_exchange_38 ?_
  refine g_callV (pc := 41) (As := [.int (zI a), .int (zI (σ 9 b)), .int (zI (σ 10 b))]) (rest := []) k_X5_181_X5 (c_X5_place (σ := σ) a (by omega) (σ 9 b) (by omega) (σ 10 b) (by omega)) ⟨rfl, rfl, Nat.le_of_ble_eq_true rfl, Nat.le_of_ble_eq_true rfl⟩ (0) 4 rfl rfl at_arr rfl rfl (Nat.le_of_ble_eq_true rfl) dX5_exchange_41 (fun v_ w_ hq_ => ?_)
  obtain ⟨rfl, rfl⟩ := hq_
  refine g_none ?_
  refine g_aload_n (pc := 44) dX5_exchange_44 2 rfl ?_
  refine g_iload_n (pc := 45) dX5_exchange_45 4 rfl ?_
  refine g_iload_n (pc := 46) dX5_exchange_46 1 rfl ?_
  refine g_iload (pc := 47) dX5_exchange_47 0 rfl ?_
  refine g_callV (pc := 49) (As := [.int (zI b), .int (zI (σ 9 a)), .int (zI (σ 10 a))]) (rest := []) k_X5_181_X5 (c_X5_place (σ := (plc σ a (σ 9 b) (σ 10 b))) b (by omega) (σ 9 a) (by omega) (σ 10 a) (by omega)) ⟨rfl, rfl, Nat.le_of_ble_eq_true rfl, Nat.le_of_ble_eq_true rfl⟩ (0) 4 rfl rfl at_arr rfl rfl (Nat.le_of_ble_eq_true rfl) dX5_exchange_49 (fun v_ w_ hq_ => ?_)
  obtain ⟨rfl, rfl⟩ := hq_
  refine g_none ?_
  exact g_vret (pc := 52) dX5_exchange_52 rfl (wv_of rfl)
set_option maxRecDepth 100000 in
set_option maxHeartbeats 2000000 in
/-- PvArray.stringOf  -/
theorem c_X5_stringOf {D : va_G} {cy : Nat → ClassId} {l : Launch} {ad : Nat → Nat} {σ : Nat → Int → Int} {X : va_W} (hB : Bd σ) (m : Int) (hm : -2147483648 ≤ m ∧ m ≤ 2147483647) : Con D cy l yX5_stringOf cX5_stringOf 2 (some .int) rm_X5_stringOf [.ref (ad 0), .int (zI m)] (CW cy ad σ ++ X) (rdI (a_stringOf σ (σ 9) m) (CW cy ad σ ++ X)) := by
  refine Con.of (lv := [(0, .ref (ad 0)), (1, .int (zI m))]) (by decide) (Nat.le_of_ble_eq_true rfl) rfl ?_
  have g1 := hB.sc
  have g2 := hB.mc
  refine g_aload_n (pc := 0) dX5_stringOf_0 0 rfl ?_
  refine g_iload_n (pc := 1) dX5_stringOf_1 1 rfl ?_
  refine g_callV (pc := 2) (As := [.int (zI m)]) (rest := []) k_X5_96_X5 (c_X5_isModule (σ := σ) hB m (by omega)) ⟨rfl, rfl, Nat.le_of_ble_eq_true rfl, Nat.le_of_ble_eq_true rfl⟩ (0) 4 rfl rfl at_arr rfl rfl (Nat.le_of_ble_eq_true rfl) dX5_stringOf_2 (fun v_ w_ hq_ => ?_)
  rcases hq_ with ⟨rfl, rfl, hm_1⟩ | ⟨rfl, rfl, hm_1⟩
  · refine g_one ?_
    refine g_if_eqF (pc := 5) 20 dX5_stringOf_5 (by decide) (by omega) (by omega) ?_
    refine g_aload_n (pc := 8) dX5_stringOf_8 0 rfl ?_
    refine g_get (pc := 9) (ci := 4) inG_X5 rfl 1 (by decide) rfl fl_X5_59 (0) at_arr rfl dX5_stringOf_9 ?_
    refine g_iload_n (pc := 12) dX5_stringOf_12 1 rfl ?_
    refine g_aald (pc := 13) 2 3 at_mods rfl (by omega) (by decide) rfl dX5_stringOf_13 ?_
    refine g_getN (pc := 14) (ci := 2) inG_X3 rfl 7 (by decide) rfl fl_X5_112 (7 + m.toNat) (at_mod (i := m) (by omega)) rfl dX5_stringOf_14 ?_
    refine g_goto (pc := 17) 23 dX5_stringOf_17 (by decide) ?_
    exact g_iret (pc := 23) dX5_stringOf_23 rfl (rdI_of (by unfold a_stringOf; (repeat' split) <;> first | rfl | (exfalso; omega)))
  · refine g_one ?_
    refine g_if_eqT (pc := 5) 20 dX5_stringOf_5 (by decide) (by omega) (by omega) ?_
    refine g_sipush (pc := 20) dX5_stringOf_20 (by omega) ?_
    exact g_iret (pc := 23) dX5_stringOf_23 rfl (rdI_of (by unfold a_stringOf; (repeat' split) <;> first | rfl | (exfalso; omega)))
set_option maxRecDepth 100000 in
set_option maxHeartbeats 2000000 in
/-- PvArray.addModule  -/
theorem c_X5_addModule {D : va_G} {cy : Nat → ClassId} {l : Launch} {ad : Nat → Nat} {σ : Nat → Int → Int} {X : va_W} (hB : Bd σ) (s : Int) (hs : -2147483648 ≤ s ∧ s ≤ 2147483647) (r : Int) (hr : -2147483648 ≤ r ∧ r ≤ 2147483647) (o : Int) (ho : -2147483648 ≤ o ∧ o ≤ 2147483647) : Con D cy l yX5_addModule cX5_addModule 5 (some .int) rm_X5_addModule [.ref (ad 0), .int (zI s), .int (zI r), .int (zI o)] (CW cy ad σ ++ X) (rwI (ok_addMod σ s r o) (a_addMod σ s r o) (a_addMod σ s r o) (CW cy ad (n_addMod σ s r o) ++ X) (CW cy ad σ ++ X)) := by
  refine Con.of (lv := [(0, .ref (ad 0)), (1, .int (zI s)), (2, .int (zI r)), (3, .int (zI o))]) (by decide) (Nat.le_of_ble_eq_true rfl) rfl ?_
  have g1 := hB.sc
  have g2 := hB.mc
  have g3 := hB.b6 s
  refine g_aload_n (pc := 0) dX5_addModule_0 0 rfl ?_
  refine g_iload_n (pc := 1) dX5_addModule_1 1 rfl ?_
  refine g_callV (pc := 2) (As := [.int (zI s)]) (rest := []) k_X5_70_X5 (c_X5_isString (σ := σ) hB s (by omega)) ⟨rfl, rfl, Nat.le_of_ble_eq_true rfl, Nat.le_of_ble_eq_true rfl⟩ (0) 4 rfl rfl at_arr rfl rfl (Nat.le_of_ble_eq_true rfl) dX5_addModule_2 (fun v_ w_ hq_ => ?_)
  rcases hq_ with ⟨rfl, rfl, hs_1⟩ | ⟨rfl, rfl, hs_1⟩
  · refine g_one ?_
    refine g_if_neT (pc := 5) 12 dX5_addModule_5 (by decide) (by omega) (by omega) ?_
    refine g_iload_n (pc := 12) dX5_addModule_12 2 rfl ?_
    refine g_iconst (pc := 13) dX5_addModule_13 ?_
    refine g_sipush (pc := 14) dX5_addModule_14 (by omega) ?_
    refine g_callS (pc := 17) (As := [.int (zI r), .int (zI 1), .int (zI 1000)]) (rest := []) k_X5_74_X5 (c_X5_isWithin (σ := σ) r 1 1000 (by omega) (by omega) (by omega)) ⟨rfl, rfl, Nat.le_of_ble_eq_true rfl, Nat.le_of_ble_eq_true rfl⟩ rfl rfl (Nat.le_of_ble_eq_true rfl) dX5_addModule_17 (fun v_ w_ hq_ => ?_)
    rcases hq_ with ⟨rfl, rfl, hw_2⟩ | ⟨rfl, rfl, hw_2⟩
    · refine g_one ?_
      refine g_if_eqF (pc := 20) 34 dX5_addModule_20 (by decide) (by omega) (by omega) ?_
      refine g_iload_n (pc := 23) dX5_addModule_23 3 rfl ?_
      refine g_iconst (pc := 24) dX5_addModule_24 ?_
      refine g_sipush (pc := 25) dX5_addModule_25 (by omega) ?_
      refine g_callS (pc := 28) (As := [.int (zI o), .int (zI 1), .int (zI 600)]) (rest := []) k_X5_74_X5 (c_X5_isWithin (σ := σ) o 1 600 (by omega) (by omega) (by omega)) ⟨rfl, rfl, Nat.le_of_ble_eq_true rfl, Nat.le_of_ble_eq_true rfl⟩ rfl rfl (Nat.le_of_ble_eq_true rfl) dX5_addModule_28 (fun v_ w_ hq_ => ?_)
      rcases hq_ with ⟨rfl, rfl, hw_3⟩ | ⟨rfl, rfl, hw_3⟩
      · refine g_one ?_
        refine g_if_neT (pc := 31) 38 dX5_addModule_31 (by decide) (by omega) (by omega) ?_
        refine g_aload_n (pc := 38) dX5_addModule_38 0 rfl ?_
        refine g_get (pc := 39) (ci := 4) inG_X5 rfl 2 (by decide) rfl fl_X5_9 (0) at_arr rfl dX5_addModule_39 ?_
        refine g_bipush (pc := 42) dX5_addModule_42 (by omega) ?_
        refine g_icmp_ge (pc := 44) 59 dX5_addModule_44 (by decide) (by omega) (by omega) (fun h_4 => ?_) (fun h_4 => ?_)
        · refine g_sipush (pc := 59) dX5_addModule_59 (by omega) ?_
          exact g_iret (pc := 62) dX5_addModule_62 rfl (Or.inr ⟨by unfold ok_addMod; omega, by unfold a_addMod; (repeat' split) <;> first | rfl | (exfalso; omega), rfl⟩)
        · refine g_aload_n (pc := 47) dX5_addModule_47 0 rfl ?_
          refine g_get (pc := 48) (ci := 4) inG_X5 rfl 3 (by decide) rfl fl_X5_63 (0) at_arr rfl dX5_addModule_48 ?_
          refine g_iload_n (pc := 51) dX5_addModule_51 1 rfl ?_
          refine g_aald (pc := 52) 3 4 at_strs rfl (by omega) (by decide) rfl dX5_addModule_52 ?_
          refine g_callN (pc := 53) (As := []) (rest := []) k_X5_78_X4 (c_X4_isFull (σ := σ) hB s (by omega)) ⟨rfl, rfl, Nat.le_of_ble_eq_true rfl, Nat.le_of_ble_eq_true rfl⟩ (31 + s.toNat) 3 rfl rfl (at_str (s := s) (by omega)) rfl rfl (Nat.le_of_ble_eq_true rfl) dX5_addModule_53 (fun v_ w_ hq_ => ?_)
          rcases hq_ with ⟨rfl, rfl, hf_5⟩ | ⟨rfl, rfl, hf_5⟩
          · refine g_one ?_
            refine g_if_eqF (pc := 56) 63 dX5_addModule_56 (by decide) (by omega) (by omega) ?_
            refine g_sipush (pc := 59) dX5_addModule_59 (by omega) ?_
            exact g_iret (pc := 62) dX5_addModule_62 rfl (Or.inr ⟨by unfold ok_addMod; omega, by unfold a_addMod; (repeat' split) <;> first | rfl | (exfalso; omega), rfl⟩)
          · refine g_one ?_
            refine g_if_eqT (pc := 56) 63 dX5_addModule_56 (by decide) (by omega) (by omega) ?_
            refine g_aload_n (pc := 63) dX5_addModule_63 0 rfl ?_
            refine g_get (pc := 64) (ci := 4) inG_X5 rfl 2 (by decide) rfl fl_X5_9 (0) at_arr rfl dX5_addModule_64 ?_
            refine g_istore (pc := 67) (lv' := [(4, .int (zI (σ 0 1))), (0, .ref (ad 0)), (1, .int (zI s)), (2, .int (zI r)), (3, .int (zI o))]) dX5_addModule_67 (by decide) rfl ?_
            refine g_aload_n (pc := 69) dX5_addModule_69 1 rfl ?_
            refine g_dup (pc := 70) dX5_addModule_70 rfl ?_
            refine g_get (pc := 71) (ci := 4) inG_X5 rfl 2 (by decide) rfl fl_X5_9 (0) at_arr rfl dX5_addModule_71 ?_
            refine g_iconst (pc := 74) dX5_addModule_74 ?_
            refine g_iadd (pc := 75) dX5_addModule_75 ?_
            refine g_put (pc := 76) (ci := 4) inG_X5 tyX5 tyX5_ok nmX5 rfl 2 (by decide) rfl rfl fl_X5_9 (0) at_arr rfl rfl (Nat.le_of_ble_eq_true rfl) st_0_1 dX5_addModule_76 ?_
            refine g_aload_n (pc := 79) dX5_addModule_79 1 rfl ?_
            refine g_get (pc := 80) (ci := 4) inG_X5 rfl 1 (by decide) rfl fl_X5_59 (0) at_arr rfl dX5_addModule_80 ?_
            refine g_iload (pc := 83) dX5_addModule_83 0 rfl ?_
            refine g_aald (pc := 85) 2 3 at_mods rfl (by omega) (by decide) rfl dX5_addModule_85 ?_
            refine g_iload_n (pc := 86) dX5_addModule_86 3 rfl ?_
            refine g_putN (pc := 87) (ci := 2) inG_X3 tyX3 tyX3_ok nmX3 rfl 1 (by decide) rfl rfl fl_X5_82 (7 + (σ 0 1).toNat) (at_mod (i := (σ 0 1)) (by omega)) rfl rfl (Nat.le_of_ble_eq_true rfl) (st_1 (by omega)) dX5_addModule_87 ?_
            refine g_aload_n (pc := 90) dX5_addModule_90 1 rfl ?_
            refine g_get (pc := 91) (ci := 4) inG_X5 rfl 1 (by decide) rfl fl_X5_59 (0) at_arr rfl dX5_addModule_91 ?_
            refine g_iload (pc := 94) dX5_addModule_94 0 rfl ?_
            refine g_aald (pc := 96) 2 3 at_mods rfl (by omega) (by decide) rfl dX5_addModule_96 ?_
            refine g_iload_n (pc := 97) dX5_addModule_97 4 rfl ?_
            refine g_putN (pc := 98) (ci := 2) inG_X3 tyX3 tyX3_ok nmX3 rfl 2 (by decide) rfl rfl fl_X5_85 (7 + (σ 0 1).toNat) (at_mod (i := (σ 0 1)) (by omega)) rfl rfl (Nat.le_of_ble_eq_true rfl) (st_2 (by omega)) dX5_addModule_98 ?_
            refine g_aload_n (pc := 101) dX5_addModule_101 1 rfl ?_
            refine g_get (pc := 102) (ci := 4) inG_X5 rfl 1 (by decide) rfl fl_X5_59 (0) at_arr rfl dX5_addModule_102 ?_
            refine g_iload (pc := 105) dX5_addModule_105 0 rfl ?_
            refine g_aald (pc := 107) 2 3 at_mods rfl (by omega) (by decide) rfl dX5_addModule_107 ?_
            refine g_sipush (pc := 108) dX5_addModule_108 (by omega) ?_
            refine g_callN (pc := 111) (As := [.int (zI 1000)]) (rest := []) k_X5_88_X3 (c_X3_illuminate (σ := (up (up (up σ 0 1 ((σ 0 1) + 1)) 1 (σ 0 1) r) 2 (σ 0 1) o)) (σ 0 1) (show 0 ≤ (up (up (up σ 0 1 (σ 0 1 + 1)) 1 (σ 0 1) r) 2 (σ 0 1) o) 1 (σ 0 1) ∧ (up (up (up σ 0 1 (σ 0 1 + 1)) 1 (σ 0 1) r) 2 (σ 0 1) o) 1 (σ 0 1) ≤ 1000 by show 0 ≤ zup (σ 1) (σ 0 1) r (σ 0 1) ∧ zup (σ 1) (σ 0 1) r (σ 0 1) ≤ 1000; rw [zup_s]; omega) (by omega) 1000 (by omega)) ⟨rfl, rfl, Nat.le_of_ble_eq_true rfl, Nat.le_of_ble_eq_true rfl⟩ (7 + (σ 0 1).toNat) 2 rfl rfl (at_mod (i := (σ 0 1)) (by omega)) rfl rfl (Nat.le_of_ble_eq_true rfl) dX5_addModule_111 (fun v_ w_ hq_ => ?_)
            obtain ⟨rfl, rfl⟩ := hq_
            refine g_none ?_
            refine g_aload_n (pc := 114) dX5_addModule_114 1 rfl ?_
            refine g_iload (pc := 115) dX5_addModule_115 0 rfl ?_
            refine g_iload_n (pc := 117) dX5_addModule_117 2 rfl ?_
            refine g_callV (pc := 118) (As := [.int (zI (σ 0 1)), .int (zI s)]) (rest := []) k_X5_92_X5 (c_X5_putLast (σ := (ilm (up (up (up σ 0 1 ((σ 0 1) + 1)) 1 (σ 0 1) r) 2 (σ 0 1) o) (σ 0 1) 1000)) (σ 0 1) (by omega) s (by omega) (show 0 ≤ σ 6 s ∧ σ 6 s < 12 by omega)) ⟨rfl, rfl, Nat.le_of_ble_eq_true rfl, Nat.le_of_ble_eq_true rfl⟩ (0) 4 rfl rfl at_arr rfl rfl (Nat.le_of_ble_eq_true rfl) dX5_addModule_118 (fun v_ w_ hq_ => ?_)
            obtain ⟨rfl, rfl⟩ := hq_
            refine g_one ?_
            refine g_pop (pc := 121) dX5_addModule_121 rfl ?_
            refine g_iload (pc := 122) dX5_addModule_122 0 rfl ?_
            exact g_iret (pc := 124) dX5_addModule_124 rfl (Or.inl ⟨by unfold ok_addMod; omega, by unfold a_addMod; rw [if_pos (by omega), if_pos (by omega), if_pos (by omega)], rfl⟩)
      · refine g_one ?_
        refine g_if_neF (pc := 31) 38 dX5_addModule_31 (by decide) (by omega) (by omega) ?_
        refine g_sipush (pc := 34) dX5_addModule_34 (by omega) ?_
        exact g_iret (pc := 37) dX5_addModule_37 rfl (Or.inr ⟨by unfold ok_addMod; omega, by unfold a_addMod; (repeat' split) <;> first | rfl | (exfalso; omega), rfl⟩)
    · refine g_one ?_
      refine g_if_eqT (pc := 20) 34 dX5_addModule_20 (by decide) (by omega) (by omega) ?_
      refine g_sipush (pc := 34) dX5_addModule_34 (by omega) ?_
      exact g_iret (pc := 37) dX5_addModule_37 rfl (Or.inr ⟨by unfold ok_addMod; omega, by unfold a_addMod; (repeat' split) <;> first | rfl | (exfalso; omega), rfl⟩)
  · refine g_one ?_
    refine g_if_neF (pc := 5) 12 dX5_addModule_5 (by decide) (by omega) (by omega) ?_
    refine g_sipush (pc := 8) dX5_addModule_8 (by omega) ?_
    exact g_iret (pc := 11) dX5_addModule_11 rfl (Or.inr ⟨by unfold ok_addMod; omega, by unfold a_addMod; (repeat' split) <;> first | rfl | (exfalso; omega), rfl⟩)
set_option maxRecDepth 100000 in
set_option maxHeartbeats 2000000 in
/-- PvArray.moveModule  -/
theorem c_X5_moveModule {D : va_G} {cy : Nat → ClassId} {l : Launch} {ad : Nat → Nat} {σ : Nat → Int → Int} {X : va_W} (hB : Bd σ) (hP : Pos σ (σ 9) (σ 10)) (hU : Unu σ) (m : Int) (hm : -2147483648 ≤ m ∧ m ≤ 2147483647) (s : Int) (hs : -2147483648 ≤ s ∧ s ≤ 2147483647) : Con D cy l yX5_moveModule cX5_moveModule 3 (some .int) rm_X5_moveModule [.ref (ad 0), .int (zI m), .int (zI s)] (CW cy ad σ ++ X) (rwI (ok_move σ (σ 9) m s) (a_move σ (σ 9) m s) (a_move σ (σ 9) m s) (CW cy ad (n_move σ m s) ++ X) (CW cy ad σ ++ X)) := by
  refine Con.of (lv := [(0, .ref (ad 0)), (1, .int (zI m)), (2, .int (zI s))]) (by decide) (Nat.le_of_ble_eq_true rfl) rfl ?_
  have g1 := hB.sc
  have g2 := hB.mc
  have g3 := hB.b6 s
  refine g_aload_n (pc := 0) dX5_moveModule_0 0 rfl ?_
  refine g_iload_n (pc := 1) dX5_moveModule_1 1 rfl ?_
  refine g_callV (pc := 2) (As := [.int (zI m)]) (rest := []) k_X5_96_X5 (c_X5_isModule (σ := σ) hB m (by omega)) ⟨rfl, rfl, Nat.le_of_ble_eq_true rfl, Nat.le_of_ble_eq_true rfl⟩ (0) 4 rfl rfl at_arr rfl rfl (Nat.le_of_ble_eq_true rfl) dX5_moveModule_2 (fun v_ w_ hq_ => ?_)
  rcases hq_ with ⟨rfl, rfl, hm_1⟩ | ⟨rfl, rfl, hm_1⟩
  · refine g_one ?_
    refine g_if_neT (pc := 5) 12 dX5_moveModule_5 (by decide) (by omega) (by omega) ?_
    refine g_aload_n (pc := 12) dX5_moveModule_12 0 rfl ?_
    refine g_iload_n (pc := 13) dX5_moveModule_13 2 rfl ?_
    refine g_callV (pc := 14) (As := [.int (zI s)]) (rest := []) k_X5_70_X5 (c_X5_isString (σ := σ) hB s (by omega)) ⟨rfl, rfl, Nat.le_of_ble_eq_true rfl, Nat.le_of_ble_eq_true rfl⟩ (0) 4 rfl rfl at_arr rfl rfl (Nat.le_of_ble_eq_true rfl) dX5_moveModule_14 (fun v_ w_ hq_ => ?_)
    rcases hq_ with ⟨rfl, rfl, hs_2⟩ | ⟨rfl, rfl, hs_2⟩
    · refine g_one ?_
      refine g_if_neT (pc := 17) 24 dX5_moveModule_17 (by decide) (by omega) (by omega) ?_
      have g4 := hP.1 m (by omega) (by omega)
      have g5 := hB.b6 (σ 9 m)
      refine g_aload_n (pc := 24) dX5_moveModule_24 0 rfl ?_
      refine g_get (pc := 25) (ci := 4) inG_X5 rfl 1 (by decide) rfl fl_X5_59 (0) at_arr rfl dX5_moveModule_25 ?_
      refine g_iload_n (pc := 28) dX5_moveModule_28 1 rfl ?_
      refine g_aald (pc := 29) 2 3 at_mods rfl (by omega) (by decide) rfl dX5_moveModule_29 ?_
      refine g_getN (pc := 30) (ci := 2) inG_X3 rfl 7 (by decide) rfl fl_X5_112 (7 + m.toNat) (at_mod (i := m) (by omega)) rfl dX5_moveModule_30 ?_
      refine g_iload_n (pc := 33) dX5_moveModule_33 2 rfl ?_
      refine g_icmp_eq (pc := 34) 53 dX5_moveModule_34 (by decide) (by omega) (by omega) (fun h_3 => ?_) (fun h_3 => ?_)
      · refine g_aload_n (pc := 53) dX5_moveModule_53 0 rfl ?_
        refine g_iload_n (pc := 54) dX5_moveModule_54 1 rfl ?_
        refine g_callV (pc := 55) (As := [.int (zI m)]) (rest := []) k_X5_115_X5 (c_X5_takeOut (σ := σ) hB hP hU m (by omega)) ⟨rfl, rfl, Nat.le_of_ble_eq_true rfl, Nat.le_of_ble_eq_true rfl⟩ (0) 4 rfl rfl at_arr rfl rfl (Nat.le_of_ble_eq_true rfl) dX5_moveModule_55 (fun v_ w_ hq_ => ?_)
        obtain ⟨rfl, rfl⟩ := hq_
        refine g_none ?_
        refine g_aload_n (pc := 58) dX5_moveModule_58 0 rfl ?_
        refine g_iload_n (pc := 59) dX5_moveModule_59 1 rfl ?_
        refine g_iload_n (pc := 60) dX5_moveModule_60 2 rfl ?_
        refine g_callV (pc := 61) (As := [.int (zI m), .int (zI s)]) (rest := []) k_X5_92_X5 (c_X5_putLast (σ := (tkP σ (σ 9 m) (σ 10 m) (σ 6 (σ 9 m) - 1))) m (by omega) s (by omega) (tk6_b _ _ (by omega) (by omega) (by omega))) ⟨rfl, rfl, Nat.le_of_ble_eq_true rfl, Nat.le_of_ble_eq_true rfl⟩ (0) 4 rfl rfl at_arr rfl rfl (Nat.le_of_ble_eq_true rfl) dX5_moveModule_61 (fun v_ w_ hq_ => ?_)
        obtain ⟨rfl, rfl⟩ := hq_
        refine g_one ?_
        exact g_iret (pc := 64) dX5_moveModule_64 rfl (Or.inl ⟨by unfold ok_move; omega, by rw [tk6_a, a_move_ok (by unfold ok_move; omega)], rfl⟩)
      · refine g_aload_n (pc := 37) dX5_moveModule_37 0 rfl ?_
        refine g_get (pc := 38) (ci := 4) inG_X5 rfl 3 (by decide) rfl fl_X5_63 (0) at_arr rfl dX5_moveModule_38 ?_
        refine g_iload_n (pc := 41) dX5_moveModule_41 2 rfl ?_
        refine g_aald (pc := 42) 3 4 at_strs rfl (by omega) (by decide) rfl dX5_moveModule_42 ?_
        refine g_callN (pc := 43) (As := []) (rest := []) k_X5_78_X4 (c_X4_isFull (σ := σ) hB s (by omega)) ⟨rfl, rfl, Nat.le_of_ble_eq_true rfl, Nat.le_of_ble_eq_true rfl⟩ (31 + s.toNat) 3 rfl rfl (at_str (s := s) (by omega)) rfl rfl (Nat.le_of_ble_eq_true rfl) dX5_moveModule_43 (fun v_ w_ hq_ => ?_)
        rcases hq_ with ⟨rfl, rfl, hf_4⟩ | ⟨rfl, rfl, hf_4⟩
        · refine g_one ?_
          refine g_if_eqF (pc := 46) 53 dX5_moveModule_46 (by decide) (by omega) (by omega) ?_
          refine g_sipush (pc := 49) dX5_moveModule_49 (by omega) ?_
          exact g_iret (pc := 52) dX5_moveModule_52 rfl (Or.inr ⟨by unfold ok_move; omega, by unfold a_move; (repeat' split) <;> first | rfl | (exfalso; omega), rfl⟩)
        · refine g_one ?_
          refine g_if_eqT (pc := 46) 53 dX5_moveModule_46 (by decide) (by omega) (by omega) ?_
          refine g_aload_n (pc := 53) dX5_moveModule_53 0 rfl ?_
          refine g_iload_n (pc := 54) dX5_moveModule_54 1 rfl ?_
          refine g_callV (pc := 55) (As := [.int (zI m)]) (rest := []) k_X5_115_X5 (c_X5_takeOut (σ := σ) hB hP hU m (by omega)) ⟨rfl, rfl, Nat.le_of_ble_eq_true rfl, Nat.le_of_ble_eq_true rfl⟩ (0) 4 rfl rfl at_arr rfl rfl (Nat.le_of_ble_eq_true rfl) dX5_moveModule_55 (fun v_ w_ hq_ => ?_)
          obtain ⟨rfl, rfl⟩ := hq_
          refine g_none ?_
          refine g_aload_n (pc := 58) dX5_moveModule_58 0 rfl ?_
          refine g_iload_n (pc := 59) dX5_moveModule_59 1 rfl ?_
          refine g_iload_n (pc := 60) dX5_moveModule_60 2 rfl ?_
          refine g_callV (pc := 61) (As := [.int (zI m), .int (zI s)]) (rest := []) k_X5_92_X5 (c_X5_putLast (σ := (tkP σ (σ 9 m) (σ 10 m) (σ 6 (σ 9 m) - 1))) m (by omega) s (by omega) (tk6_b _ _ (by omega) (by omega) (by omega))) ⟨rfl, rfl, Nat.le_of_ble_eq_true rfl, Nat.le_of_ble_eq_true rfl⟩ (0) 4 rfl rfl at_arr rfl rfl (Nat.le_of_ble_eq_true rfl) dX5_moveModule_61 (fun v_ w_ hq_ => ?_)
          obtain ⟨rfl, rfl⟩ := hq_
          refine g_one ?_
          exact g_iret (pc := 64) dX5_moveModule_64 rfl (Or.inl ⟨by unfold ok_move; omega, by rw [tk6_a, a_move_ok (by unfold ok_move; omega)], rfl⟩)
    · refine g_one ?_
      refine g_if_neF (pc := 17) 24 dX5_moveModule_17 (by decide) (by omega) (by omega) ?_
      refine g_sipush (pc := 20) dX5_moveModule_20 (by omega) ?_
      exact g_iret (pc := 23) dX5_moveModule_23 rfl (Or.inr ⟨by unfold ok_move; omega, by unfold a_move; (repeat' split) <;> first | rfl | (exfalso; omega), rfl⟩)
  · refine g_one ?_
    refine g_if_neF (pc := 5) 12 dX5_moveModule_5 (by decide) (by omega) (by omega) ?_
    refine g_sipush (pc := 8) dX5_moveModule_8 (by omega) ?_
    exact g_iret (pc := 11) dX5_moveModule_11 rfl (Or.inr ⟨by unfold ok_move; omega, by unfold a_move; (repeat' split) <;> first | rfl | (exfalso; omega), rfl⟩)
set_option maxRecDepth 100000 in
set_option maxHeartbeats 2000000 in
/-- PvArray.swapModules  -/
theorem c_X5_swapModules {D : va_G} {cy : Nat → ClassId} {l : Launch} {ad : Nat → Nat} {σ : Nat → Int → Int} {X : va_W} (hB : Bd σ) (hP : Pos σ (σ 9) (σ 10)) (a : Int) (ha : -2147483648 ≤ a ∧ a ≤ 2147483647) (b : Int) (hb : -2147483648 ≤ b ∧ b ≤ 2147483647) : Con D cy l yX5_swapModules cX5_swapModules 3 (some .int) rm_X5_swapModules [.ref (ad 0), .int (zI a), .int (zI b)] (CW cy ad σ ++ X) (rwI ((0 ≤ a ∧ a < σ 0 1) ∧ (0 ≤ b ∧ b < σ 0 1)) (a_swap σ (σ 9) a b) (a_swap σ (σ 9) a b) (CW cy ad (exc σ a b) ++ X) (CW cy ad σ ++ X)) := by
  refine Con.of (lv := [(0, .ref (ad 0)), (1, .int (zI a)), (2, .int (zI b))]) (by decide) (Nat.le_of_ble_eq_true rfl) rfl ?_
  have g1 := hB.sc
  have g2 := hB.mc
  refine g_aload_n (pc := 0) dX5_swapModules_0 0 rfl ?_
  refine g_iload_n (pc := 1) dX5_swapModules_1 1 rfl ?_
  refine g_callV (pc := 2) (As := [.int (zI a)]) (rest := []) k_X5_96_X5 (c_X5_isModule (σ := σ) hB a (by omega)) ⟨rfl, rfl, Nat.le_of_ble_eq_true rfl, Nat.le_of_ble_eq_true rfl⟩ (0) 4 rfl rfl at_arr rfl rfl (Nat.le_of_ble_eq_true rfl) dX5_swapModules_2 (fun v_ w_ hq_ => ?_)
  rcases hq_ with ⟨rfl, rfl, hm_1⟩ | ⟨rfl, rfl, hm_1⟩
  · refine g_one ?_
    refine g_if_eqF (pc := 5) 16 dX5_swapModules_5 (by decide) (by omega) (by omega) ?_
    refine g_aload_n (pc := 8) dX5_swapModules_8 0 rfl ?_
    refine g_iload_n (pc := 9) dX5_swapModules_9 2 rfl ?_
    refine g_callV (pc := 10) (As := [.int (zI b)]) (rest := []) k_X5_96_X5 (c_X5_isModule (σ := σ) hB b (by omega)) ⟨rfl, rfl, Nat.le_of_ble_eq_true rfl, Nat.le_of_ble_eq_true rfl⟩ (0) 4 rfl rfl at_arr rfl rfl (Nat.le_of_ble_eq_true rfl) dX5_swapModules_10 (fun v_ w_ hq_ => ?_)
    rcases hq_ with ⟨rfl, rfl, hm_2⟩ | ⟨rfl, rfl, hm_2⟩
    · refine g_one ?_
      refine g_if_neT (pc := 13) 20 dX5_swapModules_13 (by decide) (by omega) (by omega) ?_
      refine g_aload_n (pc := 20) dX5_swapModules_20 0 rfl ?_
      refine g_iload_n (pc := 21) dX5_swapModules_21 1 rfl ?_
      refine g_iload_n (pc := 22) dX5_swapModules_22 2 rfl ?_
      refine g_callV (pc := 23) (As := [.int (zI a), .int (zI b)]) (rest := []) k_X5_118_X5 (c_X5_exchange (σ := σ) hB hP a (by omega) b (by omega)) ⟨rfl, rfl, Nat.le_of_ble_eq_true rfl, Nat.le_of_ble_eq_true rfl⟩ (0) 4 rfl rfl at_arr rfl rfl (Nat.le_of_ble_eq_true rfl) dX5_swapModules_23 (fun v_ w_ hq_ => ?_)
      obtain ⟨rfl, rfl⟩ := hq_
      refine g_none ?_
      have g3 := hP.1 a (by omega) (by omega)
      have g4 := hP.1 b (by omega) (by omega)
      refine g_aload_n (pc := 26) dX5_swapModules_26 0 rfl ?_
      refine g_get (pc := 27) (ci := 4) inG_X5 rfl 1 (by decide) rfl fl_X5_59 (0) at_arr rfl dX5_swapModules_27 ?_
      refine g_iload_n (pc := 30) dX5_swapModules_30 1 rfl ?_
      refine g_aald (pc := 31) 2 3 at_mods rfl (by omega) (by decide) rfl dX5_swapModules_31 ?_
      refine g_getN (pc := 32) (ci := 2) inG_X3 rfl 7 (by decide) rfl fl_X5_112 (7 + a.toNat) (at_mod (i := a) (by omega)) rfl dX5_swapModules_32 ?_
      refine g_topI (exc_9a σ a b) ?_
      refine g_aload_n (pc := 35) dX5_swapModules_35 0 rfl ?_
      refine g_get (pc := 36) (ci := 4) inG_X5 rfl 1 (by decide) rfl fl_X5_59 (0) at_arr rfl dX5_swapModules_36 ?_
      refine g_iload_n (pc := 39) dX5_swapModules_39 2 rfl ?_
      refine g_aald (pc := 40) 2 3 at_mods rfl (by omega) (by decide) rfl dX5_swapModules_40 ?_
      refine g_getN (pc := 41) (ci := 2) inG_X3 rfl 7 (by decide) rfl fl_X5_112 (7 + b.toNat) (at_mod (i := b) (by omega)) rfl dX5_swapModules_41 ?_
      refine g_topI (exc_9b σ a b) ?_
      refine g_icmp_eq (pc := 44) 51 dX5_swapModules_44 (by decide) (by omega) (by omega) (fun h_3 => ?_) (fun h_3 => ?_)
      · refine g_iconst (pc := 51) dX5_swapModules_51 ?_
        exact g_iret (pc := 52) dX5_swapModules_52 rfl (Or.inl ⟨by omega, by unfold a_swap; rw [if_pos (by omega)]; rw [if_pos (by omega)], rfl⟩)
      · refine g_iconst (pc := 47) dX5_swapModules_47 ?_
        refine g_goto (pc := 48) 52 dX5_swapModules_48 (by decide) ?_
        exact g_iret (pc := 52) dX5_swapModules_52 rfl (Or.inl ⟨by omega, by unfold a_swap; rw [if_pos (by omega)]; rw [if_neg (by omega)], rfl⟩)
    · refine g_one ?_
      refine g_if_neF (pc := 13) 20 dX5_swapModules_13 (by decide) (by omega) (by omega) ?_
      refine g_sipush (pc := 16) dX5_swapModules_16 (by omega) ?_
      exact g_iret (pc := 19) dX5_swapModules_19 rfl (Or.inr ⟨by omega, by unfold a_swap; (repeat' split) <;> first | rfl | (exfalso; omega), rfl⟩)
  · refine g_one ?_
    refine g_if_eqT (pc := 5) 16 dX5_swapModules_5 (by decide) (by omega) (by omega) ?_
    refine g_sipush (pc := 16) dX5_swapModules_16 (by omega) ?_
    exact g_iret (pc := 19) dX5_swapModules_19 rfl (Or.inr ⟨by omega, by unfold a_swap; (repeat' split) <;> first | rfl | (exfalso; omega), rfl⟩)
end
section
/-! exchanging back; what a state's curves depend on; the search for the best exchange; sorting -/
theorem exc_o (σ : Nat → Int → Int) (a b : Int) {f : Nat} (h7 : f ≠ 7) (h9 : f ≠ 9) (h10 : f ≠ 10) : exc σ a b f = σ f := by
  unfold exc plc
  rw [up_o _ _ _ h10, up_o _ _ _ h9, up_o _ _ _ h7, up_o _ _ _ h10, up_o _ _ _ h9, up_o _ _ _ h7]
theorem exc_7 (σ : Nat → Int → Int) (a b : Int) : exc σ a b 7 = zup (zup (σ 7) (12 * σ 9 b + σ 10 b) a) (12 * σ 9 a + σ 10 a) b := rfl
theorem exc_9 (σ : Nat → Int → Int) (a b : Int) : exc σ a b 9 = zup (zup (σ 9) a (σ 9 b)) b (σ 9 a) := rfl
theorem exc_10 (σ : Nat → Int → Int) (a b : Int) : exc σ a b 10 = zup (zup (σ 10) a (σ 10 b)) b (σ 10 a) := rfl
theorem zup2_a (F : Int → Int) (a b u v : Int) (h : a = b → u = v) : zup (zup F a u) b v a = u := by
  unfold zup
  by_cases q : a = b
  · rw [if_pos q, h q]
  · rw [if_neg q, if_pos rfl]
theorem zup4 (F : Int → Int) (a b u v : Int) : zup (zup (zup (zup F a u) b v) a (F a)) b (F b) = F := by
  funext i
  unfold zup
  by_cases h1 : i = b
  · rw [if_pos h1, h1]
  · rw [if_neg h1]
    by_cases h2 : i = a
    · rw [if_pos h2, h2]
    · rw [if_neg h2, if_neg h1, if_neg h2]
theorem zup4' (F : Int → Int) (a b u v : Int) : zup (zup (zup (zup F b u) a v) a (F a)) b (F b) = F := by
  funext i
  unfold zup
  by_cases h1 : i = b
  · rw [if_pos h1, h1]
  · rw [if_neg h1]
    by_cases h2 : i = a
    · rw [if_pos h2, h2]
    · rw [if_neg h2, if_neg h2, if_neg h1]
theorem exc_exc {σ : Nat → Int → Int} (hP : Pos σ (σ 9) (σ 10)) {a b : Int} (ha : 0 ≤ a ∧ a < σ 0 1) (hb : 0 ≤ b ∧ b < σ 0 1) : exc (exc σ a b) a b = σ := by
  have e9a : exc σ a b 9 a = σ 9 b := exc_9a σ a b
  have e9b : exc σ a b 9 b = σ 9 a := exc_9b σ a b
  have e10a : exc σ a b 10 a = σ 10 b := by rw [exc_10]; exact zup2_a _ _ _ _ _ (fun q => by rw [q])
  have e10b : exc σ a b 10 b = σ 10 a := by rw [exc_10, zup_s]
  have h7a := (hP.1 a ha.1 ha.2).2.2
  have h7b := (hP.1 b hb.1 hb.2).2.2
  funext f
  by_cases f7 : f = 7
  · subst f7
    rw [exc_7 (exc σ a b), e9a, e9b, e10a, e10b, exc_7]
    have := zup4' (σ 7) (12 * σ 9 a + σ 10 a) (12 * σ 9 b + σ 10 b) a b
    rw [h7a, h7b] at this
    exact this
  · by_cases f9 : f = 9
    · subst f9
      rw [exc_9 (exc σ a b), e9a, e9b, exc_9]
      exact zup4 (σ 9) a b _ _
    · by_cases f10 : f = 10
      · subst f10
        rw [exc_10 (exc σ a b), e10a, e10b, exc_10]
        exact zup4 (σ 10) a b _ _
      · rw [exc_o _ _ _ f7 f9 f10, exc_o _ _ _ f7 f9 f10]
theorem Bd.row7 {g h : Nat → Int → Int} (hB : Bd g) (h0 : ∀ k, k = 0 ∨ k = 1 ∨ k = 2 → h 0 k = g 0 k) (h1 : h 1 = g 1) (h2 : h 2 = g 2) (h3 : h 3 = g 3) (h4 : h 4 = g 4) (h5 : h 5 = g 5) (h6 : h 6 = g 6) (h7 : ∀ j, 0 ≤ h 7 j ∧ h 7 j ≤ 23) : Bd h := by
  unfold Bd
  rw [h0 0 (by omega), h0 1 (by omega), h0 2 (by omega), h1, h2, h3, h4, h5, h6]
  exact ⟨hB.1, hB.2.1, hB.2.2.1, hB.2.2.2.1, hB.2.2.2.2.1, hB.2.2.2.2.2.1, hB.2.2.2.2.2.2.1, hB.2.2.2.2.2.2.2.1, hB.2.2.2.2.2.2.2.2.1, h7⟩
theorem Bd.exc {σ : Nat → Int → Int} (hB : Bd σ) {a b : Int} (ha : 0 ≤ a ∧ a < σ 0 1) (hb : 0 ≤ b ∧ b < σ 0 1) : Bd (exc σ a b) := by
  refine hB.row7 (fun k _ => rfl) rfl rfl rfl rfl rfl rfl (fun j => ?_)
  have h1 := hB.b7 j
  have h2 := hB.mc
  rw [exc_7]
  unfold zup
  split
  · omega
  · split <;> omega
theorem LC.exc {σ : Nat → Int → Int} (hL : LC σ) (a b : Int) : LC (exc σ a b) := fun i => hL i
/-- the curves of strings depend on these rows alone -/
def Sm (g h : Nat → Int → Int) : Prop := g 0 0 = h 0 0 ∧ g 1 = h 1 ∧ g 2 = h 2 ∧ g 3 = h 3 ∧ g 4 = h 4 ∧ g 5 = h 5 ∧ g 6 = h 6 ∧ g 7 = h 7
theorem Sm_svolt {g h : Nat → Int → Int} (e : Sm g h) (s : Int) : svolt g s = svolt h s := by
  obtain ⟨e0, e1, e2, e3, e4, e5, e6, e7⟩ := e
  funext c
  have hv : ∀ m, volt g m c = volt h m c := by
    intro m
    unfold volt lit photo
    rw [e0, e1, e2, e3, e4]
  unfold svolt memb
  rw [e6, e7]
  congr 1
  funext p
  exact hv _
theorem Sm_limit {g h : Nat → Int → Int} (e : Sm g h) (s : Int) : limit g s = limit h s := by
  obtain ⟨e0, e1, e2, e3, e4, e5, e6, e7⟩ := e
  simp only [limit, photo, memb, e1, e3, e5, e6, e7]
theorem Sm_spow {g h : Nat → Int → Int} (e : Sm g h) (s : Int) : spow g s = spow h s := by
  funext c
  unfold spow
  rw [Sm_svolt e s]
theorem Sm_bestC {g h : Nat → Int → Int} (e : Sm g h) (s : Int) : bestC g s = bestC h s := by
  unfold bestC
  rw [Sm_spow e s, Sm_limit e s]
theorem Sm_bestP {g h : Nat → Int → Int} (e : Sm g h) (s : Int) : bestP g s = bestP h s := by
  unfold bestP
  rw [Sm_spow e s, Sm_bestC e s]
/-- the best exchange, pair by pair -/
def swStep (G : Int → Int → Int) (a b : Int) (t : Int × Int × Int) : Int × Int × Int := if t.1 < G a b then (G a b, a, b) else t
def swI (G : Int → Int → Int) (a : Int) : Nat → Int → Int × Int × Int → Int × Int × Int
  | 0, _, t => t
  | n + 1, b, t => swI G a n (b + 1) (swStep G a b t)
def swO (G : Int → Int → Int) (mc : Int) : Nat → Int → Int × Int × Int → Int × Int × Int
  | 0, _, t => t
  | n + 1, a, t => swO G mc n (a + 1) (swI G a (mc - (a + 1)).toNat (a + 1) t)
/-- insertion -/
def insR (ph : Int → Int) (m : Int) : Nat → (Int → Int) → (Int → Int)
  | 0, F => zup F 0 m
  | k + 1, F => if ph (F k) < ph m then insR ph m k (zup F ((k + 1 : Nat) : Int) (F k)) else zup F ((k + 1 : Nat) : Int) m
def srtR (ph : Int → Int) : Nat → (Int → Int) → (Int → Int)
  | 0, F => F
  | n + 1, F => insR ph n n (srtR ph n F)
theorem insR_0 (ph : Int → Int) (m : Int) (F : Int → Int) {k : Int} (h : k = 0) : insR ph m k.toNat F = zup F k m := by subst h; rfl
theorem insR_y {ph : Int → Int} {m : Int} {F : Int → Int} {k : Int} (h : 1 ≤ k) (hp : ph (F (k - 1)) < ph m) : insR ph m k.toNat F = insR ph m (k - 1).toNat (zup F k (F (k - 1))) := by
  rw [show k.toNat = (k - 1).toNat + 1 by omega, insR, show (((k - 1).toNat : Nat) : Int) = k - 1 by omega, if_pos hp, show (((k - 1).toNat + 1 : Nat) : Int) = k by omega]
theorem insR_n {ph : Int → Int} {m : Int} {F : Int → Int} {k : Int} (h : 1 ≤ k) (hp : ¬ ph (F (k - 1)) < ph m) : insR ph m k.toNat F = zup F k m := by
  rw [show k.toNat = (k - 1).toNat + 1 by omega, insR, show (((k - 1).toNat : Nat) : Int) = k - 1 by omega, if_neg hp, show (((k - 1).toNat + 1 : Nat) : Int) = k by omega]
theorem srtR_s (ph : Int → Int) (F : Int → Int) {m : Int} (h : 0 ≤ m) : srtR ph (m + 1).toNat F = insR ph m m.toNat (srtR ph m.toNat F) := by
  rw [show (m + 1).toNat = m.toNat + 1 by omega, srtR, show ((m.toNat : Nat) : Int) = m by omega]
theorem zup_b {F : Int → Int} {B : Int} (h : ∀ j, 0 ≤ F j ∧ F j ≤ B) {k v : Int} (hv : 0 ≤ v ∧ v ≤ B) : ∀ j, 0 ≤ zup F k v j ∧ zup F k v j ≤ B := by
  intro j
  unfold zup
  split
  · exact hv
  · exact h j
theorem insR_b {ph : Int → Int} {m B : Int} (hm : 0 ≤ m ∧ m ≤ B) : ∀ (k : Nat) {F : Int → Int}, (∀ j, 0 ≤ F j ∧ F j ≤ B) → ∀ j, 0 ≤ insR ph m k F j ∧ insR ph m k F j ≤ B
  | 0, F, h => zup_b h hm
  | k + 1, F, h => by
    rw [insR]
    split
    · exact insR_b hm k (zup_b h (h k))
    · exact zup_b h hm
theorem srtR_b {ph : Int → Int} {B : Int} : ∀ (n : Nat) {F : Int → Int}, (n : Int) ≤ B + 1 → (∀ j, 0 ≤ F j ∧ F j ≤ B) → ∀ j, 0 ≤ srtR ph n F j ∧ srtR ph n F j ≤ B
  | 0, F, _, h => h
  | n + 1, F, hn, h => by
    rw [srtR]
    exact insR_b (by omega) n (srtR_b n (by omega) h)
theorem sumP_zup (h F : Int → Int) {k v : Int} (hk : 0 ≤ k) : ∀ n : Nat, k < n → sumP (fun j => h (zup F k v j)) n = sumP (fun j => h (F j)) n - h (F k) + h v
  | 0, q => absurd q (by omega)
  | n + 1, q => by
    show sumP (fun j => h (zup F k v j)) n + h (zup F k v n) = sumP (fun j => h (F j)) n + h (F n) - h (F k) + h v
    by_cases e : k = (n : Int)
    · have : sumP (fun j => h (zup F k v j)) n = sumP (fun j => h (F j)) n := by
        have key : ∀ m : Nat, (m : Int) ≤ k → sumP (fun j => h (zup F k v j)) m = sumP (fun j => h (F j)) m := by
          intro m
          induction m with
          | zero => intro _; rfl
          | succ m ih =>
            intro hm
            show sumP (fun j => h (zup F k v j)) m + h (zup F k v m) = sumP (fun j => h (F j)) m + h (F m)
            rw [ih (by omega), zup_n _ _ (by omega)]
        exact key n (by omega)
      rw [this, ← e, zup_s]
      omega
    · rw [sumP_zup h F hk n (by omega), zup_n _ _ (by omega)]
      omega
theorem sumP_insR (h ph : Int → Int) (m : Int) : ∀ (k : Nat) (F : Int → Int) (n : Nat), k < n → sumP (fun j => h (insR ph m k F j)) n = sumP (fun j => h (F j)) n - h (F k) + h m
  | 0, F, n, q => sumP_zup h F (by omega) n (by omega)
  | k + 1, F, n, q => by
    rw [insR]
    split
    · rw [sumP_insR h ph m k _ n (by omega), sumP_zup h F (by omega) n (by omega), zup_n _ _ (by omega)]
      omega
    · exact sumP_zup h F (by omega) n (by omega)
theorem sumP_srt (h ph F : Int → Int) : ∀ n : Nat, sumP (fun j => h (srtR ph n F j)) n = sumP h n
  | 0 => rfl
  | n + 1 => by
    have e1 := sumP_insR h ph n n (srtR ph n F) (n + 1) (by omega)
    have e2 := sumP_srt h ph F n
    rw [srtR, e1]
    show sumP (fun j => h (srtR ph n F j)) n + h (srtR ph n F n) - h (srtR ph n F n) + h n = sumP h n + h n
    rw [e2]
    omega
/-- a sum of ones and zeros, at one place -/
theorem sumP_ind0 {F : Int → Int} (h : ∀ j, 0 ≤ F j) : ∀ (n : Nat) {k : Int}, 0 ≤ k → k < n → F k ≤ sumP F n
  | 0, k, q1, q2 => absurd q1 (by omega)
  | n + 1, k, q1, q2 => by
    have h0 : 0 ≤ sumP F n := by
      have key : ∀ m : Nat, 0 ≤ sumP F m := by
        intro m
        induction m with
        | zero => exact Int.le_refl _
        | succ m ih =>
          have := h m
          show 0 ≤ sumP F m + F m
          omega
      exact key n
    have h2 := h n
    show F k ≤ sumP F n + F n
    by_cases e : k = (n : Int)
    · subst e; omega
    · have := sumP_ind0 h n q1 (by omega)
      omega
theorem sumP_ind2 {F : Int → Int} (h : ∀ j, 0 ≤ F j) : ∀ (n : Nat) {i k : Int}, 0 ≤ i → i < k → k < n → F i + F k ≤ sumP F n
  | 0, i, k, q1, q2, q3 => absurd q1 (by omega)
  | n + 1, i, k, q1, q2, q3 => by
    have h2 := h n
    show F i + F k ≤ sumP F n + F n
    by_cases e : k = (n : Int)
    · subst e
      have := sumP_ind0 h n q1 q2
      omega
    · have := sumP_ind2 h n q1 q2 (by omega)
      omega
def ind (i : Int) : Int → Int := fun j => if j = i then 1 else 0
theorem ind_sum (i : Int) : ∀ n : Nat, sumP (ind i) n = if 0 ≤ i ∧ i < n then 1 else 0
  | 0 => by rw [if_neg (by omega)]; rfl
  | n + 1 => by
    show sumP (ind i) n + ind i n = _
    rw [ind_sum i n]
    unfold ind
    by_cases h : (n : Int) = i
    · rw [if_pos h, if_neg (by omega), if_pos (by omega)]; rfl
    · rw [if_neg h]
      by_cases h2 : 0 ≤ i ∧ i < (n : Int)
      · rw [if_pos h2, if_pos (by omega)]; rfl
      · rw [if_neg h2, if_neg (by omega)]; rfl
theorem srt_inj {ph F : Int → Int} {n : Nat} {a b : Int} (ha : 0 ≤ a ∧ a < n) (hb : 0 ≤ b ∧ b < n) (e : srtR ph n F a = srtR ph n F b) : a = b := by
  have key : ∀ a b : Int, 0 ≤ a → a < b → b < n → srtR ph n F a = srtR ph n F b → False := by
    intro a b h1 h2 h3 e
    have h4 := sumP_srt (ind (srtR ph n F a)) ph F n
    have h5 := sumP_ind2 (F := fun j => ind (srtR ph n F a) (srtR ph n F j)) (fun j => by unfold ind; split <;> omega) n h1 h2 h3
    have h6 : ind (srtR ph n F a) (srtR ph n F a) = 1 := if_pos rfl
    have h7 : ind (srtR ph n F a) (srtR ph n F b) = 1 := if_pos e.symm
    have h8 := ind_sum (srtR ph n F a) n
    try dsimp only at h5
    rw [h6, h7, h4, h8] at h5
    split at h5 <;> omega
  rcases Int.lt_trichotomy a b with h | h | h
  · exact absurd e (fun e => key a b ha.1 h hb.2 e)
  · exact h
  · exact absurd e (fun e => key b a hb.1 h ha.2 e.symm)
theorem srt_in {ph F : Int → Int} {n : Nat} {k : Int} (hk : 0 ≤ k ∧ k < n) : 0 ≤ srtR ph n F k ∧ srtR ph n F k < n := by
  have h4 := sumP_srt (ind (srtR ph n F k)) ph F n
  have h5 := sumP_ind0 (F := fun j => ind (srtR ph n F k) (srtR ph n F j)) (fun j => by unfold ind; split <;> omega) n hk.1 hk.2
  have h6 : ind (srtR ph n F k) (srtR ph n F k) = 1 := if_pos rfl
  have h8 := ind_sum (srtR ph n F k) n
  try dsimp only at h5
  rw [h6, h4, h8] at h5
  split at h5
  · assumption
  · omega
theorem sumP_none {F : Int → Int} : ∀ n : Nat, (∀ k, 0 ≤ k → k < n → F k = 0) → sumP F n = 0
  | 0, _ => rfl
  | n + 1, h => by
    show sumP F n + F n = 0
    rw [sumP_none n (fun k q1 q2 => h k q1 (by omega)), h n (by omega) (by omega)]; rfl
theorem srt_on {ph F : Int → Int} {n : Nat} {i : Int} (hi : 0 ≤ i ∧ i < n) : ∃ k, (0 ≤ k ∧ k < n) ∧ srtR ph n F k = i := by
  by_cases q : ∃ k, (0 ≤ k ∧ k < n) ∧ srtR ph n F k = i
  · exact q
  · have h4 := sumP_srt (ind i) ph F n
    have h8 := ind_sum i n
    rw [if_pos hi] at h8
    have h9 := sumP_none (F := fun j => ind i (srtR ph n F j)) n (fun k q1 q2 => if_neg (fun e => q ⟨k, ⟨q1, q2⟩, e⟩))
    rw [h9, h8] at h4
    omega
end
section
/-! the places after an exchange; the state during the search; the state during a regrouping -/
theorem Pos_exc {σ : Nat → Int → Int} (hB : Bd σ) (hP : Pos σ (σ 9) (σ 10)) {a b : Int} (ha : 0 ≤ a ∧ a < σ 0 1) (hb : 0 ≤ b ∧ b < σ 0 1) : Pos (exc σ a b) (exc σ a b 9) (exc σ a b 10) := by
  have ea := hP.1 a ha.1 ha.2
  have eb := hP.1 b hb.1 hb.2
  have ba := hB.b6 (σ 9 a)
  have bb := hB.b6 (σ 9 b)
  have h9 : ∀ i, exc σ a b 9 i = if i = b then σ 9 a else if i = a then σ 9 b else σ 9 i := fun i => rfl
  have h10 : ∀ i, exc σ a b 10 i = if i = b then σ 10 a else if i = a then σ 10 b else σ 10 i := fun i => rfl
  have h7 : ∀ j, exc σ a b 7 j = if j = 12 * σ 9 a + σ 10 a then b else if j = 12 * σ 9 b + σ 10 b then a else σ 7 j := fun j => rfl
  have hne : a ≠ b → 12 * σ 9 a + σ 10 a ≠ 12 * σ 9 b + σ 10 b := fun q1 q2 => q1 (by rw [← ea.2.2, q2, eb.2.2])
  refine ⟨fun i h1 h2 => ?_, fun s p h1 h2 h3 h4 => ?_⟩
  · have h2 : i < σ 0 1 := h2
    show (0 ≤ exc σ a b 9 i ∧ exc σ a b 9 i < σ 0 2) ∧ (0 ≤ exc σ a b 10 i ∧ exc σ a b 10 i < σ 6 (exc σ a b 9 i)) ∧ exc σ a b 7 (12 * exc σ a b 9 i + exc σ a b 10 i) = i
    rw [h9, h10]
    by_cases q1 : i = b
    · rw [if_pos q1, if_pos q1, h7, if_pos rfl]
      exact ⟨ea.1, ea.2.1, q1.symm⟩
    · rw [if_neg q1, if_neg q1]
      by_cases q2 : i = a
      · rw [if_pos q2, if_pos q2, h7]
        subst q2
        rw [if_neg (fun q => hne q1 q.symm), if_pos rfl]
        exact ⟨eb.1, eb.2.1, rfl⟩
      · rw [if_neg q2, if_neg q2, h7]
        have ei := hP.1 i h1 h2
        rw [if_neg (fun q => q2 (by rw [← ei.2.2, q, ea.2.2])), if_neg (fun q => q1 (by rw [← ei.2.2, q, eb.2.2]))]
        exact ei
  · have h2 : s < σ 0 2 := h2
    have h4 : p < σ 6 s := h4
    have hs := hB.b6 s
    show (0 ≤ exc σ a b 7 (12 * s + p) ∧ exc σ a b 7 (12 * s + p) < σ 0 1) ∧ exc σ a b 9 (exc σ a b 7 (12 * s + p)) = s ∧ exc σ a b 10 (exc σ a b 7 (12 * s + p)) = p
    rw [h7]
    by_cases q1 : 12 * s + p = 12 * σ 9 a + σ 10 a
    · rw [if_pos q1, h9, h10, if_pos rfl, if_pos rfl]
      omega
    · rw [if_neg q1]
      by_cases q2 : 12 * s + p = 12 * σ 9 b + σ 10 b
      · rw [if_pos q2, h9, h10]
        by_cases q3 : a = b
        · subst q3; omega
        · rw [if_neg q3, if_neg q3, if_pos rfl, if_pos rfl]; omega
      · rw [if_neg q2, h9, h10]
        have ei := hP.2 s p h1 h2 h3 h4
        have n1 : σ 7 (12 * s + p) ≠ b := fun q => q2 (by rw [q] at ei; rw [ei.2.1, ei.2.2])
        have n2 : σ 7 (12 * s + p) ≠ a := fun q => q1 (by rw [q] at ei; rw [ei.2.1, ei.2.2])
        rw [if_neg n1, if_neg n1, if_neg n2, if_neg n2]
        exact ei
/-- the state during the search for the best exchange -/
def pbR (σ : Nat → Int → Int) (n : Int) : Int → Int := fun s => if 0 ≤ s ∧ s < n then bestP σ s else σ 11 s
def r0 (σ : Nat → Int → Int) (g lo hi : Int) : Int → Int := zup (zup (zup (σ 0) 5 g) 6 lo) 7 hi
def fbS (σ : Nat → Int → Int) (n g lo hi : Int) : Nat → Int → Int := setR (setR σ 0 (r0 σ g lo hi)) 11 (pbR σ n)
theorem fbS_o (σ : Nat → Int → Int) (n g lo hi : Int) {f : Nat} (h0 : f ≠ 0) (h11 : f ≠ 11) : fbS σ n g lo hi f = σ f := by
  unfold fbS
  rw [setR_o _ _ h11, setR_o _ _ h0]
theorem fbS_0 (σ : Nat → Int → Int) (n g lo hi : Int) {k : Int} (h : k < 5) : fbS σ n g lo hi 0 k = σ 0 k := by
  show r0 σ g lo hi k = σ 0 k
  unfold r0
  rw [zup_n _ _ (by omega), zup_n _ _ (by omega), zup_n _ _ (by omega)]
theorem fbS_Sm (σ : Nat → Int → Int) (n g lo hi : Int) : Sm (fbS σ n g lo hi) σ := ⟨fbS_0 σ n g lo hi (by omega), rfl, rfl, rfl, rfl, rfl, rfl, rfl⟩
theorem Bd_fbS {σ : Nat → Int → Int} (hB : Bd σ) (n g lo hi : Int) : Bd (fbS σ n g lo hi) := hB.row7 (fun k h => fbS_0 σ n g lo hi (by omega)) rfl rfl rfl rfl rfl rfl (fun j => hB.b7 j)
theorem LC_fbS {σ : Nat → Int → Int} (hL : LC σ) (n g lo hi : Int) : LC (fbS σ n g lo hi) := fun i => hL i
theorem Pos_fbS {σ : Nat → Int → Int} {st po : Int → Int} (hP : Pos σ st po) (n g lo hi : Int) : Pos (fbS σ n g lo hi) st po := by
  unfold Pos
  rw [fbS_0 σ n g lo hi (by omega), fbS_0 σ n g lo hi (by omega), fbS_o σ n g lo hi (f := 6) (by decide) (by decide), fbS_o σ n g lo hi (f := 7) (by decide) (by decide)]
  exact hP
theorem r0_self (σ : Nat → Int → Int) (g lo hi g' lo' hi' : Int) : zup (zup (zup (r0 σ g lo hi) 5 g') 6 lo') 7 hi' = r0 σ g' lo' hi' := by
  funext k
  unfold r0 zup
  by_cases h7 : k = 7
  · rw [if_pos h7, if_pos h7]
  · rw [if_neg h7, if_neg h7]
    by_cases h6 : k = 6
    · rw [if_pos h6, if_pos h6, if_neg h7]
    · rw [if_neg h6, if_neg h6]
      by_cases h5 : k = 5
      · rw [if_pos h5, if_pos h5, if_neg h7, if_neg h6]
      · rw [if_neg h5, if_neg h5, if_neg h7, if_neg h6, if_neg h5]
theorem fbS_put (σ : Nat → Int → Int) (n g lo hi g' lo' hi' : Int) : up (up (up (fbS σ n g lo hi) 0 5 g') 0 6 lo') 0 7 hi' = fbS σ n g' lo' hi' := by
  funext f
  by_cases h0 : f = 0
  · subst h0
    rw [up_r, up_r, up_r]
    exact r0_self σ g lo hi g' lo' hi'
  · rw [up_o _ _ _ h0, up_o _ _ _ h0, up_o _ _ _ h0]
    unfold fbS
    by_cases h11 : f = 11
    · subst h11; rw [setR_s, setR_s]
    · rw [setR_o _ _ h11, setR_o _ _ h11, setR_o _ _ h0, setR_o _ _ h0]
theorem fbS_1 (σ : Nat → Int → Int) : up (up (up σ 0 5 0) 0 6 (-1005)) 0 7 (-1005) = fbS σ 0 0 (-1005) (-1005) := by
  funext f
  by_cases h0 : f = 0
  · subst h0
    rw [up_r, up_r, up_r]; rfl
  · rw [up_o _ _ _ h0, up_o _ _ _ h0, up_o _ _ _ h0]
    unfold fbS
    by_cases h11 : f = 11
    · subst h11
      rw [setR_s]
      funext s
      unfold pbR
      rw [if_neg (by omega)]
    · rw [setR_o _ _ h11, setR_o _ _ h0]
theorem fbS_pb (σ : Nat → Int → Int) {k : Int} (hk : 0 ≤ k) (g lo hi : Int) : up (fbS σ k g lo hi) 11 k (bestP σ k) = fbS σ (k + 1) g lo hi := by
  funext f
  by_cases h11 : f = 11
  · subst h11
    rw [up_r]
    show zup (pbR σ k) k (bestP σ k) = pbR σ (k + 1)
    funext s
    unfold zup pbR
    by_cases h : s = k
    · subst h; rw [if_pos rfl, if_pos (by omega)]
    · rw [if_neg h]
      by_cases h2 : 0 ≤ s ∧ s < k
      · rw [if_pos h2, if_pos (by omega)]
      · rw [if_neg h2, if_neg (by omega)]
  · rw [up_o _ _ _ h11]
    unfold fbS
    rw [setR_o _ _ h11, setR_o _ _ h11]
def gn (σ : Nat → Int → Int) (a b : Int) : Int := if σ 9 a = σ 9 b then 0 else bestP (exc σ a b) (σ 9 a) + bestP (exc σ a b) (σ 9 b) - σ 11 (σ 9 a) - σ 11 (σ 9 b)
def Gc (σ : Nat → Int → Int) (a b : Int) : Int := if σ 9 a = σ 9 b then 0 else bestP (exc σ a b) (σ 9 a) + bestP (exc σ a b) (σ 9 b) - bestP σ (σ 9 a) - bestP σ (σ 9 b)
theorem exc_fb_Sm (σ : Nat → Int → Int) (n g lo hi a b : Int) : Sm (exc (fbS σ n g lo hi) a b) (exc σ a b) := ⟨(show fbS σ n g lo hi 0 0 = σ 0 0 from fbS_0 σ n g lo hi (by omega)), rfl, rfl, rfl, rfl, rfl, rfl, rfl⟩
theorem gn_fb {σ : Nat → Int → Int} (hP : Pos σ (σ 9) (σ 10)) (g lo hi : Int) {a b : Int} (ha : 0 ≤ a ∧ a < σ 0 1) (hb : 0 ≤ b ∧ b < σ 0 1) : gn (fbS σ (σ 0 2) g lo hi) a b = Gc σ a b := by
  have ea := (hP.1 a ha.1 ha.2).1
  have eb := (hP.1 b hb.1 hb.2).1
  have e1 : fbS σ (σ 0 2) g lo hi 9 = σ 9 := rfl
  have e2 : ∀ s, 0 ≤ s ∧ s < σ 0 2 → fbS σ (σ 0 2) g lo hi 11 s = bestP σ s := fun s hs => if_pos hs
  unfold gn Gc
  rw [e1, e2 _ ea, e2 _ eb, Sm_bestP (exc_fb_Sm σ _ g lo hi a b), Sm_bestP (exc_fb_Sm σ _ g lo hi a b)]
theorem Gc_b {σ : Nat → Int → Int} (hB : Bd σ) {a b : Int} (ha : 0 ≤ a ∧ a < σ 0 1) (hb : 0 ≤ b ∧ b < σ 0 1) : -20000000 ≤ Gc σ a b ∧ Gc σ a b ≤ 20000000 := by
  have h1 := bestP_b (hB.exc ha hb) (σ 9 a)
  have h2 := bestP_b (hB.exc ha hb) (σ 9 b)
  have h3 := bestP_b hB (σ 9 a)
  have h4 := bestP_b hB (σ 9 b)
  unfold Gc
  split <;> omega
theorem swStep_t (G : Int → Int → Int) (a b : Int) {t : Int × Int × Int} (h : t.1 < G a b) : swStep G a b t = (G a b, a, b) := if_pos h
theorem swStep_f (G : Int → Int → Int) (a b : Int) {t : Int × Int × Int} (h : ¬ t.1 < G a b) : swStep G a b t = t := if_neg h
theorem swI_s (G : Int → Int → Int) (a : Int) {b mc : Int} (h : b < mc) (t : Int × Int × Int) : swI G a (mc - b).toNat b t = swI G a (mc - (b + 1)).toNat (b + 1) (swStep G a b t) := by
  rw [show (mc - b).toNat = (mc - (b + 1)).toNat + 1 by omega, swI]
theorem swO_s (G : Int → Int → Int) {a mc : Int} (h : a < mc) (t : Int × Int × Int) : swO G mc (mc - a).toNat a t = swO G mc (mc - (a + 1)).toNat (a + 1) (swI G a (mc - (a + 1)).toNat (a + 1) t) := by
  rw [show (mc - a).toNat = (mc - (a + 1)).toNat + 1 by omega, swO]
/-- regrouping: the first number of each string, the string of each number -/
def off (g : Nat → Int → Int) (s : Int) : Int := sumP (g 6) s.toNat
def sof (g : Nat → Int → Int) (k : Int) : Int := sumP (fun s => if off g (s + 1) ≤ k then 1 else 0) (g 0 2).toNat
theorem off_s (g : Nat → Int → Int) {s : Int} (h : 0 ≤ s) : off g (s + 1) = off g s + g 6 s := sumP_s _ h
theorem sumP_le {F : Int → Int} (h : ∀ j, 0 ≤ F j) {a : Nat} : ∀ b : Nat, a ≤ b → sumP F a ≤ sumP F b
  | 0, q => by rw [show a = 0 by omega]; exact Int.le_refl _
  | b + 1, q => by
    have h1 := h b
    show sumP F a ≤ sumP F b + F b
    by_cases e : a = b + 1
    · subst e; exact Int.le_refl _
    · have := sumP_le h (a := a) b (by omega)
      omega
theorem off_le {g : Nat → Int → Int} (hB : Bd g) {a b : Int} (h : a ≤ b) : off g a ≤ off g b := sumP_le (fun j => (hB.b6 j).1) _ (by omega)
theorem off_0 {g : Nat → Int → Int} (hB : Bd g) (s : Int) : 0 ≤ off g s := by
  have h := sumP_b (F := g 6) (a := 0) (b := 12) (fun j => hB.b6 j) s.toNat
  unfold off
  omega
theorem sumP_cut {F : Int → Int} {s : Int} (h1 : ∀ j, 0 ≤ j → j < s → F j = 1) (h2 : ∀ j, s ≤ j → F j = 0) (hs : 0 ≤ s) : ∀ n : Nat, sumP F n = if s ≤ n then s else n
  | 0 => by
    show (0 : Int) = _
    split <;> omega
  | n + 1 => by
    show sumP F n + F n = _
    rw [sumP_cut h1 h2 hs n]
    by_cases q : s ≤ (n : Int)
    · rw [if_pos q, if_pos (by omega), h2 n q]; omega
    · rw [if_neg q, h1 n (by omega) (by omega)]
      split <;> omega
theorem sof_eq {g : Nat → Int → Int} (hB : Bd g) {s k : Int} (hs : 0 ≤ s ∧ s < g 0 2) (h1 : off g s ≤ k) (h2 : k < off g (s + 1)) : sof g k = s := by
  have h := sumP_cut (F := fun j => if off g (j + 1) ≤ k then 1 else 0) (s := s) (fun j q1 q2 => by
    have := off_le hB (a := j + 1) (b := s) (by omega)
    exact if_pos (by omega)) (fun j q => by
    have := off_le hB (a := s + 1) (b := j + 1) (by omega)
    exact if_neg (by omega)) hs.1 (g 0 2).toNat
  unfold sof
  rw [h, if_pos (by omega)]
def rg7 (g : Nat → Int → Int) (srt : Int → Int) (s p : Int) : Int → Int := fun j => if 0 ≤ j ∧ ((j / 12 < s ∧ j % 12 < g 6 (j / 12)) ∨ (j / 12 = s ∧ j % 12 < p)) then srt (off g (j / 12) + j % 12) else g 7 j
theorem rg7_0 (g : Nat → Int → Int) (srt : Int → Int) : rg7 g srt 0 0 = g 7 := by
  funext j
  unfold rg7
  rw [if_neg (by omega)]
theorem rg7_s {g : Nat → Int → Int} (srt : Int → Int) {s p : Int} (hs : 0 ≤ s) (hp : 0 ≤ p ∧ p < 12) : zup (rg7 g srt s p) (12 * s + p) (srt (off g s + p)) = rg7 g srt s (p + 1) := by
  funext j
  unfold zup rg7
  by_cases h : j = 12 * s + p
  · have e1 : j / 12 = s := by omega
    have e2 : j % 12 = p := by omega
    rw [if_pos h, e1, e2, if_pos (by omega)]
  · rw [if_neg h]
    try dsimp only
    by_cases h2 : 0 ≤ j ∧ ((j / 12 < s ∧ j % 12 < g 6 (j / 12)) ∨ (j / 12 = s ∧ j % 12 < p))
    · rw [if_pos h2, if_pos (by omega)]
    · rw [if_neg h2, if_neg (by omega)]
theorem rg7_n {g : Nat → Int → Int} (srt : Int → Int) (s : Int) : rg7 g srt s (g 6 s) = rg7 g srt (s + 1) 0 := by
  funext j
  unfold rg7
  by_cases e : j / 12 = s
  · rw [e]
    by_cases h2 : 0 ≤ j ∧ ((s < s ∧ j % 12 < g 6 s) ∨ (s = s ∧ j % 12 < g 6 s))
    · rw [if_pos h2, if_pos (by omega)]
    · rw [if_neg h2, if_neg (by omega)]
  · by_cases h2 : 0 ≤ j ∧ ((j / 12 < s ∧ j % 12 < g 6 (j / 12)) ∨ (j / 12 = s ∧ j % 12 < g 6 s))
    · rw [if_pos h2, if_pos (by omega)]
    · rw [if_neg h2, if_neg (by omega)]
theorem rg7_at {g : Nat → Int → Int} (srt : Int → Int) {s p n : Int} (hs : 0 ≤ s ∧ s < n) (hp : 0 ≤ p ∧ p < 12) (hp2 : p < g 6 s) : rg7 g srt n 0 (12 * s + p) = srt (off g s + p) := by
  have e1 : (12 * s + p) / 12 = s := by omega
  have e2 : (12 * s + p) % 12 = p := by omega
  unfold rg7
  rw [e1, e2, if_pos (by omega)]
theorem rg7_b {g : Nat → Int → Int} (hB : Bd g) {srt : Int → Int} (h : ∀ j, 0 ≤ srt j ∧ srt j ≤ 23) (s p : Int) : ∀ j, 0 ≤ rg7 g srt s p j ∧ rg7 g srt s p j ≤ 23 := by
  intro j
  have h1 := hB.b7 j
  unfold rg7
  split
  · exact h _
  · exact h1
def rgS (σ : Nat → Int → Int) (srt : Int → Int) (s p : Int) (r9 r10 : Int → Int) : Nat → Int → Int := setR (setR (setR (setR σ 12 srt) 7 (rg7 σ srt s p)) 9 r9) 10 r10
theorem rgS_s {σ : Nat → Int → Int} (srt r9 r10 : Int → Int) {s p : Int} (hs : 0 ≤ s) (hp : 0 ≤ p ∧ p < 12) : plc (rgS σ srt s p r9 r10) (srt (off σ s + p)) s p = rgS σ srt s (p + 1) (zup r9 (srt (off σ s + p)) s) (zup r10 (srt (off σ s + p)) p) := by
  funext f
  unfold plc rgS
  by_cases h10 : f = 10
  · subst h10; rw [up_r, up_o _ _ _ (by decide), up_o _ _ _ (by decide), setR_s, setR_s]
  · rw [up_o _ _ _ h10, setR_o _ _ h10]
    by_cases h9 : f = 9
    · subst h9; rw [up_r, up_o _ _ _ (by decide), setR_o _ _ (by decide), setR_s, setR_s]
    · rw [up_o _ _ _ h9, setR_o _ _ h9]
      by_cases h7 : f = 7
      · subst h7
        rw [up_r, setR_o _ _ (by decide), setR_o _ _ (by decide), setR_s, setR_s, rg7_s srt hs hp]
      · rw [up_o _ _ _ h7, setR_o _ _ h10, setR_o _ _ h9, setR_o _ _ h7, setR_o _ _ h7]
theorem rgS_n {σ : Nat → Int → Int} (srt r9 r10 : Int → Int) (s : Int) : rgS σ srt s (σ 6 s) r9 r10 = rgS σ srt (s + 1) 0 r9 r10 := by
  unfold rgS
  rw [rg7_n]
theorem rgS_0 (σ : Nat → Int → Int) (srt : Int → Int) : setR σ 12 srt = rgS σ srt 0 0 (σ 9) (σ 10) := by
  funext f
  unfold rgS
  rw [rg7_0]
  by_cases h10 : f = 10
  · subst h10; rw [setR_s, setR_o _ _ (by decide)]
  · rw [setR_o _ _ h10]
    by_cases h9 : f = 9
    · subst h9; rw [setR_s, setR_o _ _ (by decide)]
    · rw [setR_o _ _ h9]
      by_cases h7 : f = 7
      · subst h7; rw [setR_s, setR_o _ _ (by decide)]
      · rw [setR_o _ _ h7]
def mvN (σ : Nat → Int → Int) (srt : Int → Int) : Int → Int := fun k => if σ 9 (srt k) = sof σ k then 0 else 1
end
