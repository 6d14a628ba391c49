section GOB
variable {D : va_G} {cy : Nat → ClassId} {l : Launch} {R : Room} {cc : ByteArray} {nL : Nat} {own : String} {ret : Option FieldType} {w0 : va_W} {Q : Option Value → va_W → Prop} {w : va_W} {pc : Nat} {lv lv' : List (Nat × Value)} {st : List Value}
theorem g_icmp_eq {a b off : Int} (tgt : Nat) (hd : decode cc pc = .ok (.if_icmp .eq off, 3)) (ht : (pc : Int) + off = (tgt : Int)) (ha : -2147483648 ≤ a ∧ a ≤ 2147483647) (hb : -2147483648 ≤ b ∧ b ≤ 2147483647) (kt : a = b → GO D cy l R cc nL own ret w0 Q w tgt lv st) (kf : ¬ a = b → GO D cy l R cc nL own ret w0 Q w (pc + 3) lv st) : GO D cy l R cc nL own ret w0 Q w pc lv (.int (zI b) :: .int (zI a) :: st) := by
  intro p e s m args below meth c H locs ls C hP hD hS hl
  exact lv_icmp_eq C.1 C.2.1 hd ht (fun h => kt ((zI_inj ha hb).mp h) p e s m args below meth c H locs ls C hP hD hS hl) (fun h => kf (fun q => h ((zI_inj ha hb).mpr q)) p e s m args below meth c H locs ls C hP hD hS hl)
theorem g_if_eq {a off : Int} (tgt : Nat) (hd : decode cc pc = .ok (.ifCond .eq off, 3)) (ht : (pc : Int) + off = (tgt : Int)) (ha : -2147483648 ≤ a ∧ a ≤ 2147483647) (kt : a = 0 → GO D cy l R cc nL own ret w0 Q w tgt lv st) (kf : ¬ a = 0 → GO D cy l R cc nL own ret w0 Q w (pc + 3) lv st) : GO D cy l R cc nL own ret w0 Q w pc lv (.int (zI a) :: st) := by
  intro p e s m args below meth c H locs ls C hP hD hS hl
  have hz : (-2147483648 : Int) ≤ 0 ∧ (0 : Int) ≤ 2147483647 := by omega
  exact lv_if_eq C.1 C.2.1 hd ht (fun h => kt ((zI_inj ha hz).mp h) p e s m args below meth c H locs ls C hP hD hS hl) (fun h => kf (fun q => h ((zI_inj ha hz).mpr q)) p e s m args below meth c H locs ls C hP hD hS hl)
theorem g_if_eqT {a off : Int} (tgt : Nat) (hd : decode cc pc = .ok (.ifCond .eq off, 3)) (ht : (pc : Int) + off = (tgt : Int)) (ha : -2147483648 ≤ a ∧ a ≤ 2147483647) (h : a = 0) (kt : GO D cy l R cc nL own ret w0 Q w tgt lv st) : GO D cy l R cc nL own ret w0 Q w pc lv (.int (zI a) :: st) := g_if_eq tgt hd ht ha (fun _ => kt) (fun q => absurd h (by omega))
theorem g_if_eqF {a off : Int} (tgt : Nat) (hd : decode cc pc = .ok (.ifCond .eq off, 3)) (ht : (pc : Int) + off = (tgt : Int)) (ha : -2147483648 ≤ a ∧ a ≤ 2147483647) (h : ¬ a = 0) (kf : GO D cy l R cc nL own ret w0 Q w (pc + 3) lv st) : GO D cy l R cc nL own ret w0 Q w pc lv (.int (zI a) :: st) := g_if_eq tgt hd ht ha (fun q => absurd h (by omega)) (fun _ => kf)
theorem g_lcmp_eq {a b off : Int} (tgt : Nat) (hd : decode cc pc = .ok (.lcmp, 1)) (hd2 : decode cc (pc + 1) = .ok (.ifCond .eq off, 3)) (ht : ((pc + 1 : Nat) : Int) + off = (tgt : Int)) (ha : -9223372036854775808 ≤ a ∧ a ≤ 9223372036854775807) (hb : -9223372036854775808 ≤ b ∧ b ≤ 9223372036854775807) (kt : a = b → GO D cy l R cc nL own ret w0 Q w tgt lv st) (kf : ¬ a = b → GO D cy l R cc nL own ret w0 Q w (pc + 4) lv st) : GO D cy l R cc nL own ret w0 Q w pc lv (.long (zJ b) :: .long (zJ a) :: st) := by
  refine g_lcmp hd ha hb ?_
  refine g_if_eq tgt hd2 ht (by split <;> (try split) <;> omega) (fun h => kt ?_) (fun h => kf ?_)
  · split at h <;> (try split at h) <;> omega
  · split at h <;> (try split at h) <;> omega
theorem g_icmp_ne {a b off : Int} (tgt : Nat) (hd : decode cc pc = .ok (.if_icmp .ne off, 3)) (ht : (pc : Int) + off = (tgt : Int)) (ha : -2147483648 ≤ a ∧ a ≤ 2147483647) (hb : -2147483648 ≤ b ∧ b ≤ 2147483647) (kt : ¬ a = b → GO D cy l R cc nL own ret w0 Q w tgt lv st) (kf : a = b → GO D cy l R cc nL own ret w0 Q w (pc + 3) lv st) : GO D cy l R cc nL own ret w0 Q w pc lv (.int (zI b) :: .int (zI a) :: st) := by
  intro p e s m args below meth c H locs ls C hP hD hS hl
  exact lv_icmp_ne C.1 C.2.1 hd ht (fun h => kt (fun q => h ((zI_inj ha hb).mpr q)) p e s m args below meth c H locs ls C hP hD hS hl) (fun h => kf ((zI_inj ha hb).mp h) p e s m args below meth c H locs ls C hP hD hS hl)
theorem g_if_ne {a off : Int} (tgt : Nat) (hd : decode cc pc = .ok (.ifCond .ne off, 3)) (ht : (pc : Int) + off = (tgt : Int)) (ha : -2147483648 ≤ a ∧ a ≤ 2147483647) (kt : ¬ a = 0 → GO D cy l R cc nL own ret w0 Q w tgt lv st) (kf : a = 0 → GO D cy l R cc nL own ret w0 Q w (pc + 3) lv st) : GO D cy l R cc nL own ret w0 Q w pc lv (.int (zI a) :: st) := by
  intro p e s m args below meth c H locs ls C hP hD hS hl
  have hz : (-2147483648 : Int) ≤ 0 ∧ (0 : Int) ≤ 2147483647 := by omega
  exact lv_if_ne C.1 C.2.1 hd ht (fun h => kt (fun q => h ((zI_inj ha hz).mpr q)) p e s m args below meth c H locs ls C hP hD hS hl) (fun h => kf ((zI_inj ha hz).mp h) p e s m args below meth c H locs ls C hP hD hS hl)
theorem g_if_neT {a off : Int} (tgt : Nat) (hd : decode cc pc = .ok (.ifCond .ne off, 3)) (ht : (pc : Int) + off = (tgt : Int)) (ha : -2147483648 ≤ a ∧ a ≤ 2147483647) (h : ¬ a = 0) (kt : GO D cy l R cc nL own ret w0 Q w tgt lv st) : GO D cy l R cc nL own ret w0 Q w pc lv (.int (zI a) :: st) := g_if_ne tgt hd ht ha (fun _ => kt) (fun q => absurd h (by omega))
theorem g_if_neF {a off : Int} (tgt : Nat) (hd : decode cc pc = .ok (.ifCond .ne off, 3)) (ht : (pc : Int) + off = (tgt : Int)) (ha : -2147483648 ≤ a ∧ a ≤ 2147483647) (h : a = 0) (kf : GO D cy l R cc nL own ret w0 Q w (pc + 3) lv st) : GO D cy l R cc nL own ret w0 Q w pc lv (.int (zI a) :: st) := g_if_ne tgt hd ht ha (fun q => absurd h (by omega)) (fun _ => kf)
theorem g_lcmp_ne {a b off : Int} (tgt : Nat) (hd : decode cc pc = .ok (.lcmp, 1)) (hd2 : decode cc (pc + 1) = .ok (.ifCond .ne off, 3)) (ht : ((pc + 1 : Nat) : Int) + off = (tgt : Int)) (ha : -9223372036854775808 ≤ a ∧ a ≤ 9223372036854775807) (hb : -9223372036854775808 ≤ b ∧ b ≤ 9223372036854775807) (kt : ¬ a = b → GO D cy l R cc nL own ret w0 Q w tgt lv st) (kf : a = b → GO D cy l R cc nL own ret w0 Q w (pc + 4) lv st) : GO D cy l R cc nL own ret w0 Q w pc lv (.long (zJ b) :: .long (zJ a) :: st) := by
  refine g_lcmp hd ha hb ?_
  refine g_if_ne tgt hd2 ht (by split <;> (try split) <;> omega) (fun h => kt ?_) (fun h => kf ?_)
  · split at h <;> (try split at h) <;> omega
  · split at h <;> (try split at h) <;> omega
theorem g_icmp_lt {a b off : Int} (tgt : Nat) (hd : decode cc pc = .ok (.if_icmp .lt off, 3)) (ht : (pc : Int) + off = (tgt : Int)) (ha : -2147483648 ≤ a ∧ a ≤ 2147483647) (hb : -2147483648 ≤ b ∧ b ≤ 2147483647) (kt : a < b → GO D cy l R cc nL own ret w0 Q w tgt lv st) (kf : b ≤ a → GO D cy l R cc nL own ret w0 Q w (pc + 3) lv st) : GO D cy l R cc nL own ret w0 Q w pc lv (.int (zI b) :: .int (zI a) :: st) := by
  intro p e s m args below meth c H locs ls C hP hD hS hl
  exact lv_icmp_lt C.1 C.2.1 hd ht (fun h => kt ((zI_lt ha hb).mp h) p e s m args below meth c H locs ls C hP hD hS hl) (fun h => kf (Int.not_lt.mp (fun q => h ((zI_lt ha hb).mpr q))) p e s m args below meth c H locs ls C hP hD hS hl)
theorem g_if_lt {a off : Int} (tgt : Nat) (hd : decode cc pc = .ok (.ifCond .lt off, 3)) (ht : (pc : Int) + off = (tgt : Int)) (ha : -2147483648 ≤ a ∧ a ≤ 2147483647) (kt : a < 0 → GO D cy l R cc nL own ret w0 Q w tgt lv st) (kf : 0 ≤ a → GO D cy l R cc nL own ret w0 Q w (pc + 3) lv st) : GO D cy l R cc nL own ret w0 Q w pc lv (.int (zI a) :: st) := by
  intro p e s m args below meth c H locs ls C hP hD hS hl
  have hz : (-2147483648 : Int) ≤ 0 ∧ (0 : Int) ≤ 2147483647 := by omega
  exact lv_if_lt C.1 C.2.1 hd ht (fun h => kt ((zI_lt ha hz).mp h) p e s m args below meth c H locs ls C hP hD hS hl) (fun h => kf (Int.not_lt.mp (fun q => h ((zI_lt ha hz).mpr q))) p e s m args below meth c H locs ls C hP hD hS hl)
theorem g_if_ltT {a off : Int} (tgt : Nat) (hd : decode cc pc = .ok (.ifCond .lt off, 3)) (ht : (pc : Int) + off = (tgt : Int)) (ha : -2147483648 ≤ a ∧ a ≤ 2147483647) (h : a < 0) (kt : GO D cy l R cc nL own ret w0 Q w tgt lv st) : GO D cy l R cc nL own ret w0 Q w pc lv (.int (zI a) :: st) := g_if_lt tgt hd ht ha (fun _ => kt) (fun q => absurd h (by omega))
theorem g_if_ltF {a off : Int} (tgt : Nat) (hd : decode cc pc = .ok (.ifCond .lt off, 3)) (ht : (pc : Int) + off = (tgt : Int)) (ha : -2147483648 ≤ a ∧ a ≤ 2147483647) (h : 0 ≤ a) (kf : GO D cy l R cc nL own ret w0 Q w (pc + 3) lv st) : GO D cy l R cc nL own ret w0 Q w pc lv (.int (zI a) :: st) := g_if_lt tgt hd ht ha (fun q => absurd h (by omega)) (fun _ => kf)
theorem g_lcmp_lt {a b off : Int} (tgt : Nat) (hd : decode cc pc = .ok (.lcmp, 1)) (hd2 : decode cc (pc + 1) = .ok (.ifCond .lt off, 3)) (ht : ((pc + 1 : Nat) : Int) + off = (tgt : Int)) (ha : -9223372036854775808 ≤ a ∧ a ≤ 9223372036854775807) (hb : -9223372036854775808 ≤ b ∧ b ≤ 9223372036854775807) (kt : a < b → GO D cy l R cc nL own ret w0 Q w tgt lv st) (kf : b ≤ a → GO D cy l R cc nL own ret w0 Q w (pc + 4) lv st) : GO D cy l R cc nL own ret w0 Q w pc lv (.long (zJ b) :: .long (zJ a) :: st) := by
  refine g_lcmp hd ha hb ?_
  refine g_if_lt tgt hd2 ht (by split <;> (try split) <;> omega) (fun h => kt ?_) (fun h => kf ?_)
  · split at h <;> (try split at h) <;> omega
  · split at h <;> (try split at h) <;> omega
theorem g_icmp_ge {a b off : Int} (tgt : Nat) (hd : decode cc pc = .ok (.if_icmp .ge off, 3)) (ht : (pc : Int) + off = (tgt : Int)) (ha : -2147483648 ≤ a ∧ a ≤ 2147483647) (hb : -2147483648 ≤ b ∧ b ≤ 2147483647) (kt : b ≤ a → GO D cy l R cc nL own ret w0 Q w tgt lv st) (kf : a < b → GO D cy l R cc nL own ret w0 Q w (pc + 3) lv st) : GO D cy l R cc nL own ret w0 Q w pc lv (.int (zI b) :: .int (zI a) :: st) := by
  intro p e s m args below meth c H locs ls C hP hD hS hl
  exact lv_icmp_ge C.1 C.2.1 hd ht (fun h => kt ((zI_le hb ha).mp h) p e s m args below meth c H locs ls C hP hD hS hl) (fun h => kf (Int.not_le.mp (fun q => h ((zI_le hb ha).mpr q))) p e s m args below meth c H locs ls C hP hD hS hl)
theorem g_if_ge {a off : Int} (tgt : Nat) (hd : decode cc pc = .ok (.ifCond .ge off, 3)) (ht : (pc : Int) + off = (tgt : Int)) (ha : -2147483648 ≤ a ∧ a ≤ 2147483647) (kt : 0 ≤ a → GO D cy l R cc nL own ret w0 Q w tgt lv st) (kf : a < 0 → GO D cy l R cc nL own ret w0 Q w (pc + 3) lv st) : GO D cy l R cc nL own ret w0 Q w pc lv (.int (zI a) :: st) := by
  intro p e s m args below meth c H locs ls C hP hD hS hl
  have hz : (-2147483648 : Int) ≤ 0 ∧ (0 : Int) ≤ 2147483647 := by omega
  exact lv_if_ge C.1 C.2.1 hd ht (fun h => kt ((zI_le hz ha).mp h) p e s m args below meth c H locs ls C hP hD hS hl) (fun h => kf (Int.not_le.mp (fun q => h ((zI_le hz ha).mpr q))) p e s m args below meth c H locs ls C hP hD hS hl)
theorem g_if_geT {a off : Int} (tgt : Nat) (hd : decode cc pc = .ok (.ifCond .ge off, 3)) (ht : (pc : Int) + off = (tgt : Int)) (ha : -2147483648 ≤ a ∧ a ≤ 2147483647) (h : 0 ≤ a) (kt : GO D cy l R cc nL own ret w0 Q w tgt lv st) : GO D cy l R cc nL own ret w0 Q w pc lv (.int (zI a) :: st) := g_if_ge tgt hd ht ha (fun _ => kt) (fun q => absurd h (by omega))
theorem g_if_geF {a off : Int} (tgt : Nat) (hd : decode cc pc = .ok (.ifCond .ge off, 3)) (ht : (pc : Int) + off = (tgt : Int)) (ha : -2147483648 ≤ a ∧ a ≤ 2147483647) (h : a < 0) (kf : GO D cy l R cc nL own ret w0 Q w (pc + 3) lv st) : GO D cy l R cc nL own ret w0 Q w pc lv (.int (zI a) :: st) := g_if_ge tgt hd ht ha (fun q => absurd h (by omega)) (fun _ => kf)
theorem g_lcmp_ge {a b off : Int} (tgt : Nat) (hd : decode cc pc = .ok (.lcmp, 1)) (hd2 : decode cc (pc + 1) = .ok (.ifCond .ge off, 3)) (ht : ((pc + 1 : Nat) : Int) + off = (tgt : Int)) (ha : -9223372036854775808 ≤ a ∧ a ≤ 9223372036854775807) (hb : -9223372036854775808 ≤ b ∧ b ≤ 9223372036854775807) (kt : b ≤ a → GO D cy l R cc nL own ret w0 Q w tgt lv st) (kf : a < b → GO D cy l R cc nL own ret w0 Q w (pc + 4) lv st) : GO D cy l R cc nL own ret w0 Q w pc lv (.long (zJ b) :: .long (zJ a) :: st) := by
  refine g_lcmp hd ha hb ?_
  refine g_if_ge tgt hd2 ht (by split <;> (try split) <;> omega) (fun h => kt ?_) (fun h => kf ?_)
  · split at h <;> (try split at h) <;> omega
  · split at h <;> (try split at h) <;> omega
theorem g_icmp_gt {a b off : Int} (tgt : Nat) (hd : decode cc pc = .ok (.if_icmp .gt off, 3)) (ht : (pc : Int) + off = (tgt : Int)) (ha : -2147483648 ≤ a ∧ a ≤ 2147483647) (hb : -2147483648 ≤ b ∧ b ≤ 2147483647) (kt : b < a → GO D cy l R cc nL own ret w0 Q w tgt lv st) (kf : a ≤ b → GO D cy l R cc nL own ret w0 Q w (pc + 3) lv st) : GO D cy l R cc nL own ret w0 Q w pc lv (.int (zI b) :: .int (zI a) :: st) := by
  intro p e s m args below meth c H locs ls C hP hD hS hl
  exact lv_icmp_gt C.1 C.2.1 hd ht (fun h => kt ((zI_lt hb ha).mp h) p e s m args below meth c H locs ls C hP hD hS hl) (fun h => kf (Int.not_lt.mp (fun q => h ((zI_lt hb ha).mpr q))) p e s m args below meth c H locs ls C hP hD hS hl)
theorem g_if_gt {a off : Int} (tgt : Nat) (hd : decode cc pc = .ok (.ifCond .gt off, 3)) (ht : (pc : Int) + off = (tgt : Int)) (ha : -2147483648 ≤ a ∧ a ≤ 2147483647) (kt : 0 < a → GO D cy l R cc nL own ret w0 Q w tgt lv st) (kf : a ≤ 0 → GO D cy l R cc nL own ret w0 Q w (pc + 3) lv st) : GO D cy l R cc nL own ret w0 Q w pc lv (.int (zI a) :: st) := by
  intro p e s m args below meth c H locs ls C hP hD hS hl
  have hz : (-2147483648 : Int) ≤ 0 ∧ (0 : Int) ≤ 2147483647 := by omega
  exact lv_if_gt C.1 C.2.1 hd ht (fun h => kt ((zI_lt hz ha).mp h) p e s m args below meth c H locs ls C hP hD hS hl) (fun h => kf (Int.not_lt.mp (fun q => h ((zI_lt hz ha).mpr q))) p e s m args below meth c H locs ls C hP hD hS hl)
theorem g_if_gtT {a off : Int} (tgt : Nat) (hd : decode cc pc = .ok (.ifCond .gt off, 3)) (ht : (pc : Int) + off = (tgt : Int)) (ha : -2147483648 ≤ a ∧ a ≤ 2147483647) (h : 0 < a) (kt : GO D cy l R cc nL own ret w0 Q w tgt lv st) : GO D cy l R cc nL own ret w0 Q w pc lv (.int (zI a) :: st) := g_if_gt tgt hd ht ha (fun _ => kt) (fun q => absurd h (by omega))
theorem g_if_gtF {a off : Int} (tgt : Nat) (hd : decode cc pc = .ok (.ifCond .gt off, 3)) (ht : (pc : Int) + off = (tgt : Int)) (ha : -2147483648 ≤ a ∧ a ≤ 2147483647) (h : a ≤ 0) (kf : GO D cy l R cc nL own ret w0 Q w (pc + 3) lv st) : GO D cy l R cc nL own ret w0 Q w pc lv (.int (zI a) :: st) := g_if_gt tgt hd ht ha (fun q => absurd h (by omega)) (fun _ => kf)
theorem g_lcmp_gt {a b off : Int} (tgt : Nat) (hd : decode cc pc = .ok (.lcmp, 1)) (hd2 : decode cc (pc + 1) = .ok (.ifCond .gt off, 3)) (ht : ((pc + 1 : Nat) : Int) + off = (tgt : Int)) (ha : -9223372036854775808 ≤ a ∧ a ≤ 9223372036854775807) (hb : -9223372036854775808 ≤ b ∧ b ≤ 9223372036854775807) (kt : b < a → GO D cy l R cc nL own ret w0 Q w tgt lv st) (kf : a ≤ b → GO D cy l R cc nL own ret w0 Q w (pc + 4) lv st) : GO D cy l R cc nL own ret w0 Q w pc lv (.long (zJ b) :: .long (zJ a) :: st) := by
  refine g_lcmp hd ha hb ?_
  refine g_if_gt tgt hd2 ht (by split <;> (try split) <;> omega) (fun h => kt ?_) (fun h => kf ?_)
  · split at h <;> (try split at h) <;> omega
  · split at h <;> (try split at h) <;> omega
theorem g_icmp_le {a b off : Int} (tgt : Nat) (hd : decode cc pc = .ok (.if_icmp .le off, 3)) (ht : (pc : Int) + off = (tgt : Int)) (ha : -2147483648 ≤ a ∧ a ≤ 2147483647) (hb : -2147483648 ≤ b ∧ b ≤ 2147483647) (kt : a ≤ b → GO D cy l R cc nL own ret w0 Q w tgt lv st) (kf : b < a → GO D cy l R cc nL own ret w0 Q w (pc + 3) lv st) : GO D cy l R cc nL own ret w0 Q w pc lv (.int (zI b) :: .int (zI a) :: st) := by
  intro p e s m args below meth c H locs ls C hP hD hS hl
  exact lv_icmp_le C.1 C.2.1 hd ht (fun h => kt ((zI_le ha hb).mp h) p e s m args below meth c H locs ls C hP hD hS hl) (fun h => kf (Int.not_le.mp (fun q => h ((zI_le ha hb).mpr q))) p e s m args below meth c H locs ls C hP hD hS hl)
theorem g_if_le {a off : Int} (tgt : Nat) (hd : decode cc pc = .ok (.ifCond .le off, 3)) (ht : (pc : Int) + off = (tgt : Int)) (ha : -2147483648 ≤ a ∧ a ≤ 2147483647) (kt : a ≤ 0 → GO D cy l R cc nL own ret w0 Q w tgt lv st) (kf : 0 < a → GO D cy l R cc nL own ret w0 Q w (pc + 3) lv st) : GO D cy l R cc nL own ret w0 Q w pc lv (.int (zI a) :: st) := by
  intro p e s m args below meth c H locs ls C hP hD hS hl
  have hz : (-2147483648 : Int) ≤ 0 ∧ (0 : Int) ≤ 2147483647 := by omega
  exact lv_if_le C.1 C.2.1 hd ht (fun h => kt ((zI_le ha hz).mp h) p e s m args below meth c H locs ls C hP hD hS hl) (fun h => kf (Int.not_le.mp (fun q => h ((zI_le ha hz).mpr q))) p e s m args below meth c H locs ls C hP hD hS hl)
theorem g_if_leT {a off : Int} (tgt : Nat) (hd : decode cc pc = .ok (.ifCond .le off, 3)) (ht : (pc : Int) + off = (tgt : Int)) (ha : -2147483648 ≤ a ∧ a ≤ 2147483647) (h : a ≤ 0) (kt : GO D cy l R cc nL own ret w0 Q w tgt lv st) : GO D cy l R cc nL own ret w0 Q w pc lv (.int (zI a) :: st) := g_if_le tgt hd ht ha (fun _ => kt) (fun q => absurd h (by omega))
theorem g_if_leF {a off : Int} (tgt : Nat) (hd : decode cc pc = .ok (.ifCond .le off, 3)) (ht : (pc : Int) + off = (tgt : Int)) (ha : -2147483648 ≤ a ∧ a ≤ 2147483647) (h : 0 < a) (kf : GO D cy l R cc nL own ret w0 Q w (pc + 3) lv st) : GO D cy l R cc nL own ret w0 Q w pc lv (.int (zI a) :: st) := g_if_le tgt hd ht ha (fun q => absurd h (by omega)) (fun _ => kf)
theorem g_lcmp_le {a b off : Int} (tgt : Nat) (hd : decode cc pc = .ok (.lcmp, 1)) (hd2 : decode cc (pc + 1) = .ok (.ifCond .le off, 3)) (ht : ((pc + 1 : Nat) : Int) + off = (tgt : Int)) (ha : -9223372036854775808 ≤ a ∧ a ≤ 9223372036854775807) (hb : -9223372036854775808 ≤ b ∧ b ≤ 9223372036854775807) (kt : a ≤ b → GO D cy l R cc nL own ret w0 Q w tgt lv st) (kf : b < a → GO D cy l R cc nL own ret w0 Q w (pc + 4) lv st) : GO D cy l R cc nL own ret w0 Q w pc lv (.long (zJ b) :: .long (zJ a) :: st) := by
  refine g_lcmp hd ha hb ?_
  refine g_if_le tgt hd2 ht (by split <;> (try split) <;> omega) (fun h => kt ?_) (fun h => kf ?_)
  · split at h <;> (try split at h) <;> omega
  · split at h <;> (try split at h) <;> omega
/-- ends -/
theorem g_end {v : Option Value} (hq : Q v w) {s t : State} {H : Heap} {locs : List Loc} {args : Array Value} (hP : va_P D vwCl w H) (hD : va_D (va_A w0 s.heap.size) w) (hS : va_S (va_A w0 s.heap.size) s.heap H locs) (ht : t.heap = H) : gQ D w0 Q args s (.returned v) t := ⟨v, w, rfl, hq, by rw [ht]; exact hP, hD, hS.F ht⟩
theorem g_iret {x : Int32} (hd : decode cc pc = .ok (.ireturn, 1)) (hr : ret = some .int) (hq : Q (some (.int x)) w) : GO D cy l R cc nL own ret w0 Q w pc lv [.int x] := by
  intro p e s m args below meth c H locs ls C hP hD hS hl
  exact W.iret C.1 C.2.1 (C.2.2.2.1.trans hr) (fun t ht hW => g_end hq hP hD hS ht) hS.2.2 hd C.2.2.2.2.1
theorem g_zret {x : Int32} (hd : decode cc pc = .ok (.ireturn, 1)) (hr : ret = some .boolean) (hn : narrow .boolean (.int x) = .int x) (hq : Q (some (.int x)) w) : GO D cy l R cc nL own ret w0 Q w pc lv [.int x] := by
  intro p e s m args below meth c H locs ls C hP hD hS hl
  exact W.zret C.1 C.2.1 (C.2.2.2.1.trans hr) hn (fun t ht hW => g_end hq hP hD hS ht) hS.2.2 hd C.2.2.2.2.1
theorem g_lret {x : Int64} (hd : decode cc pc = .ok (.lreturn, 1)) (hr : ret = some .long) (hq : Q (some (.long x)) w) : GO D cy l R cc nL own ret w0 Q w pc lv [.long x] := by
  intro p e s m args below meth c H locs ls C hP hD hS hl
  exact W.lret C.1 C.2.1 (C.2.2.2.1.trans hr) (fun t ht hW => g_end hq hP hD hS ht) hS.2.2 hd C.2.2.2.2.1
theorem g_vret (hd : decode cc pc = .ok (.return_, 1)) (hr : ret = none) (hq : Q none w) : GO D cy l R cc nL own ret w0 Q w pc lv [] := by
  intro p e s m args below meth c H locs ls C hP hD hS hl
  exact W.vret C.1 C.2.1 (C.2.2.2.1.trans hr) (fun t ht hW => g_end hq hP hD hS ht) hS.2.2 hd C.2.2.2.2.1
/-- behind a call -/
theorem g_after {Q' : Option Value → va_W → Prop} {a : Array Value} {st0 rest : List Value} {p : Program} {e : Env} {s : State} {m : MethodId} {args : Array Value} {below : List Frame} {meth : Method} {c : Code} {H : Heap} {locs : List Loc} {ls : Array Slot}
    (C : gC D cy cc nL own ret p s m args meth c) (hD : va_D (va_A w0 s.heap.size) w) (hS : va_S (va_A w0 s.heap.size) s.heap H locs) (hl : lv_has ls nL lv)
    (hr : va_Run p l e R s m args below meth c H locs 0 0 0 0 (F0 m pc ls st0) rest (gQ D w Q' a) (va_A w H.size))
    (kk : ∀ (v : Option Value) (w' : va_W), Q' v w' → GO D cy l R cc nL own ret w0 Q w' (pc + 3) lv (v.toList ++ rest)) :
    W p l e R s m args below meth c H locs 0 0 (MQ below (gQ D w0 Q) args s 0 0 (va_A w0 s.heap.size)) (F0 m pc ls st0) := by
  intro T hT X
  obtain ⟨v, st₀, t, T', L, h0, X', hL, e1, e2, ⟨v', w', hv, hq, hP', hD', hF⟩, stp⟩ := hr T hT X
  cases hv
  rw [h0] at hD'
  have hA : ∀ q, va_A w H.size q → va_A w0 s.heap.size q := by
    intro q h
    rcases h with ⟨k, ee, h⟩ | h
    · exact hD.2 k (q, ee) h
    · exact Or.inr (Nat.le_trans hS.1 h)
  have hz : H.size ≤ T'.heap.size := by rw [e1, ← h0]; exact hF.1
  have hk : ∀ q : Nat, q < H.size → ¬ va_A w H.size q → T'.heap[q]? = H[q]? := by
    intro q h1 h2
    have h3 := hF.2 q (by rw [h0]; exact h1) (by rw [h0]; exact h2)
    rw [e1, h3, h0]
  obtain ⟨t2, a1, b1⟩ := kk v w' hq p e s m args below meth c T'.heap (locs ++ L) ls C (by rw [e1]; exact hP') (gD_weaken hD' hA)
    ⟨Nat.le_trans hS.1 hz, fun q h1 h2 => by rw [hk q (Nat.lt_of_lt_of_le h1 hS.1) (fun z => h2 (hA q z))]; exact hS.2.1 q h1 h2, fun q hq => by
      rcases List.mem_append.mp hq with h | h
      · exact hS.2.2 q h
      · exact hA _ (hL q h)⟩ hl T' rfl X'
  exact ⟨t2, stp t2 a1, b1⟩
/-- the pre of a contract does not see frames -/
theorem g_blind {av : List Value} {w : va_W} {sz : Nat} : FrameBlind (va_Pc av (fun U => U.heap.size = sz ∧ va_P D vwCl w U.heap ∧ gK D cy U ∧ va_D (fun _ => True) w)) := by
  intro a U g mk q
  obtain ⟨q0, q1, qP, qK, qD⟩ := q
  exact ⟨q0, q1, qP, gK.same (s := U) (U := U.calling g mk a) rfl qK, qD⟩
theorem g_pre {s : State} {H : Heap} {A : Nat → Prop} (hK : gK D cy s) (hP : va_P D vwCl w H) (hD : va_D A w) {av : List Value} {U : State} (hU : U.heap = H) (hW : s.WarmedH U.vm) : va_Pc av (fun U => U.heap.size = H.size ∧ va_P D vwCl w U.heap ∧ gK D cy U ∧ va_D (fun _ => True) w) av.toArray U := ⟨rfl, by rw [hU], by rw [hU]; exact hP, gK.warm hW hK, gD_weaken hD (fun _ _ => trivial)⟩
theorem lw_good : ∀ x ∈ gtb, ((x.onTables && x.keeps) = true ∨ ∃ ty, x = .arrayClass ty) := by
  exact fun x hx => good_of_word (List.mem_filter.mp hx).2
theorem lw_goodIn {ws : List Cond} (h : ∀ x ∈ ws, x ∈ gtb) : GoodIn gtb ws := fun x hx => ⟨h x hx, lw_good x (h x hx)⟩
theorem lw_cons {x : Cond} (h : x ∈ gtb) : ∀ z ∈ (x :: gtb), z ∈ gtb := fun z hz => (List.mem_cons.mp hz).elim (fun q => q ▸ h) id
/-- links: what the tables say of a call's entry -/
def LkV (own : String) (idx : Nat) (y : MethodName) (bc : ByteArray) (nB : Nat) (rt : Option FieldType) (n : Nat) : Prop := (∀ z ∈ (wsV own idx y.cls y [Cond.code y bc nB rt]), z ∈ gtb) ∧ y.cls ≠ "java/lang/invoke/MethodHandle" ∧ y.cls ≠ "java/lang/invoke/VarHandle" ∧ (parseMethodDescriptor y.desc).map (fun d => d.parameters.length) = some n
def LkS (own : String) (idx : Nat) (y : MethodName) (bc : ByteArray) (nB : Nat) (rt : Option FieldType) (n : Nat) : Prop := (∀ z ∈ (va_wsS own idx y [Cond.code y bc nB rt]), z ∈ gtb) ∧ y.cls ≠ "java/lang/invoke/MethodHandle" ∧ y.cls ≠ "java/lang/invoke/VarHandle" ∧ (parseMethodDescriptor y.desc).map (fun d => d.parameters.length) = some n
def LkU (own : String) (idx : Nat) (K : String) (owner : String) (x y : MethodName) (bc : ByteArray) (nB : Nat) (rt : Option FieldType) (n : Nat) : Prop := (∀ z ∈ (va_wsU own idx K owner x y [Cond.code y bc nB rt]), z ∈ gtb) ∧ (y = ⟨owner, x.name, x.desc⟩ ∨ Cond.declares ⟨owner, x.name, x.desc⟩ ∈ gnt) ∧ owner ≠ "java/lang/invoke/MethodHandle" ∧ owner ≠ "java/lang/invoke/VarHandle" ∧ (parseMethodDescriptor x.desc).map (fun d => d.parameters.length) = some n
def LkN (own : String) (idx : Nat) (host : String) (y : MethodName) (bc : ByteArray) (nB : Nat) (rt : Option FieldType) (n : Nat) : Prop := Cond.methodLinkNest own idx y host ∈ gnt ∧ (∀ z ∈ ([Cond.instanceMethod y, Cond.selects y.cls y y, Cond.initialized y.cls, Cond.code y bc nB rt] : List Cond), z ∈ gtb) ∧ y.cls ≠ "java/lang/invoke/MethodHandle" ∧ y.cls ≠ "java/lang/invoke/VarHandle" ∧ (parseMethodDescriptor y.desc).map (fun d => d.parameters.length) = some n
theorem lw_appc {ws : List Cond} {x : Cond} (h : ∀ z ∈ ws ++ [x], z ∈ gtb) : ∀ z ∈ ws ++ (x :: gtb), z ∈ gtb := fun z hz => by
  rcases List.mem_append.mp hz with q | q
  · exact h z (List.mem_append_left _ q)
  · rcases List.mem_cons.mp q with q | q
    · exact h z (List.mem_append_right _ (List.mem_singleton.mpr q))
    · exact q
section CALLS
variable {y : MethodName} {bc : ByteArray} {nB n idx : Nat} {rt : Option FieldType} {rm : Room} {As rest : List Value} {b : Nat} {Q' : Option Value → va_W → Prop} {st0 : List Value}
theorem g_callV (hL : LkV own idx y bc nB rt n) (hM : Con D cy l y bc nB rt rm (.ref b :: As) w Q') (hrm : rm.cells = 0 ∧ rm.slots = 0 ∧ rm.frames + 1 ≤ R.frames ∧ 8 + (nB + 11) + rm.locals ≤ R.locals) (q0 ci : Nat) {q : vw_C} {fs : List Value} (hc : vwCl[ci]? = some q) (hq : q.1 = y.cls) (he : w[q0]? = some (b, .inr (ci, fs)))
    (hn : As.length = n) (hst : st0 = As.reverse ++ .ref b :: rest) (hcat : (rest.map fun v => v.category).sum ≤ 8) (hd : decode cc pc = .ok (.invokevirtual idx, 3)) (kk : ∀ (v : Option Value) (w' : va_W), Q' v w' → GO D cy l R cc nL own ret w0 Q w' (pc + 3) lv (v.toList ++ rest)) : GO D cy l R cc nL own ret w0 Q w pc lv st0 := by
  intro p e s m args below meth c H locs ls C hP hD hS hl
  have C' := C
  obtain ⟨hx, hb, hml, hr, hlk, hown, hts, hK⟩ := C'
  refine g_after C hD hS hl (a := (Value.ref b :: As).toArray) (rest := rest) ?_ kk
  have hrecv := va_recv hK.1 hP hc he
  rw [hq] at hrecv
  exact va_runV (Ts := gtb) (As := As) (rest := rest) ⟨hx, hb, hml, hown, hts⟩ (hM H.size) (cwV n hts (lw_goodIn (by unfold wsV; exact lw_appc (by have h := hL.1; unfold wsV at h; exact h))) rfl hrm.1 hrm.2.1 ⟨rfl, hL.2⟩ hrm.2.2) ⟨g_blind, hrecv, fun U hU hW => g_pre hK hP hD hU hW⟩ rfl hn hl.1 hst (lv_room hcat) hd ⟨Nat.zero_le _, Nat.zero_le _⟩
theorem g_callS (hL : LkS own idx y bc nB rt n) (hM : Con D cy l y bc nB rt rm As w Q') (hrm : rm.cells = 0 ∧ rm.slots = 0 ∧ rm.frames + 1 ≤ R.frames ∧ 8 + (nB + 11) + rm.locals ≤ R.locals)
    (hn : As.length = n) (hst : st0 = As.reverse ++ rest) (hcat : (rest.map fun v => v.category).sum ≤ 8) (hd : decode cc pc = .ok (.invokestatic idx, 3)) (kk : ∀ (v : Option Value) (w' : va_W), Q' v w' → GO D cy l R cc nL own ret w0 Q w' (pc + 3) lv (v.toList ++ rest)) : GO D cy l R cc nL own ret w0 Q w pc lv st0 := by
  intro p e s m args below meth c H locs ls C hP hD hS hl
  have C' := C
  obtain ⟨hx, hb, hml, hr, hlk, hown, hts, hK⟩ := C'
  refine g_after C hD hS hl (a := As.toArray) (rest := rest) ?_ kk
  exact va_runS (Ts := gtb) (As := As) (rest := rest) ⟨hx, hb, hml, hown, hts⟩ (hM H.size) (va_cwS n hts (lw_goodIn (by unfold va_wsS; exact lw_appc (by have h := hL.1; unfold va_wsS at h; exact h))) rfl hrm.1 hrm.2.1 hL.2 hrm.2.2) ⟨g_blind, fun U hU hW => g_pre hK hP hD hU hW⟩ rfl hn hl.1 hst (lv_room hcat) hd ⟨Nat.zero_le _, Nat.zero_le _⟩
theorem g_callU {K owner : String} {x : MethodName} (hL : LkU own idx K owner x y bc nB rt n) (hM : Con D cy l y bc nB rt rm (.ref b :: As) w Q') (hrm : rm.cells = 0 ∧ rm.slots = 0 ∧ rm.frames + 1 ≤ R.frames ∧ 8 + (nB + 11) + rm.locals ≤ R.locals) (q0 ci : Nat) {q : vw_C} {fs : List Value} (hc : vwCl[ci]? = some q) (hq : q.1 = K) (he : w[q0]? = some (b, .inr (ci, fs)))
    (hn : As.length = n) (hst : st0 = As.reverse ++ .ref b :: rest) (hcat : (rest.map fun v => v.category).sum ≤ 8) (hd : decode cc pc = .ok (.invokevirtual idx, 3)) (kk : ∀ (v : Option Value) (w' : va_W), Q' v w' → GO D cy l R cc nL own ret w0 Q w' (pc + 3) lv (v.toList ++ rest)) : GO D cy l R cc nL own ret w0 Q w pc lv st0 := by
  intro p e s m args below meth c H locs ls C hP hD hS hl
  have C' := C
  obtain ⟨hx, hb, hml, hr, hlk, hown, hts, hK⟩ := C'
  refine g_after C hD hS hl (a := (Value.ref b :: As).toArray) (rest := rest) ?_ kk
  have hrecv := va_recv hK.1 hP hc he
  rw [hq] at hrecv
  have hG : GoodIn gtb (va_wsU own idx K owner x y (Cond.code y bc nB rt :: gtb)) := lw_goodIn (by unfold va_wsU; exact lw_appc (by have h := hL.1; unfold va_wsU at h; exact h))
  have hcw : va_CU R s args own K owner idx x y bc nB rt (Cond.code y bc nB rt :: gtb) rm 0 0 n := by
    rcases hL.2.1 with h | h
    · exact va_cwU n hts hG rfl hrm.1 hrm.2.1 h hL.2.2 hrm.2.2
    · exact va_cwA n hts hG rfl hrm.1 hrm.2.1 (hK.2 _ h) hL.2.2 hrm.2.2
  exact va_runU (Ts := gtb) (As := As) (rest := rest) ⟨hx, hb, hml, hown, hts⟩ (hM H.size) hcw ⟨g_blind, hrecv, fun U hU hW => g_pre hK hP hD hU hW⟩ rfl hn hl.1 hst (lv_room hcat) hd ⟨Nat.zero_le _, Nat.zero_le _⟩
theorem g_callN {host : String} (hL : LkN own idx host y bc nB rt n) (hM : Con D cy l y bc nB rt rm (.ref b :: As) w Q') (hrm : rm.cells = 0 ∧ rm.slots = 0 ∧ rm.frames + 1 ≤ R.frames ∧ 8 + (nB + 11) + rm.locals ≤ R.locals) (q0 ci : Nat) {q : vw_C} {fs : List Value} (hc : vwCl[ci]? = some q) (hq : q.1 = y.cls) (he : w[q0]? = some (b, .inr (ci, fs)))
    (hn : As.length = n) (hst : st0 = As.reverse ++ .ref b :: rest) (hcat : (rest.map fun v => v.category).sum ≤ 8) (hd : decode cc pc = .ok (.invokevirtual idx, 3)) (kk : ∀ (v : Option Value) (w' : va_W), Q' v w' → GO D cy l R cc nL own ret w0 Q w' (pc + 3) lv (v.toList ++ rest)) : GO D cy l R cc nL own ret w0 Q w pc lv st0 := by
  intro p e s m args below meth c H locs ls C hP hD hS hl
  have C' := C
  obtain ⟨hx, hb, hml, hr, hlk, hown, hts, hK⟩ := C'
  refine g_after C hD hS hl (a := (Value.ref b :: As).toArray) (rest := rest) ?_ kk
  have hrecv := va_recv hK.1 hP hc he
  rw [hq] at hrecv
  have h1 := hK.2 _ hL.1
  have h2 := hts _ (hL.2.1 _ (List.mem_of_getElem? (i := 0) rfl))
  have h3 := hts _ (hL.2.1 _ (List.mem_of_getElem? (i := 1) rfl))
  have h4 := hts _ (hL.2.1 _ (List.mem_of_getElem? (i := 2) rfl))
  exact va_runVN (Ts := gtb) (As := As) (rest := rest) ⟨hx, hb, hml, hown, hts⟩ (hM H.size) ⟨va_cnB n hts (lw_goodIn (lw_cons (hL.2.1 _ (List.mem_of_getElem? (i := 3) rfl)))) rfl hrm.1 hrm.2.1 h1 h4 hL.2.2 hrm.2.2, h2, h3⟩ ⟨g_blind, hrecv, fun U hU hW => g_pre hK hP hD hU hW⟩ rfl hn hl.1 hst (lv_room hcat) hd ⟨Nat.zero_le _, Nat.zero_le _⟩
end CALLS
end GOB
