section
-- ===== PART A: goes FIRST, ahead of the names: the tables' words, and 'selects' of the private methods out of them =====
/-- a private method of a class that the tables say can be made, by its rows of tables_1 -/
def lw_okq (q : MethodName × Nat) : Prop := (q.1.cls ≠ "java/lang/invoke/MethodHandle" ∧ q.1.cls ≠ "java/lang/invoke/VarHandle") ∧ Cond.instantiable q.1.cls q.2 ∈ tables_1 ∧ Cond.privateMethod q.1 ∈ tables_1 ∧ Cond.instanceMethod q.1 ∈ tables_1
theorem lw_p0 : lw_okq (⟨"HashHall", "tableOf", "(I)LHashHall$Table;"⟩, 1) := ⟨⟨by decide +kernel, by decide +kernel⟩, List.mem_of_getElem? (i := 9) (by decide +kernel), List.mem_of_getElem? (i := 67) (by decide +kernel), List.mem_of_getElem? (i := 68) (by decide +kernel)⟩
theorem lw_p1 : lw_okq (⟨"HashHall$Table", "slotOf", "(I)I"⟩, 10) := ⟨⟨by decide +kernel, by decide +kernel⟩, List.mem_of_getElem? (i := 18) (by decide +kernel), List.mem_of_getElem? (i := 76) (by decide +kernel), List.mem_of_getElem? (i := 77) (by decide +kernel)⟩
theorem lw_p2 : lw_okq (⟨"HashHall$Table", "headOf", "(I)I"⟩, 10) := ⟨⟨by decide +kernel, by decide +kernel⟩, List.mem_of_getElem? (i := 18) (by decide +kernel), List.mem_of_getElem? (i := 80) (by decide +kernel), List.mem_of_getElem? (i := 81) (by decide +kernel)⟩
theorem lw_p3 : lw_okq (⟨"HashHall$Table", "insert", "(II)V"⟩, 10) := ⟨⟨by decide +kernel, by decide +kernel⟩, List.mem_of_getElem? (i := 18) (by decide +kernel), List.mem_of_getElem? (i := 85) (by decide +kernel), List.mem_of_getElem? (i := 86) (by decide +kernel)⟩
theorem lw_p4 : lw_okq (⟨"HashHall$Table", "grow", "()V"⟩, 10) := ⟨⟨by decide +kernel, by decide +kernel⟩, List.mem_of_getElem? (i := 18) (by decide +kernel), List.mem_of_getElem? (i := 89) (by decide +kernel), List.mem_of_getElem? (i := 90) (by decide +kernel)⟩
theorem lw_p5 : lw_okq (⟨"HashHall$Table", "hook", "(I)V"⟩, 10) := ⟨⟨by decide +kernel, by decide +kernel⟩, List.mem_of_getElem? (i := 18) (by decide +kernel), List.mem_of_getElem? (i := 109) (by decide +kernel), List.mem_of_getElem? (i := 110) (by decide +kernel)⟩
theorem lw_p6 : lw_okq (⟨"HashHall$Table", "freeSlot", "()I"⟩, 10) := ⟨⟨by decide +kernel, by decide +kernel⟩, List.mem_of_getElem? (i := 18) (by decide +kernel), List.mem_of_getElem? (i := 113) (by decide +kernel), List.mem_of_getElem? (i := 114) (by decide +kernel)⟩
theorem lw_p7 : lw_okq (⟨"HashHall$Table", "linkLast", "(I)V"⟩, 10) := ⟨⟨by decide +kernel, by decide +kernel⟩, List.mem_of_getElem? (i := 18) (by decide +kernel), List.mem_of_getElem? (i := 117) (by decide +kernel), List.mem_of_getElem? (i := 118) (by decide +kernel)⟩
theorem lw_p8 : lw_okq (⟨"HashHall$Table", "use", "(I)V"⟩, 10) := ⟨⟨by decide +kernel, by decide +kernel⟩, List.mem_of_getElem? (i := 18) (by decide +kernel), List.mem_of_getElem? (i := 122) (by decide +kernel), List.mem_of_getElem? (i := 123) (by decide +kernel)⟩
theorem lw_p9 : lw_okq (⟨"HashHall$Table", "unlink", "(I)V"⟩, 10) := ⟨⟨by decide +kernel, by decide +kernel⟩, List.mem_of_getElem? (i := 18) (by decide +kernel), List.mem_of_getElem? (i := 126) (by decide +kernel), List.mem_of_getElem? (i := 127) (by decide +kernel)⟩
theorem lw_p10 : lw_okq (⟨"HashHall$Table", "drop", "(I)V"⟩, 10) := ⟨⟨by decide +kernel, by decide +kernel⟩, List.mem_of_getElem? (i := 18) (by decide +kernel), List.mem_of_getElem? (i := 160) (by decide +kernel), List.mem_of_getElem? (i := 161) (by decide +kernel)⟩
theorem lw_p11 : lw_okq (⟨"HashHall$Table", "unhook", "(I)V"⟩, 10) := ⟨⟨by decide +kernel, by decide +kernel⟩, List.mem_of_getElem? (i := 18) (by decide +kernel), List.mem_of_getElem? (i := 164) (by decide +kernel), List.mem_of_getElem? (i := 165) (by decide +kernel)⟩
theorem lw_p12 : lw_okq (⟨"HashHallModel$Pairs", "rankOf", "(I)I"⟩, 10) := ⟨⟨by decide +kernel, by decide +kernel⟩, List.mem_of_getElem? (i := 272) (by decide +kernel), List.mem_of_getElem? (i := 331) (by decide +kernel), List.mem_of_getElem? (i := 332) (by decide +kernel)⟩
theorem lw_p13 : lw_okq (⟨"HashHallModel$Pairs", "grow", "()V"⟩, 10) := ⟨⟨by decide +kernel, by decide +kernel⟩, List.mem_of_getElem? (i := 272) (by decide +kernel), List.mem_of_getElem? (i := 339) (by decide +kernel), List.mem_of_getElem? (i := 340) (by decide +kernel)⟩
theorem lw_p14 : lw_okq (⟨"HashHallModel$Pairs", "link", "(I)V"⟩, 10) := ⟨⟨by decide +kernel, by decide +kernel⟩, List.mem_of_getElem? (i := 272) (by decide +kernel), List.mem_of_getElem? (i := 345) (by decide +kernel), List.mem_of_getElem? (i := 346) (by decide +kernel)⟩
theorem lw_p15 : lw_okq (⟨"HashHallModel", "use", "(II)V"⟩, 1) := ⟨⟨by decide +kernel, by decide +kernel⟩, List.mem_of_getElem? (i := 265) (by decide +kernel), List.mem_of_getElem? (i := 350) (by decide +kernel), List.mem_of_getElem? (i := 351) (by decide +kernel)⟩
def lw_privs_1 : List (MethodName × Nat) := [(⟨"HashHall", "tableOf", "(I)LHashHall$Table;"⟩, 1), (⟨"HashHall$Table", "slotOf", "(I)I"⟩, 10), (⟨"HashHall$Table", "headOf", "(I)I"⟩, 10), (⟨"HashHall$Table", "insert", "(II)V"⟩, 10), (⟨"HashHall$Table", "grow", "()V"⟩, 10), (⟨"HashHall$Table", "hook", "(I)V"⟩, 10), (⟨"HashHall$Table", "freeSlot", "()I"⟩, 10), (⟨"HashHall$Table", "linkLast", "(I)V"⟩, 10), (⟨"HashHall$Table", "use", "(I)V"⟩, 10), (⟨"HashHall$Table", "unlink", "(I)V"⟩, 10), (⟨"HashHall$Table", "drop", "(I)V"⟩, 10), (⟨"HashHall$Table", "unhook", "(I)V"⟩, 10), (⟨"HashHallModel$Pairs", "rankOf", "(I)I"⟩, 10), (⟨"HashHallModel$Pairs", "grow", "()V"⟩, 10), (⟨"HashHallModel$Pairs", "link", "(I)V"⟩, 10), (⟨"HashHallModel", "use", "(II)V"⟩, 1)]
theorem lw_r1 : ∀ q ∈ lw_privs_1, lw_okq q := List.forall_mem_cons.mpr ⟨lw_p0, List.forall_mem_cons.mpr ⟨lw_p1, List.forall_mem_cons.mpr ⟨lw_p2, List.forall_mem_cons.mpr ⟨lw_p3, List.forall_mem_cons.mpr ⟨lw_p4, List.forall_mem_cons.mpr ⟨lw_p5, List.forall_mem_cons.mpr ⟨lw_p6, List.forall_mem_cons.mpr ⟨lw_p7, List.forall_mem_cons.mpr ⟨lw_p8, List.forall_mem_cons.mpr ⟨lw_p9, List.forall_mem_cons.mpr ⟨lw_p10, List.forall_mem_cons.mpr ⟨lw_p11, List.forall_mem_cons.mpr ⟨lw_p12, List.forall_mem_cons.mpr ⟨lw_p13, List.forall_mem_cons.mpr ⟨lw_p14, List.forall_mem_cons.mpr ⟨lw_p15, fun _ h => absurd h List.not_mem_nil⟩⟩⟩⟩⟩⟩⟩⟩⟩⟩⟩⟩⟩⟩⟩⟩
theorem lw_p16 : lw_okq (⟨"HashHallModel$Pairs", "unlink", "(I)V"⟩, 10) := ⟨⟨by decide +kernel, by decide +kernel⟩, List.mem_of_getElem? (i := 272) (by decide +kernel), List.mem_of_getElem? (i := 358) (by decide +kernel), List.mem_of_getElem? (i := 359) (by decide +kernel)⟩
def lw_privs_2 : List (MethodName × Nat) := [(⟨"HashHallModel$Pairs", "unlink", "(I)V"⟩, 10)]
theorem lw_r2 : ∀ q ∈ lw_privs_2, lw_okq q := List.forall_mem_cons.mpr ⟨lw_p16, fun _ h => absurd h List.not_mem_nil⟩
def lw_privs : List (MethodName × Nat) := lw_privs_1 ++ (lw_privs_2)
def lw_tbl : List Cond := k2_sels lw_privs ++ tables_1
theorem lw_privs_ok : ∀ q ∈ lw_privs, lw_okq q := by
  show ∀ q ∈ lw_privs_1 ++ (lw_privs_2), lw_okq q
  exact List.forall_mem_append.mpr ⟨lw_r1, lw_r2⟩
end
section
-- names of the classes, their fields in the order of the slots, the methods; the tables' words: printed by wip/whole/gen/names.py
def al : List Cond := lw_tbl.filter goodWord
theorem al_at {w : Cond} (i : Nat) (h : lw_tbl[i]? = some w) (g : goodWord w = true) : w ∈ al := List.mem_filter.mpr ⟨List.mem_of_getElem? h, g⟩
theorem al_tb : ∀ w ∈ al, w ∈ lw_tbl := fun _ h => (List.mem_filter.mp h).1
theorem al_gd : ∀ w ∈ al, (w.onTables && w.keeps) = true ∨ ∃ ty, w = .arrayClass ty := fun _ h => good_of_word (List.mem_filter.mp h).2
abbrev R_hh : String := "HashHall"
abbrev R_tb : String := "HashHall$Table"
abbrev R_md : String := "HashHallModel"
abbrev R_pr : String := "HashHallModel$Pairs"
abbrev R_ja : String := "java/util/Arrays"
abbrev R_jm : String := "java/lang/Math"
def F_tb : u_T := fun k => match k with
  | 0 => ("HashHall$Table", "movesOnUse", "Z", true)
  | 1 => ("HashHall$Table", "count", "I", false)
  | 2 => ("HashHall$Table", "keys", "[I", false)
  | 3 => ("HashHall$Table", "values", "[I", false)
  | 4 => ("HashHall$Table", "before", "[I", false)
  | 5 => ("HashHall$Table", "after", "[I", false)
  | 6 => ("HashHall$Table", "heads", "[I", false)
  | 7 => ("HashHall$Table", "chain", "[I", false)
  | 8 => ("HashHall$Table", "firstLeft", "I", false)
  | _ => ("HashHall$Table", "lastMade", "I", false)
def t_tb : Nat → FieldType := fun k => match k with
  | 0 => .boolean
  | 1 => .int
  | 2 => .array .int
  | 3 => .array .int
  | 4 => .array .int
  | 5 => .array .int
  | 6 => .array .int
  | 7 => .array .int
  | 8 => .int
  | _ => .int
theorem n_tb : ∀ a, a < 10 → ∀ b, b < 10 → a ≠ b → (F_tb a).2.1 ≠ (F_tb b).2.1 := by decide +kernel
theorem t_tb_ok : ∀ k, k < 10 → parseFieldDescriptor (F_tb k).2.2.1 = some (t_tb k) := by decide +kernel
theorem kL_tb_0 : u_lay R_tb F_tb 0 ∈ al := al_at 53 (by decide +kernel) (by decide +kernel)
theorem kL_tb_1 : u_lay R_tb F_tb 1 ∈ al := al_at 55 (by decide +kernel) (by decide +kernel)
theorem kL_tb_2 : u_lay R_tb F_tb 2 ∈ al := al_at 57 (by decide +kernel) (by decide +kernel)
theorem kL_tb_3 : u_lay R_tb F_tb 3 ∈ al := al_at 59 (by decide +kernel) (by decide +kernel)
theorem kL_tb_4 : u_lay R_tb F_tb 4 ∈ al := al_at 61 (by decide +kernel) (by decide +kernel)
theorem kL_tb_5 : u_lay R_tb F_tb 5 ∈ al := al_at 63 (by decide +kernel) (by decide +kernel)
theorem kL_tb_6 : u_lay R_tb F_tb 6 ∈ al := al_at 65 (by decide +kernel) (by decide +kernel)
theorem kL_tb_7 : u_lay R_tb F_tb 7 ∈ al := al_at 67 (by decide +kernel) (by decide +kernel)
theorem kL_tb_8 : u_lay R_tb F_tb 8 ∈ al := al_at 69 (by decide +kernel) (by decide +kernel)
theorem kL_tb_9 : u_lay R_tb F_tb 9 ∈ al := al_at 71 (by decide +kernel) (by decide +kernel)
theorem i_tb : ∀ w ∈ u_ws R_tb F_tb 10, w ∈ al := by
  intro w hw
  obtain ⟨k, hk, rfl⟩ := List.mem_map.mp hw
  have hk := List.mem_range.mp hk
  rcases (show k = 0 ∨ k = 1 ∨ k = 2 ∨ k = 3 ∨ k = 4 ∨ k = 5 ∨ k = 6 ∨ k = 7 ∨ k = 8 ∨ k = 9 by omega) with rfl | rfl | rfl | rfl | rfl | rfl | rfl | rfl | rfl | rfl
  · exact kL_tb_0
  · exact kL_tb_1
  · exact kL_tb_2
  · exact kL_tb_3
  · exact kL_tb_4
  · exact kL_tb_5
  · exact kL_tb_6
  · exact kL_tb_7
  · exact kL_tb_8
  · exact kL_tb_9
def F_hh : u_T := fun k => match k with
  | _ => ("HashHall", "tables", "[LHashHall$Table;", true)
def t_hh : Nat → FieldType := fun k => match k with
  | _ => .array (.object "HashHall$Table")
theorem n_hh : ∀ a, a < 1 → ∀ b, b < 1 → a ≠ b → (F_hh a).2.1 ≠ (F_hh b).2.1 := by decide +kernel
theorem t_hh_ok : ∀ k, k < 1 → parseFieldDescriptor (F_hh k).2.2.1 = some (t_hh k) := by decide +kernel
theorem kL_hh_0 : u_lay R_hh F_hh 0 ∈ al := al_at 76 (by decide +kernel) (by decide +kernel)
theorem i_hh : ∀ w ∈ u_ws R_hh F_hh 1, w ∈ al := by
  intro w hw
  obtain ⟨k, hk, rfl⟩ := List.mem_map.mp hw
  have hk := List.mem_range.mp hk
  rcases (show k = 0 by omega) with rfl
  · exact kL_hh_0
def F_pr : u_T := fun k => match k with
  | 0 => ("HashHallModel$Pairs", "sorted", "[I", false)
  | 1 => ("HashHallModel$Pairs", "key", "[I", false)
  | 2 => ("HashHallModel$Pairs", "value", "[I", false)
  | 3 => ("HashHallModel$Pairs", "before", "[I", false)
  | 4 => ("HashHallModel$Pairs", "behind", "[I", false)
  | 5 => ("HashHallModel$Pairs", "many", "I", false)
  | 6 => ("HashHallModel$Pairs", "free", "I", false)
  | 7 => ("HashHallModel$Pairs", "made", "I", false)
  | 8 => ("HashHallModel$Pairs", "first", "I", false)
  | _ => ("HashHallModel$Pairs", "last", "I", false)
def t_pr : Nat → FieldType := fun k => match k with
  | 0 => .array .int
  | 1 => .array .int
  | 2 => .array .int
  | 3 => .array .int
  | 4 => .array .int
  | 5 => .int
  | 6 => .int
  | 7 => .int
  | 8 => .int
  | _ => .int
theorem n_pr : ∀ a, a < 10 → ∀ b, b < 10 → a ≠ b → (F_pr a).2.1 ≠ (F_pr b).2.1 := by decide +kernel
theorem t_pr_ok : ∀ k, k < 10 → parseFieldDescriptor (F_pr k).2.2.1 = some (t_pr k) := by decide +kernel
theorem kL_pr_0 : u_lay R_pr F_pr 0 ∈ al := al_at 310 (by decide +kernel) (by decide +kernel)
theorem kL_pr_1 : u_lay R_pr F_pr 1 ∈ al := al_at 312 (by decide +kernel) (by decide +kernel)
theorem kL_pr_2 : u_lay R_pr F_pr 2 ∈ al := al_at 314 (by decide +kernel) (by decide +kernel)
theorem kL_pr_3 : u_lay R_pr F_pr 3 ∈ al := al_at 316 (by decide +kernel) (by decide +kernel)
theorem kL_pr_4 : u_lay R_pr F_pr 4 ∈ al := al_at 318 (by decide +kernel) (by decide +kernel)
theorem kL_pr_5 : u_lay R_pr F_pr 5 ∈ al := al_at 320 (by decide +kernel) (by decide +kernel)
theorem kL_pr_6 : u_lay R_pr F_pr 6 ∈ al := al_at 322 (by decide +kernel) (by decide +kernel)
theorem kL_pr_7 : u_lay R_pr F_pr 7 ∈ al := al_at 324 (by decide +kernel) (by decide +kernel)
theorem kL_pr_8 : u_lay R_pr F_pr 8 ∈ al := al_at 326 (by decide +kernel) (by decide +kernel)
theorem kL_pr_9 : u_lay R_pr F_pr 9 ∈ al := al_at 328 (by decide +kernel) (by decide +kernel)
theorem i_pr : ∀ w ∈ u_ws R_pr F_pr 10, w ∈ al := by
  intro w hw
  obtain ⟨k, hk, rfl⟩ := List.mem_map.mp hw
  have hk := List.mem_range.mp hk
  rcases (show k = 0 ∨ k = 1 ∨ k = 2 ∨ k = 3 ∨ k = 4 ∨ k = 5 ∨ k = 6 ∨ k = 7 ∨ k = 8 ∨ k = 9 by omega) with rfl | rfl | rfl | rfl | rfl | rfl | rfl | rfl | rfl | rfl
  · exact kL_pr_0
  · exact kL_pr_1
  · exact kL_pr_2
  · exact kL_pr_3
  · exact kL_pr_4
  · exact kL_pr_5
  · exact kL_pr_6
  · exact kL_pr_7
  · exact kL_pr_8
  · exact kL_pr_9
def F_md : u_T := fun k => match k with
  | _ => ("HashHallModel", "map", "[LHashHallModel$Pairs;", true)
def t_md : Nat → FieldType := fun k => match k with
  | _ => .array (.object "HashHallModel$Pairs")
theorem n_md : ∀ a, a < 1 → ∀ b, b < 1 → a ≠ b → (F_md a).2.1 ≠ (F_md b).2.1 := by decide +kernel
theorem t_md_ok : ∀ k, k < 1 → parseFieldDescriptor (F_md k).2.2.1 = some (t_md k) := by decide +kernel
theorem kL_md_0 : u_lay R_md F_md 0 ∈ al := al_at 332 (by decide +kernel) (by decide +kernel)
theorem i_md : ∀ w ∈ u_ws R_md F_md 1, w ∈ al := by
  intro w hw
  obtain ⟨k, hk, rfl⟩ := List.mem_map.mp hw
  have hk := List.mem_range.mp hk
  rcases (show k = 0 by omega) with rfl
  · exact kL_md_0
def y_hh_init : MethodName := ⟨"HashHall", "<init>", "()V"⟩
abbrev b_hh_init : ByteArray := prog_1_method_1_code
def y_tb_init : MethodName := ⟨"HashHall$Table", "<init>", "(Z)V"⟩
abbrev b_tb_init : ByteArray := prog_2_method_1_code
def y_hh_put : MethodName := ⟨"HashHall", "put", "(III)J"⟩
abbrev b_hh_put : ByteArray := prog_1_method_2_code
def y_hh_tableOf : MethodName := ⟨"HashHall", "tableOf", "(I)LHashHall$Table;"⟩
abbrev b_hh_tableOf : ByteArray := prog_1_method_18_code
def y_tb_store : MethodName := ⟨"HashHall$Table", "store", "(II)J"⟩
abbrev b_tb_store : ByteArray := prog_2_method_2_code
def y_tb_slotOf : MethodName := ⟨"HashHall$Table", "slotOf", "(I)I"⟩
abbrev b_tb_slotOf : ByteArray := prog_2_method_17_code
def y_tb_headOf : MethodName := ⟨"HashHall$Table", "headOf", "(I)I"⟩
abbrev b_tb_headOf : ByteArray := prog_2_method_18_code
def y_tb_insert : MethodName := ⟨"HashHall$Table", "insert", "(II)V"⟩
abbrev b_tb_insert : ByteArray := prog_2_method_19_code
def y_tb_grow : MethodName := ⟨"HashHall$Table", "grow", "()V"⟩
abbrev b_tb_grow : ByteArray := prog_2_method_23_code
def y_ja_copyOf : MethodName := ⟨"java/util/Arrays", "copyOf", "([II)[I"⟩
abbrev b_ja_copyOf : ByteArray := prog_9_method_123_code
def y_jm_min : MethodName := ⟨"java/lang/Math", "min", "(II)I"⟩
abbrev b_jm_min : ByteArray := prog_7_method_69_code
def y_tb_hook : MethodName := ⟨"HashHall$Table", "hook", "(I)V"⟩
abbrev b_tb_hook : ByteArray := prog_2_method_24_code
def y_tb_freeSlot : MethodName := ⟨"HashHall$Table", "freeSlot", "()I"⟩
abbrev b_tb_freeSlot : ByteArray := prog_2_method_22_code
def y_tb_linkLast : MethodName := ⟨"HashHall$Table", "linkLast", "(I)V"⟩
abbrev b_tb_linkLast : ByteArray := prog_2_method_26_code
def y_tb_use : MethodName := ⟨"HashHall$Table", "use", "(I)V"⟩
abbrev b_tb_use : ByteArray := prog_2_method_21_code
def y_tb_unlink : MethodName := ⟨"HashHall$Table", "unlink", "(I)V"⟩
abbrev b_tb_unlink : ByteArray := prog_2_method_27_code
def y_hh_add : MethodName := ⟨"HashHall", "add", "(III)J"⟩
abbrev b_hh_add : ByteArray := prog_1_method_3_code
def y_tb_storeIfNew : MethodName := ⟨"HashHall$Table", "storeIfNew", "(II)J"⟩
abbrev b_tb_storeIfNew : ByteArray := prog_2_method_3_code
def y_tb_lookUp : MethodName := ⟨"HashHall$Table", "lookUp", "(I)J"⟩
abbrev b_tb_lookUp : ByteArray := prog_2_method_5_code
def y_hh_get : MethodName := ⟨"HashHall", "get", "(II)J"⟩
abbrev b_hh_get : ByteArray := prog_1_method_4_code
def y_hh_give : MethodName := ⟨"HashHall", "give", "(III)J"⟩
abbrev b_hh_give : ByteArray := prog_1_method_5_code
def y_hh_remove : MethodName := ⟨"HashHall", "remove", "(II)J"⟩
abbrev b_hh_remove : ByteArray := prog_1_method_6_code
def y_tb_dropKey : MethodName := ⟨"HashHall$Table", "dropKey", "(I)J"⟩
abbrev b_tb_dropKey : ByteArray := prog_2_method_6_code
def y_tb_drop : MethodName := ⟨"HashHall$Table", "drop", "(I)V"⟩
abbrev b_tb_drop : ByteArray := prog_2_method_20_code
def y_tb_unhook : MethodName := ⟨"HashHall$Table", "unhook", "(I)V"⟩
abbrev b_tb_unhook : ByteArray := prog_2_method_25_code
def y_hh_take : MethodName := ⟨"HashHall", "take", "(III)Z"⟩
abbrev b_hh_take : ByteArray := prog_1_method_7_code
def y_tb_dropPair : MethodName := ⟨"HashHall$Table", "dropPair", "(II)Z"⟩
abbrev b_tb_dropPair : ByteArray := prog_2_method_7_code
def y_hh_has : MethodName := ⟨"HashHall", "has", "(III)Z"⟩
abbrev b_hh_has : ByteArray := prog_1_method_8_code
def y_tb_holdsKey : MethodName := ⟨"HashHall$Table", "holdsKey", "(I)Z"⟩
abbrev b_tb_holdsKey : ByteArray := prog_2_method_10_code
def y_tb_holdsValue : MethodName := ⟨"HashHall$Table", "holdsValue", "(I)Z"⟩
abbrev b_tb_holdsValue : ByteArray := prog_2_method_11_code
def y_hh_size : MethodName := ⟨"HashHall", "size", "(I)I"⟩
abbrev b_hh_size : ByteArray := prog_1_method_9_code
def y_hh_clear : MethodName := ⟨"HashHall", "clear", "(I)I"⟩
abbrev b_hh_clear : ByteArray := prog_1_method_10_code
def y_tb_dropAll : MethodName := ⟨"HashHall$Table", "dropAll", "()I"⟩
abbrev b_tb_dropAll : ByteArray := prog_2_method_9_code
def y_ja_fill : MethodName := ⟨"java/util/Arrays", "fill", "([II)V"⟩
abbrev b_ja_fill : ByteArray := prog_9_method_103_code
def y_hh_pour : MethodName := ⟨"HashHall", "pour", "(II)I"⟩
abbrev b_hh_pour : ByteArray := prog_1_method_11_code
def y_tb_holdsKeysOf : MethodName := ⟨"HashHall$Table", "holdsKeysOf", "(LHashHall$Table;)Z"⟩
abbrev b_tb_holdsKeysOf : ByteArray := prog_2_method_12_code
def y_tb_storeAllOf : MethodName := ⟨"HashHall$Table", "storeAllOf", "(LHashHall$Table;)V"⟩
abbrev b_tb_storeAllOf : ByteArray := prog_2_method_4_code
def y_hh_entry : MethodName := ⟨"HashHall", "entry", "(III)J"⟩
abbrev b_hh_entry : ByteArray := prog_1_method_12_code
def y_tb_slotAt : MethodName := ⟨"HashHall$Table", "slotAt", "(I)I"⟩
abbrev b_tb_slotAt : ByteArray := prog_2_method_14_code
def y_hh_sum : MethodName := ⟨"HashHall", "sum", "(I)J"⟩
abbrev b_hh_sum : ByteArray := prog_1_method_13_code
def y_tb_total : MethodName := ⟨"HashHall$Table", "total", "()J"⟩
abbrev b_tb_total : ByteArray := prog_2_method_15_code
def y_hh_sweep : MethodName := ⟨"HashHall", "sweep", "(III)I"⟩
abbrev b_hh_sweep : ByteArray := prog_1_method_14_code
def y_tb_dropByRest : MethodName := ⟨"HashHall$Table", "dropByRest", "(II)I"⟩
abbrev b_tb_dropByRest : ByteArray := prog_2_method_8_code
def y_jm_floorMod : MethodName := ⟨"java/lang/Math", "floorMod", "(II)I"⟩
abbrev b_jm_floorMod : ByteArray := prog_7_method_50_code
def y_hh_raise : MethodName := ⟨"HashHall", "raise", "(II)I"⟩
abbrev b_hh_raise : ByteArray := prog_1_method_15_code
def y_tb_increase : MethodName := ⟨"HashHall$Table", "increase", "(I)I"⟩
abbrev b_tb_increase : ByteArray := prog_2_method_16_code
def y_hh_same : MethodName := ⟨"HashHall", "same", "(II)Z"⟩
abbrev b_hh_same : ByteArray := prog_1_method_16_code
def y_tb_matches : MethodName := ⟨"HashHall$Table", "matches", "(LHashHall$Table;)Z"⟩
abbrev b_tb_matches : ByteArray := prog_2_method_13_code
def y_hh_fill : MethodName := ⟨"HashHall", "fill", "(IIII)I"⟩
abbrev b_hh_fill : ByteArray := prog_1_method_17_code
def y_md_init : MethodName := ⟨"HashHallModel", "<init>", "()V"⟩
abbrev b_md_init : ByteArray := prog_4_method_1_code
def y_pr_init : MethodName := ⟨"HashHallModel$Pairs", "<init>", "()V"⟩
abbrev b_pr_init : ByteArray := prog_5_method_1_code
def y_md_put : MethodName := ⟨"HashHallModel", "put", "(III)J"⟩
abbrev b_md_put : ByteArray := prog_4_method_4_code
def y_md_isMap : MethodName := ⟨"HashHallModel", "isMap", "(I)Z"⟩
abbrev b_md_isMap : ByteArray := prog_4_method_2_code
def y_pr_find : MethodName := ⟨"HashHallModel$Pairs", "find", "(I)I"⟩
abbrev b_pr_find : ByteArray := prog_5_method_3_code
def y_pr_rankOf : MethodName := ⟨"HashHallModel$Pairs", "rankOf", "(I)I"⟩
abbrev b_pr_rankOf : ByteArray := prog_5_method_2_code
def y_pr_insert : MethodName := ⟨"HashHallModel$Pairs", "insert", "(II)V"⟩
abbrev b_pr_insert : ByteArray := prog_5_method_5_code
def y_pr_grow : MethodName := ⟨"HashHallModel$Pairs", "grow", "()V"⟩
abbrev b_pr_grow : ByteArray := prog_5_method_4_code
def y_pr_link : MethodName := ⟨"HashHallModel$Pairs", "link", "(I)V"⟩
abbrev b_pr_link : ByteArray := prog_5_method_6_code
def y_md_use : MethodName := ⟨"HashHallModel", "use", "(II)V"⟩
abbrev b_md_use : ByteArray := prog_4_method_3_code
def y_pr_toLast : MethodName := ⟨"HashHallModel$Pairs", "toLast", "(I)V"⟩
abbrev b_pr_toLast : ByteArray := prog_5_method_8_code
def y_pr_unlink : MethodName := ⟨"HashHallModel$Pairs", "unlink", "(I)V"⟩
abbrev b_pr_unlink : ByteArray := prog_5_method_7_code
def y_md_add : MethodName := ⟨"HashHallModel", "add", "(III)J"⟩
abbrev b_md_add : ByteArray := prog_4_method_5_code
def y_md_get : MethodName := ⟨"HashHallModel", "get", "(II)J"⟩
abbrev b_md_get : ByteArray := prog_4_method_6_code
def y_md_give : MethodName := ⟨"HashHallModel", "give", "(III)J"⟩
abbrev b_md_give : ByteArray := prog_4_method_7_code
def y_md_remove : MethodName := ⟨"HashHallModel", "remove", "(II)J"⟩
abbrev b_md_remove : ByteArray := prog_4_method_8_code
def y_pr_delete : MethodName := ⟨"HashHallModel$Pairs", "delete", "(I)V"⟩
abbrev b_pr_delete : ByteArray := prog_5_method_9_code
def y_md_take : MethodName := ⟨"HashHallModel", "take", "(III)Z"⟩
abbrev b_md_take : ByteArray := prog_4_method_9_code
def y_md_has : MethodName := ⟨"HashHallModel", "has", "(III)Z"⟩
abbrev b_md_has : ByteArray := prog_4_method_10_code
def y_md_size : MethodName := ⟨"HashHallModel", "size", "(I)I"⟩
abbrev b_md_size : ByteArray := prog_4_method_11_code
def y_md_clear : MethodName := ⟨"HashHallModel", "clear", "(I)I"⟩
abbrev b_md_clear : ByteArray := prog_4_method_12_code
def y_pr_clear : MethodName := ⟨"HashHallModel$Pairs", "clear", "()V"⟩
abbrev b_pr_clear : ByteArray := prog_5_method_10_code
def y_md_pour : MethodName := ⟨"HashHallModel", "pour", "(II)I"⟩
abbrev b_md_pour : ByteArray := prog_4_method_13_code
def y_md_entry : MethodName := ⟨"HashHallModel", "entry", "(III)J"⟩
abbrev b_md_entry : ByteArray := prog_4_method_14_code
def y_md_sum : MethodName := ⟨"HashHallModel", "sum", "(I)J"⟩
abbrev b_md_sum : ByteArray := prog_4_method_15_code
def y_md_sweep : MethodName := ⟨"HashHallModel", "sweep", "(III)I"⟩
abbrev b_md_sweep : ByteArray := prog_4_method_16_code
def y_md_raise : MethodName := ⟨"HashHallModel", "raise", "(II)I"⟩
abbrev b_md_raise : ByteArray := prog_4_method_17_code
def y_md_same : MethodName := ⟨"HashHallModel", "same", "(II)Z"⟩
abbrev b_md_same : ByteArray := prog_4_method_18_code
def y_md_fill : MethodName := ⟨"HashHallModel", "fill", "(IIII)I"⟩
abbrev b_md_fill : ByteArray := prog_4_method_19_code
theorem ks_hh_tableOf : Cond.selects "HashHall" y_hh_tableOf y_hh_tableOf ∈ al := al_at 0 (by decide +kernel) (by decide +kernel)
theorem ks_tb_slotOf : Cond.selects "HashHall$Table" y_tb_slotOf y_tb_slotOf ∈ al := al_at 1 (by decide +kernel) (by decide +kernel)
theorem ks_tb_headOf : Cond.selects "HashHall$Table" y_tb_headOf y_tb_headOf ∈ al := al_at 2 (by decide +kernel) (by decide +kernel)
theorem ks_tb_insert : Cond.selects "HashHall$Table" y_tb_insert y_tb_insert ∈ al := al_at 3 (by decide +kernel) (by decide +kernel)
theorem ks_tb_grow : Cond.selects "HashHall$Table" y_tb_grow y_tb_grow ∈ al := al_at 4 (by decide +kernel) (by decide +kernel)
theorem ks_tb_hook : Cond.selects "HashHall$Table" y_tb_hook y_tb_hook ∈ al := al_at 5 (by decide +kernel) (by decide +kernel)
theorem ks_tb_freeSlot : Cond.selects "HashHall$Table" y_tb_freeSlot y_tb_freeSlot ∈ al := al_at 6 (by decide +kernel) (by decide +kernel)
theorem ks_tb_linkLast : Cond.selects "HashHall$Table" y_tb_linkLast y_tb_linkLast ∈ al := al_at 7 (by decide +kernel) (by decide +kernel)
theorem ks_tb_use : Cond.selects "HashHall$Table" y_tb_use y_tb_use ∈ al := al_at 8 (by decide +kernel) (by decide +kernel)
theorem ks_tb_unlink : Cond.selects "HashHall$Table" y_tb_unlink y_tb_unlink ∈ al := al_at 9 (by decide +kernel) (by decide +kernel)
theorem ks_tb_drop : Cond.selects "HashHall$Table" y_tb_drop y_tb_drop ∈ al := al_at 10 (by decide +kernel) (by decide +kernel)
theorem ks_tb_unhook : Cond.selects "HashHall$Table" y_tb_unhook y_tb_unhook ∈ al := al_at 11 (by decide +kernel) (by decide +kernel)
theorem ks_pr_rankOf : Cond.selects "HashHallModel$Pairs" y_pr_rankOf y_pr_rankOf ∈ al := al_at 12 (by decide +kernel) (by decide +kernel)
theorem ks_pr_grow : Cond.selects "HashHallModel$Pairs" y_pr_grow y_pr_grow ∈ al := al_at 13 (by decide +kernel) (by decide +kernel)
theorem ks_pr_link : Cond.selects "HashHallModel$Pairs" y_pr_link y_pr_link ∈ al := al_at 14 (by decide +kernel) (by decide +kernel)
theorem ks_md_use : Cond.selects "HashHallModel" y_md_use y_md_use ∈ al := al_at 15 (by decide +kernel) (by decide +kernel)
theorem ks_pr_unlink : Cond.selects "HashHallModel$Pairs" y_pr_unlink y_pr_unlink ∈ al := al_at 16 (by decide +kernel) (by decide +kernel)
theorem kn_lw : Cond.initialized "HashHallLaw" ∈ al := al_at 17 (by decide +kernel) (by decide +kernel)
theorem kn_hh : Cond.initialized "HashHall" ∈ al := al_at 18 (by decide +kernel) (by decide +kernel)
theorem kn_tb : Cond.initialized "HashHall$Table" ∈ al := al_at 19 (by decide +kernel) (by decide +kernel)
theorem kn_md : Cond.initialized "HashHallModel" ∈ al := al_at 20 (by decide +kernel) (by decide +kernel)
theorem kn_pr : Cond.initialized "HashHallModel$Pairs" ∈ al := al_at 21 (by decide +kernel) (by decide +kernel)
theorem kn_ja : Cond.initialized "java/util/Arrays" ∈ al := al_at 22 (by decide +kernel) (by decide +kernel)
theorem kn_jm : Cond.initialized "java/lang/Math" ∈ al := al_at 23 (by decide +kernel) (by decide +kernel)
theorem kn_js : Cond.initialized "java/lang/System" ∈ al := al_at 24 (by decide +kernel) (by decide +kernel)
theorem kl_lw_7 : Cond.classLink "HashHallLaw" 7 "HashHall" ∈ al := al_at 25 (by decide +kernel) (by decide +kernel)
theorem kb_hh : Cond.instantiable "HashHall" 1 ∈ al := al_at 26 (by decide +kernel) (by decide +kernel)
theorem km_lw_9 : Cond.methodLink "HashHallLaw" 9 y_hh_init ∈ al := al_at 27 (by decide +kernel) (by decide +kernel)
theorem ki_hh_init : Cond.instanceMethod y_hh_init ∈ al := al_at 28 (by decide +kernel) (by decide +kernel)
theorem kc_hh_init : Cond.code y_hh_init b_hh_init 2 (none) ∈ al := al_at 29 (by decide +kernel) (by decide +kernel)
theorem km_hh_3 : Cond.methodLink "HashHall" 3 objectInit ∈ al := al_at 30 (by decide +kernel) (by decide +kernel)
theorem ki_jo_init : Cond.instanceMethod objectInit ∈ al := al_at 31 (by decide +kernel) (by decide +kernel)
theorem kc_jo_init : Cond.code objectInit ⟨#[0xb1]⟩ 1 none ∈ al := al_at 32 (by decide +kernel) (by decide +kernel)
theorem kl_hh_9 : Cond.classLink "HashHall" 9 "HashHall$Table" ∈ al := al_at 33 (by decide +kernel) (by decide +kernel)
theorem kb_tb : Cond.instantiable "HashHall$Table" 10 ∈ al := al_at 35 (by decide +kernel) (by decide +kernel)
theorem km_hh_15 : Cond.methodLink "HashHall" 15 y_tb_init ∈ al := al_at 36 (by decide +kernel) (by decide +kernel)
theorem ki_tb_init : Cond.instanceMethod y_tb_init ∈ al := al_at 37 (by decide +kernel) (by decide +kernel)
theorem kc_tb_init : Cond.code y_tb_init b_tb_init 2 (none) ∈ al := al_at 38 (by decide +kernel) (by decide +kernel)
theorem km_tb_3 : Cond.methodLink "HashHall$Table" 3 objectInit ∈ al := al_at 39 (by decide +kernel) (by decide +kernel)
theorem kf_tb_9 : Cond.fieldLink "HashHall$Table" 9 "HashHall$Table" "movesOnUse" "Z" ∈ al := al_at 40 (by decide +kernel) (by decide +kernel)
theorem kf_tb_52 : Cond.fieldLink "HashHall$Table" 52 "HashHall$Table" "count" "I" ∈ al := al_at 41 (by decide +kernel) (by decide +kernel)
theorem kf_hh_51 : Cond.fieldLink "HashHall" 51 "HashHall$Table" "count" "I" ∈ al := al_at 42 (by decide +kernel) (by decide +kernel)
theorem kf_tb_15 : Cond.fieldLink "HashHall$Table" 15 "HashHall$Table" "keys" "[I" ∈ al := al_at 43 (by decide +kernel) (by decide +kernel)
theorem kf_hh_71 : Cond.fieldLink "HashHall" 71 "HashHall$Table" "keys" "[I" ∈ al := al_at 44 (by decide +kernel) (by decide +kernel)
theorem kf_tb_19 : Cond.fieldLink "HashHall$Table" 19 "HashHall$Table" "values" "[I" ∈ al := al_at 45 (by decide +kernel) (by decide +kernel)
theorem kf_hh_75 : Cond.fieldLink "HashHall" 75 "HashHall$Table" "values" "[I" ∈ al := al_at 46 (by decide +kernel) (by decide +kernel)
theorem kf_tb_22 : Cond.fieldLink "HashHall$Table" 22 "HashHall$Table" "before" "[I" ∈ al := al_at 47 (by decide +kernel) (by decide +kernel)
theorem kf_tb_25 : Cond.fieldLink "HashHall$Table" 25 "HashHall$Table" "after" "[I" ∈ al := al_at 48 (by decide +kernel) (by decide +kernel)
theorem kf_tb_28 : Cond.fieldLink "HashHall$Table" 28 "HashHall$Table" "heads" "[I" ∈ al := al_at 49 (by decide +kernel) (by decide +kernel)
theorem kf_tb_31 : Cond.fieldLink "HashHall$Table" 31 "HashHall$Table" "chain" "[I" ∈ al := al_at 50 (by decide +kernel) (by decide +kernel)
theorem kf_tb_75 : Cond.fieldLink "HashHall$Table" 75 "HashHall$Table" "firstLeft" "I" ∈ al := al_at 51 (by decide +kernel) (by decide +kernel)
theorem kf_tb_78 : Cond.fieldLink "HashHall$Table" 78 "HashHall$Table" "lastMade" "I" ∈ al := al_at 52 (by decide +kernel) (by decide +kernel)
theorem ka_int : Cond.arrayClass .int ∈ al := al_at 74 (by decide +kernel) (by decide +kernel)
theorem kf_hh_11 : Cond.fieldLink "HashHall" 11 "HashHall" "tables" "[LHashHall$Table;" ∈ al := al_at 75 (by decide +kernel) (by decide +kernel)
theorem km_lw_13 : Cond.methodLink "HashHallLaw" 13 y_hh_put ∈ al := al_at 79 (by decide +kernel) (by decide +kernel)
theorem ki_hh_put : Cond.instanceMethod y_hh_put ∈ al := al_at 80 (by decide +kernel) (by decide +kernel)
theorem ks_hh_put : Cond.selects "HashHall" y_hh_put y_hh_put ∈ al := al_at 81 (by decide +kernel) (by decide +kernel)
theorem kc_hh_put : Cond.code y_hh_put b_hh_put 5 (some .long) ∈ al := al_at 82 (by decide +kernel) (by decide +kernel)
theorem km_hh_18 : Cond.methodLink "HashHall" 18 y_hh_tableOf ∈ al := al_at 83 (by decide +kernel) (by decide +kernel)
theorem ki_hh_tableOf : Cond.instanceMethod y_hh_tableOf ∈ al := al_at 85 (by decide +kernel) (by decide +kernel)
theorem kc_hh_tableOf : Cond.code y_hh_tableOf b_hh_tableOf 2 (some (.object "HashHall$Table")) ∈ al := al_at 86 (by decide +kernel) (by decide +kernel)
theorem kk_hh_22 : Cond.constantLong "HashHall" 22 (1099511627777) ∈ al := al_at 87 (by decide +kernel) (by decide +kernel)
theorem km_hh_24 : Cond.methodLink "HashHall" 24 y_tb_store ∈ al := al_at 88 (by decide +kernel) (by decide +kernel)
theorem ki_tb_store : Cond.instanceMethod y_tb_store ∈ al := al_at 89 (by decide +kernel) (by decide +kernel)
theorem ks_tb_store : Cond.selects "HashHall$Table" y_tb_store y_tb_store ∈ al := al_at 90 (by decide +kernel) (by decide +kernel)
theorem kc_tb_store : Cond.code y_tb_store b_tb_store 6 (some .long) ∈ al := al_at 91 (by decide +kernel) (by decide +kernel)
theorem km_tb_34 : Cond.methodLink "HashHall$Table" 34 y_tb_slotOf ∈ al := al_at 92 (by decide +kernel) (by decide +kernel)
theorem ki_tb_slotOf : Cond.instanceMethod y_tb_slotOf ∈ al := al_at 94 (by decide +kernel) (by decide +kernel)
theorem kc_tb_slotOf : Cond.code y_tb_slotOf b_tb_slotOf 4 (some .int) ∈ al := al_at 95 (by decide +kernel) (by decide +kernel)
theorem km_tb_87 : Cond.methodLink "HashHall$Table" 87 y_tb_headOf ∈ al := al_at 96 (by decide +kernel) (by decide +kernel)
theorem ki_tb_headOf : Cond.instanceMethod y_tb_headOf ∈ al := al_at 98 (by decide +kernel) (by decide +kernel)
theorem kc_tb_headOf : Cond.code y_tb_headOf b_tb_headOf 3 (some .int) ∈ al := al_at 99 (by decide +kernel) (by decide +kernel)
theorem kk_tb_90 : Cond.constant "HashHall$Table" 90 (-1640531527) ∈ al := al_at 100 (by decide +kernel) (by decide +kernel)
theorem km_tb_38 : Cond.methodLink "HashHall$Table" 38 y_tb_insert ∈ al := al_at 101 (by decide +kernel) (by decide +kernel)
theorem ki_tb_insert : Cond.instanceMethod y_tb_insert ∈ al := al_at 103 (by decide +kernel) (by decide +kernel)
theorem kc_tb_insert : Cond.code y_tb_insert b_tb_insert 4 (none) ∈ al := al_at 104 (by decide +kernel) (by decide +kernel)
theorem km_tb_91 : Cond.methodLink "HashHall$Table" 91 y_tb_grow ∈ al := al_at 105 (by decide +kernel) (by decide +kernel)
theorem ki_tb_grow : Cond.instanceMethod y_tb_grow ∈ al := al_at 107 (by decide +kernel) (by decide +kernel)
theorem kc_tb_grow : Cond.code y_tb_grow b_tb_grow 3 (none) ∈ al := al_at 108 (by decide +kernel) (by decide +kernel)
theorem km_tb_110 : Cond.methodLink "HashHall$Table" 110 y_ja_copyOf ∈ al := al_at 109 (by decide +kernel) (by decide +kernel)
theorem kt_ja_copyOf : Cond.static y_ja_copyOf ∈ al := al_at 110 (by decide +kernel) (by decide +kernel)
theorem kc_ja_copyOf : Cond.code y_ja_copyOf b_ja_copyOf 3 (some (.array .int)) ∈ al := al_at 111 (by decide +kernel) (by decide +kernel)
theorem km_ja_316 : Cond.methodLink "java/util/Arrays" 316 ⟨"[I", "clone", "()Ljava/lang/Object;"⟩ ∈ al := al_at 112 (by decide +kernel) (by decide +kernel)
theorem kv_jo_clone : Cond.native ⟨"java/lang/Object", "clone", "()Ljava/lang/Object;"⟩ ∈ al := al_at 114 (by decide +kernel) (by decide +kernel)
theorem ki_jo_clone : Cond.instanceMethod ⟨"java/lang/Object", "clone", "()Ljava/lang/Object;"⟩ ∈ al := al_at 115 (by decide +kernel) (by decide +kernel)
theorem ks_jai_jai_clone : Cond.selects "[I" ⟨"[I", "clone", "()Ljava/lang/Object;"⟩ ⟨"java/lang/Object", "clone", "()Ljava/lang/Object;"⟩ ∈ al := al_at 116 (by decide +kernel) (by decide +kernel)
theorem kl_ja_317 : Cond.classLink "java/util/Arrays" 317 "[I" ∈ al := al_at 118 (by decide +kernel) (by decide +kernel)
theorem km_ja_304 : Cond.methodLink "java/util/Arrays" 304 Lib.Math.min.name ∈ al := al_at 119 (by decide +kernel) (by decide +kernel)
theorem kt_jm_min : Cond.static Lib.Math.min.name ∈ al := al_at 120 (by decide +kernel) (by decide +kernel)
theorem kc_jm_min : Cond.code y_jm_min b_jm_min 2 (some .int) ∈ al := al_at 121 (by decide +kernel) (by decide +kernel)
theorem km_ja_150 : Cond.methodLink "java/util/Arrays" 150 arraycopyName ∈ al := al_at 122 (by decide +kernel) (by decide +kernel)
theorem kt_js_arraycopy : Cond.static arraycopyName ∈ al := al_at 123 (by decide +kernel) (by decide +kernel)
theorem kv_js_arraycopy : Cond.native arraycopyName ∈ al := al_at 124 (by decide +kernel) (by decide +kernel)
theorem km_tb_98 : Cond.methodLink "HashHall$Table" 98 y_tb_hook ∈ al := al_at 125 (by decide +kernel) (by decide +kernel)
theorem ki_tb_hook : Cond.instanceMethod y_tb_hook ∈ al := al_at 127 (by decide +kernel) (by decide +kernel)
theorem kc_tb_hook : Cond.code y_tb_hook b_tb_hook 3 (none) ∈ al := al_at 128 (by decide +kernel) (by decide +kernel)
theorem km_tb_94 : Cond.methodLink "HashHall$Table" 94 y_tb_freeSlot ∈ al := al_at 129 (by decide +kernel) (by decide +kernel)
theorem ki_tb_freeSlot : Cond.instanceMethod y_tb_freeSlot ∈ al := al_at 131 (by decide +kernel) (by decide +kernel)
theorem kc_tb_freeSlot : Cond.code y_tb_freeSlot b_tb_freeSlot 2 (some .int) ∈ al := al_at 132 (by decide +kernel) (by decide +kernel)
theorem km_tb_101 : Cond.methodLink "HashHall$Table" 101 y_tb_linkLast ∈ al := al_at 133 (by decide +kernel) (by decide +kernel)
theorem ki_tb_linkLast : Cond.instanceMethod y_tb_linkLast ∈ al := al_at 135 (by decide +kernel) (by decide +kernel)
theorem kc_tb_linkLast : Cond.code y_tb_linkLast b_tb_linkLast 3 (none) ∈ al := al_at 136 (by decide +kernel) (by decide +kernel)
theorem kk_tb_42 : Cond.constantLong "HashHall$Table" 42 (1099511627776) ∈ al := al_at 137 (by decide +kernel) (by decide +kernel)
theorem km_tb_44 : Cond.methodLink "HashHall$Table" 44 y_tb_use ∈ al := al_at 138 (by decide +kernel) (by decide +kernel)
theorem ki_tb_use : Cond.instanceMethod y_tb_use ∈ al := al_at 140 (by decide +kernel) (by decide +kernel)
theorem kc_tb_use : Cond.code y_tb_use b_tb_use 2 (none) ∈ al := al_at 141 (by decide +kernel) (by decide +kernel)
theorem km_tb_107 : Cond.methodLink "HashHall$Table" 107 y_tb_unlink ∈ al := al_at 142 (by decide +kernel) (by decide +kernel)
theorem ki_tb_unlink : Cond.instanceMethod y_tb_unlink ∈ al := al_at 144 (by decide +kernel) (by decide +kernel)
theorem kc_tb_unlink : Cond.code y_tb_unlink b_tb_unlink 2 (none) ∈ al := al_at 145 (by decide +kernel) (by decide +kernel)
theorem km_lw_18 : Cond.methodLink "HashHallLaw" 18 y_hh_add ∈ al := al_at 146 (by decide +kernel) (by decide +kernel)
theorem ki_hh_add : Cond.instanceMethod y_hh_add ∈ al := al_at 147 (by decide +kernel) (by decide +kernel)
theorem ks_hh_add : Cond.selects "HashHall" y_hh_add y_hh_add ∈ al := al_at 148 (by decide +kernel) (by decide +kernel)
theorem kc_hh_add : Cond.code y_hh_add b_hh_add 5 (some .long) ∈ al := al_at 149 (by decide +kernel) (by decide +kernel)
theorem km_hh_28 : Cond.methodLink "HashHall" 28 y_tb_storeIfNew ∈ al := al_at 150 (by decide +kernel) (by decide +kernel)
theorem ki_tb_storeIfNew : Cond.instanceMethod y_tb_storeIfNew ∈ al := al_at 151 (by decide +kernel) (by decide +kernel)
theorem ks_tb_storeIfNew : Cond.selects "HashHall$Table" y_tb_storeIfNew y_tb_storeIfNew ∈ al := al_at 152 (by decide +kernel) (by decide +kernel)
theorem kc_tb_storeIfNew : Cond.code y_tb_storeIfNew b_tb_storeIfNew 5 (some .long) ∈ al := al_at 153 (by decide +kernel) (by decide +kernel)
theorem km_tb_48 : Cond.methodLink "HashHall$Table" 48 y_tb_lookUp ∈ al := al_at 154 (by decide +kernel) (by decide +kernel)
theorem ki_tb_lookUp : Cond.instanceMethod y_tb_lookUp ∈ al := al_at 155 (by decide +kernel) (by decide +kernel)
theorem ks_tb_lookUp : Cond.selects "HashHall$Table" y_tb_lookUp y_tb_lookUp ∈ al := al_at 156 (by decide +kernel) (by decide +kernel)
theorem kc_tb_lookUp : Cond.code y_tb_lookUp b_tb_lookUp 3 (some .long) ∈ al := al_at 157 (by decide +kernel) (by decide +kernel)
theorem km_lw_22 : Cond.methodLink "HashHallLaw" 22 y_hh_get ∈ al := al_at 158 (by decide +kernel) (by decide +kernel)
theorem ki_hh_get : Cond.instanceMethod y_hh_get ∈ al := al_at 159 (by decide +kernel) (by decide +kernel)
theorem ks_hh_get : Cond.selects "HashHall" y_hh_get y_hh_get ∈ al := al_at 160 (by decide +kernel) (by decide +kernel)
theorem kc_hh_get : Cond.code y_hh_get b_hh_get 4 (some .long) ∈ al := al_at 161 (by decide +kernel) (by decide +kernel)
theorem km_hh_31 : Cond.methodLink "HashHall" 31 y_tb_lookUp ∈ al := al_at 162 (by decide +kernel) (by decide +kernel)
theorem km_lw_27 : Cond.methodLink "HashHallLaw" 27 y_hh_give ∈ al := al_at 163 (by decide +kernel) (by decide +kernel)
theorem ki_hh_give : Cond.instanceMethod y_hh_give ∈ al := al_at 164 (by decide +kernel) (by decide +kernel)
theorem ks_hh_give : Cond.selects "HashHall" y_hh_give y_hh_give ∈ al := al_at 165 (by decide +kernel) (by decide +kernel)
theorem kc_hh_give : Cond.code y_hh_give b_hh_give 7 (some .long) ∈ al := al_at 166 (by decide +kernel) (by decide +kernel)
theorem kk_hh_35 : Cond.constantLong "HashHall" 35 (1099511627776) ∈ al := al_at 167 (by decide +kernel) (by decide +kernel)
theorem km_lw_31 : Cond.methodLink "HashHallLaw" 31 y_hh_remove ∈ al := al_at 168 (by decide +kernel) (by decide +kernel)
theorem ki_hh_remove : Cond.instanceMethod y_hh_remove ∈ al := al_at 169 (by decide +kernel) (by decide +kernel)
theorem ks_hh_remove : Cond.selects "HashHall" y_hh_remove y_hh_remove ∈ al := al_at 170 (by decide +kernel) (by decide +kernel)
theorem kc_hh_remove : Cond.code y_hh_remove b_hh_remove 4 (some .long) ∈ al := al_at 171 (by decide +kernel) (by decide +kernel)
theorem km_hh_37 : Cond.methodLink "HashHall" 37 y_tb_dropKey ∈ al := al_at 172 (by decide +kernel) (by decide +kernel)
theorem ki_tb_dropKey : Cond.instanceMethod y_tb_dropKey ∈ al := al_at 173 (by decide +kernel) (by decide +kernel)
theorem ks_tb_dropKey : Cond.selects "HashHall$Table" y_tb_dropKey y_tb_dropKey ∈ al := al_at 174 (by decide +kernel) (by decide +kernel)
theorem kc_tb_dropKey : Cond.code y_tb_dropKey b_tb_dropKey 5 (some .long) ∈ al := al_at 175 (by decide +kernel) (by decide +kernel)
theorem km_tb_60 : Cond.methodLink "HashHall$Table" 60 y_tb_drop ∈ al := al_at 176 (by decide +kernel) (by decide +kernel)
theorem ki_tb_drop : Cond.instanceMethod y_tb_drop ∈ al := al_at 178 (by decide +kernel) (by decide +kernel)
theorem kc_tb_drop : Cond.code y_tb_drop b_tb_drop 2 (none) ∈ al := al_at 179 (by decide +kernel) (by decide +kernel)
theorem km_tb_104 : Cond.methodLink "HashHall$Table" 104 y_tb_unhook ∈ al := al_at 180 (by decide +kernel) (by decide +kernel)
theorem ki_tb_unhook : Cond.instanceMethod y_tb_unhook ∈ al := al_at 182 (by decide +kernel) (by decide +kernel)
theorem kc_tb_unhook : Cond.code y_tb_unhook b_tb_unhook 5 (none) ∈ al := al_at 183 (by decide +kernel) (by decide +kernel)
theorem km_lw_35 : Cond.methodLink "HashHallLaw" 35 y_hh_take ∈ al := al_at 184 (by decide +kernel) (by decide +kernel)
theorem ki_hh_take : Cond.instanceMethod y_hh_take ∈ al := al_at 185 (by decide +kernel) (by decide +kernel)
theorem ks_hh_take : Cond.selects "HashHall" y_hh_take y_hh_take ∈ al := al_at 186 (by decide +kernel) (by decide +kernel)
theorem kc_hh_take : Cond.code y_hh_take b_hh_take 5 (some .boolean) ∈ al := al_at 187 (by decide +kernel) (by decide +kernel)
theorem km_hh_40 : Cond.methodLink "HashHall" 40 y_tb_dropPair ∈ al := al_at 188 (by decide +kernel) (by decide +kernel)
theorem ki_tb_dropPair : Cond.instanceMethod y_tb_dropPair ∈ al := al_at 189 (by decide +kernel) (by decide +kernel)
theorem ks_tb_dropPair : Cond.selects "HashHall$Table" y_tb_dropPair y_tb_dropPair ∈ al := al_at 190 (by decide +kernel) (by decide +kernel)
theorem kc_tb_dropPair : Cond.code y_tb_dropPair b_tb_dropPair 4 (some .boolean) ∈ al := al_at 191 (by decide +kernel) (by decide +kernel)
theorem km_lw_40 : Cond.methodLink "HashHallLaw" 40 y_hh_has ∈ al := al_at 192 (by decide +kernel) (by decide +kernel)
theorem ki_hh_has : Cond.instanceMethod y_hh_has ∈ al := al_at 193 (by decide +kernel) (by decide +kernel)
theorem ks_hh_has : Cond.selects "HashHall" y_hh_has y_hh_has ∈ al := al_at 194 (by decide +kernel) (by decide +kernel)
theorem kc_hh_has : Cond.code y_hh_has b_hh_has 5 (some .boolean) ∈ al := al_at 195 (by decide +kernel) (by decide +kernel)
theorem km_hh_44 : Cond.methodLink "HashHall" 44 y_tb_holdsKey ∈ al := al_at 196 (by decide +kernel) (by decide +kernel)
theorem ki_tb_holdsKey : Cond.instanceMethod y_tb_holdsKey ∈ al := al_at 197 (by decide +kernel) (by decide +kernel)
theorem ks_tb_holdsKey : Cond.selects "HashHall$Table" y_tb_holdsKey y_tb_holdsKey ∈ al := al_at 198 (by decide +kernel) (by decide +kernel)
theorem kc_tb_holdsKey : Cond.code y_tb_holdsKey b_tb_holdsKey 2 (some .boolean) ∈ al := al_at 199 (by decide +kernel) (by decide +kernel)
theorem km_hh_48 : Cond.methodLink "HashHall" 48 y_tb_holdsValue ∈ al := al_at 200 (by decide +kernel) (by decide +kernel)
theorem ki_tb_holdsValue : Cond.instanceMethod y_tb_holdsValue ∈ al := al_at 201 (by decide +kernel) (by decide +kernel)
theorem ks_tb_holdsValue : Cond.selects "HashHall$Table" y_tb_holdsValue y_tb_holdsValue ∈ al := al_at 202 (by decide +kernel) (by decide +kernel)
theorem kc_tb_holdsValue : Cond.code y_tb_holdsValue b_tb_holdsValue 4 (some .boolean) ∈ al := al_at 203 (by decide +kernel) (by decide +kernel)
theorem km_lw_44 : Cond.methodLink "HashHallLaw" 44 y_hh_size ∈ al := al_at 204 (by decide +kernel) (by decide +kernel)
theorem ki_hh_size : Cond.instanceMethod y_hh_size ∈ al := al_at 205 (by decide +kernel) (by decide +kernel)
theorem ks_hh_size : Cond.selects "HashHall" y_hh_size y_hh_size ∈ al := al_at 206 (by decide +kernel) (by decide +kernel)
theorem kc_hh_size : Cond.code y_hh_size b_hh_size 3 (some .int) ∈ al := al_at 207 (by decide +kernel) (by decide +kernel)
theorem km_lw_49 : Cond.methodLink "HashHallLaw" 49 y_hh_clear ∈ al := al_at 208 (by decide +kernel) (by decide +kernel)
theorem ki_hh_clear : Cond.instanceMethod y_hh_clear ∈ al := al_at 209 (by decide +kernel) (by decide +kernel)
theorem ks_hh_clear : Cond.selects "HashHall" y_hh_clear y_hh_clear ∈ al := al_at 210 (by decide +kernel) (by decide +kernel)
theorem kc_hh_clear : Cond.code y_hh_clear b_hh_clear 3 (some .int) ∈ al := al_at 211 (by decide +kernel) (by decide +kernel)
theorem km_hh_55 : Cond.methodLink "HashHall" 55 y_tb_dropAll ∈ al := al_at 212 (by decide +kernel) (by decide +kernel)
theorem ki_tb_dropAll : Cond.instanceMethod y_tb_dropAll ∈ al := al_at 213 (by decide +kernel) (by decide +kernel)
theorem ks_tb_dropAll : Cond.selects "HashHall$Table" y_tb_dropAll y_tb_dropAll ∈ al := al_at 214 (by decide +kernel) (by decide +kernel)
theorem kc_tb_dropAll : Cond.code y_tb_dropAll b_tb_dropAll 2 (some .int) ∈ al := al_at 215 (by decide +kernel) (by decide +kernel)
theorem km_tb_69 : Cond.methodLink "HashHall$Table" 69 y_ja_fill ∈ al := al_at 216 (by decide +kernel) (by decide +kernel)
theorem kt_ja_fill : Cond.static y_ja_fill ∈ al := al_at 217 (by decide +kernel) (by decide +kernel)
theorem kc_ja_fill : Cond.code y_ja_fill b_ja_fill 4 (none) ∈ al := al_at 218 (by decide +kernel) (by decide +kernel)
theorem km_lw_53 : Cond.methodLink "HashHallLaw" 53 y_hh_pour ∈ al := al_at 219 (by decide +kernel) (by decide +kernel)
theorem ki_hh_pour : Cond.instanceMethod y_hh_pour ∈ al := al_at 220 (by decide +kernel) (by decide +kernel)
theorem ks_hh_pour : Cond.selects "HashHall" y_hh_pour y_hh_pour ∈ al := al_at 221 (by decide +kernel) (by decide +kernel)
theorem kc_hh_pour : Cond.code y_hh_pour b_hh_pour 5 (some .int) ∈ al := al_at 222 (by decide +kernel) (by decide +kernel)
theorem km_hh_59 : Cond.methodLink "HashHall" 59 y_tb_holdsKeysOf ∈ al := al_at 223 (by decide +kernel) (by decide +kernel)
theorem ki_tb_holdsKeysOf : Cond.instanceMethod y_tb_holdsKeysOf ∈ al := al_at 224 (by decide +kernel) (by decide +kernel)
theorem ks_tb_holdsKeysOf : Cond.selects "HashHall$Table" y_tb_holdsKeysOf y_tb_holdsKeysOf ∈ al := al_at 225 (by decide +kernel) (by decide +kernel)
theorem kc_tb_holdsKeysOf : Cond.code y_tb_holdsKeysOf b_tb_holdsKeysOf 4 (some .boolean) ∈ al := al_at 226 (by decide +kernel) (by decide +kernel)
theorem km_tb_81 : Cond.methodLink "HashHall$Table" 81 y_tb_holdsKey ∈ al := al_at 227 (by decide +kernel) (by decide +kernel)
theorem km_hh_63 : Cond.methodLink "HashHall" 63 y_tb_storeAllOf ∈ al := al_at 228 (by decide +kernel) (by decide +kernel)
theorem ki_tb_storeAllOf : Cond.instanceMethod y_tb_storeAllOf ∈ al := al_at 229 (by decide +kernel) (by decide +kernel)
theorem ks_tb_storeAllOf : Cond.selects "HashHall$Table" y_tb_storeAllOf y_tb_storeAllOf ∈ al := al_at 230 (by decide +kernel) (by decide +kernel)
theorem kc_tb_storeAllOf : Cond.code y_tb_storeAllOf b_tb_storeAllOf 5 (none) ∈ al := al_at 231 (by decide +kernel) (by decide +kernel)
theorem km_tb_56 : Cond.methodLink "HashHall$Table" 56 y_tb_store ∈ al := al_at 232 (by decide +kernel) (by decide +kernel)
theorem km_lw_58 : Cond.methodLink "HashHallLaw" 58 y_hh_entry ∈ al := al_at 233 (by decide +kernel) (by decide +kernel)
theorem ki_hh_entry : Cond.instanceMethod y_hh_entry ∈ al := al_at 234 (by decide +kernel) (by decide +kernel)
theorem ks_hh_entry : Cond.selects "HashHall" y_hh_entry y_hh_entry ∈ al := al_at 235 (by decide +kernel) (by decide +kernel)
theorem kc_hh_entry : Cond.code y_hh_entry b_hh_entry 6 (some .long) ∈ al := al_at 236 (by decide +kernel) (by decide +kernel)
theorem km_hh_67 : Cond.methodLink "HashHall" 67 y_tb_slotAt ∈ al := al_at 237 (by decide +kernel) (by decide +kernel)
theorem ki_tb_slotAt : Cond.instanceMethod y_tb_slotAt ∈ al := al_at 238 (by decide +kernel) (by decide +kernel)
theorem ks_tb_slotAt : Cond.selects "HashHall$Table" y_tb_slotAt y_tb_slotAt ∈ al := al_at 239 (by decide +kernel) (by decide +kernel)
theorem kc_tb_slotAt : Cond.code y_tb_slotAt b_tb_slotAt 4 (some .int) ∈ al := al_at 240 (by decide +kernel) (by decide +kernel)
theorem km_lw_62 : Cond.methodLink "HashHallLaw" 62 y_hh_sum ∈ al := al_at 241 (by decide +kernel) (by decide +kernel)
theorem ki_hh_sum : Cond.instanceMethod y_hh_sum ∈ al := al_at 242 (by decide +kernel) (by decide +kernel)
theorem ks_hh_sum : Cond.selects "HashHall" y_hh_sum y_hh_sum ∈ al := al_at 243 (by decide +kernel) (by decide +kernel)
theorem kc_hh_sum : Cond.code y_hh_sum b_hh_sum 3 (some .long) ∈ al := al_at 244 (by decide +kernel) (by decide +kernel)
theorem km_hh_78 : Cond.methodLink "HashHall" 78 y_tb_total ∈ al := al_at 245 (by decide +kernel) (by decide +kernel)
theorem ki_tb_total : Cond.instanceMethod y_tb_total ∈ al := al_at 246 (by decide +kernel) (by decide +kernel)
theorem ks_tb_total : Cond.selects "HashHall$Table" y_tb_total y_tb_total ∈ al := al_at 247 (by decide +kernel) (by decide +kernel)
theorem kc_tb_total : Cond.code y_tb_total b_tb_total 5 (some .long) ∈ al := al_at 248 (by decide +kernel) (by decide +kernel)
theorem kk_tb_85 : Cond.constantLong "HashHall$Table" 85 (31) ∈ al := al_at 249 (by decide +kernel) (by decide +kernel)
theorem km_lw_67 : Cond.methodLink "HashHallLaw" 67 y_hh_sweep ∈ al := al_at 250 (by decide +kernel) (by decide +kernel)
theorem ki_hh_sweep : Cond.instanceMethod y_hh_sweep ∈ al := al_at 251 (by decide +kernel) (by decide +kernel)
theorem ks_hh_sweep : Cond.selects "HashHall" y_hh_sweep y_hh_sweep ∈ al := al_at 252 (by decide +kernel) (by decide +kernel)
theorem kc_hh_sweep : Cond.code y_hh_sweep b_hh_sweep 5 (some .int) ∈ al := al_at 253 (by decide +kernel) (by decide +kernel)
theorem km_hh_82 : Cond.methodLink "HashHall" 82 y_tb_dropByRest ∈ al := al_at 254 (by decide +kernel) (by decide +kernel)
theorem ki_tb_dropByRest : Cond.instanceMethod y_tb_dropByRest ∈ al := al_at 255 (by decide +kernel) (by decide +kernel)
theorem ks_tb_dropByRest : Cond.selects "HashHall$Table" y_tb_dropByRest y_tb_dropByRest ∈ al := al_at 256 (by decide +kernel) (by decide +kernel)
theorem kc_tb_dropByRest : Cond.code y_tb_dropByRest b_tb_dropByRest 7 (some .int) ∈ al := al_at 257 (by decide +kernel) (by decide +kernel)
theorem km_tb_63 : Cond.methodLink "HashHall$Table" 63 y_jm_floorMod ∈ al := al_at 258 (by decide +kernel) (by decide +kernel)
theorem kt_jm_floorMod : Cond.static y_jm_floorMod ∈ al := al_at 259 (by decide +kernel) (by decide +kernel)
theorem kc_jm_floorMod : Cond.code y_jm_floorMod b_jm_floorMod 3 (some .int) ∈ al := al_at 260 (by decide +kernel) (by decide +kernel)
theorem km_lw_72 : Cond.methodLink "HashHallLaw" 72 y_hh_raise ∈ al := al_at 261 (by decide +kernel) (by decide +kernel)
theorem ki_hh_raise : Cond.instanceMethod y_hh_raise ∈ al := al_at 262 (by decide +kernel) (by decide +kernel)
theorem ks_hh_raise : Cond.selects "HashHall" y_hh_raise y_hh_raise ∈ al := al_at 263 (by decide +kernel) (by decide +kernel)
theorem kc_hh_raise : Cond.code y_hh_raise b_hh_raise 4 (some .int) ∈ al := al_at 264 (by decide +kernel) (by decide +kernel)
theorem km_hh_86 : Cond.methodLink "HashHall" 86 y_tb_increase ∈ al := al_at 265 (by decide +kernel) (by decide +kernel)
theorem ki_tb_increase : Cond.instanceMethod y_tb_increase ∈ al := al_at 266 (by decide +kernel) (by decide +kernel)
theorem ks_tb_increase : Cond.selects "HashHall$Table" y_tb_increase y_tb_increase ∈ al := al_at 267 (by decide +kernel) (by decide +kernel)
theorem kc_tb_increase : Cond.code y_tb_increase b_tb_increase 4 (some .int) ∈ al := al_at 268 (by decide +kernel) (by decide +kernel)
theorem km_lw_76 : Cond.methodLink "HashHallLaw" 76 y_hh_same ∈ al := al_at 269 (by decide +kernel) (by decide +kernel)
theorem ki_hh_same : Cond.instanceMethod y_hh_same ∈ al := al_at 270 (by decide +kernel) (by decide +kernel)
theorem ks_hh_same : Cond.selects "HashHall" y_hh_same y_hh_same ∈ al := al_at 271 (by decide +kernel) (by decide +kernel)
theorem kc_hh_same : Cond.code y_hh_same b_hh_same 5 (some .boolean) ∈ al := al_at 272 (by decide +kernel) (by decide +kernel)
theorem km_hh_89 : Cond.methodLink "HashHall" 89 y_tb_matches ∈ al := al_at 273 (by decide +kernel) (by decide +kernel)
theorem ki_tb_matches : Cond.instanceMethod y_tb_matches ∈ al := al_at 274 (by decide +kernel) (by decide +kernel)
theorem ks_tb_matches : Cond.selects "HashHall$Table" y_tb_matches y_tb_matches ∈ al := al_at 275 (by decide +kernel) (by decide +kernel)
theorem kc_tb_matches : Cond.code y_tb_matches b_tb_matches 5 (some .boolean) ∈ al := al_at 276 (by decide +kernel) (by decide +kernel)
theorem km_lw_81 : Cond.methodLink "HashHallLaw" 81 y_hh_fill ∈ al := al_at 277 (by decide +kernel) (by decide +kernel)
theorem ki_hh_fill : Cond.instanceMethod y_hh_fill ∈ al := al_at 278 (by decide +kernel) (by decide +kernel)
theorem ks_hh_fill : Cond.selects "HashHall" y_hh_fill y_hh_fill ∈ al := al_at 279 (by decide +kernel) (by decide +kernel)
theorem kc_hh_fill : Cond.code y_hh_fill b_hh_fill 7 (some .int) ∈ al := al_at 280 (by decide +kernel) (by decide +kernel)
theorem kl_lw_10 : Cond.classLink "HashHallLaw" 10 "HashHallModel" ∈ al := al_at 281 (by decide +kernel) (by decide +kernel)
theorem kb_md : Cond.instantiable "HashHallModel" 1 ∈ al := al_at 282 (by decide +kernel) (by decide +kernel)
theorem km_lw_12 : Cond.methodLink "HashHallLaw" 12 y_md_init ∈ al := al_at 283 (by decide +kernel) (by decide +kernel)
theorem ki_md_init : Cond.instanceMethod y_md_init ∈ al := al_at 284 (by decide +kernel) (by decide +kernel)
theorem kc_md_init : Cond.code y_md_init b_md_init 1 (none) ∈ al := al_at 285 (by decide +kernel) (by decide +kernel)
theorem km_md_3 : Cond.methodLink "HashHallModel" 3 objectInit ∈ al := al_at 286 (by decide +kernel) (by decide +kernel)
theorem kl_md_9 : Cond.classLink "HashHallModel" 9 "HashHallModel$Pairs" ∈ al := al_at 287 (by decide +kernel) (by decide +kernel)
theorem kb_pr : Cond.instantiable "HashHallModel$Pairs" 10 ∈ al := al_at 289 (by decide +kernel) (by decide +kernel)
theorem ki_pr_init : Cond.instanceMethod y_pr_init ∈ al := al_at 291 (by decide +kernel) (by decide +kernel)
theorem kc_pr_init : Cond.code y_pr_init b_pr_init 1 (none) ∈ al := al_at 292 (by decide +kernel) (by decide +kernel)
theorem km_pr_1 : Cond.methodLink "HashHallModel$Pairs" 1 objectInit ∈ al := al_at 293 (by decide +kernel) (by decide +kernel)
theorem kf_pr_7 : Cond.fieldLink "HashHallModel$Pairs" 7 "HashHallModel$Pairs" "sorted" "[I" ∈ al := al_at 294 (by decide +kernel) (by decide +kernel)
theorem kf_md_54 : Cond.fieldLink "HashHallModel" 54 "HashHallModel$Pairs" "sorted" "[I" ∈ al := al_at 295 (by decide +kernel) (by decide +kernel)
theorem kf_pr_13 : Cond.fieldLink "HashHallModel$Pairs" 13 "HashHallModel$Pairs" "key" "[I" ∈ al := al_at 296 (by decide +kernel) (by decide +kernel)
theorem kf_md_60 : Cond.fieldLink "HashHallModel" 60 "HashHallModel$Pairs" "key" "[I" ∈ al := al_at 297 (by decide +kernel) (by decide +kernel)
theorem kf_pr_16 : Cond.fieldLink "HashHallModel$Pairs" 16 "HashHallModel$Pairs" "value" "[I" ∈ al := al_at 298 (by decide +kernel) (by decide +kernel)
theorem kf_md_36 : Cond.fieldLink "HashHallModel" 36 "HashHallModel$Pairs" "value" "[I" ∈ al := al_at 299 (by decide +kernel) (by decide +kernel)
theorem kf_pr_19 : Cond.fieldLink "HashHallModel$Pairs" 19 "HashHallModel$Pairs" "before" "[I" ∈ al := al_at 300 (by decide +kernel) (by decide +kernel)
theorem kf_pr_22 : Cond.fieldLink "HashHallModel$Pairs" 22 "HashHallModel$Pairs" "behind" "[I" ∈ al := al_at 301 (by decide +kernel) (by decide +kernel)
theorem kf_md_70 : Cond.fieldLink "HashHallModel" 70 "HashHallModel$Pairs" "behind" "[I" ∈ al := al_at 302 (by decide +kernel) (by decide +kernel)
theorem kf_pr_35 : Cond.fieldLink "HashHallModel$Pairs" 35 "HashHallModel$Pairs" "many" "I" ∈ al := al_at 303 (by decide +kernel) (by decide +kernel)
theorem kf_md_50 : Cond.fieldLink "HashHallModel" 50 "HashHallModel$Pairs" "many" "I" ∈ al := al_at 304 (by decide +kernel) (by decide +kernel)
theorem kf_pr_25 : Cond.fieldLink "HashHallModel$Pairs" 25 "HashHallModel$Pairs" "free" "I" ∈ al := al_at 305 (by decide +kernel) (by decide +kernel)
theorem kf_pr_42 : Cond.fieldLink "HashHallModel$Pairs" 42 "HashHallModel$Pairs" "made" "I" ∈ al := al_at 306 (by decide +kernel) (by decide +kernel)
theorem kf_pr_29 : Cond.fieldLink "HashHallModel$Pairs" 29 "HashHallModel$Pairs" "first" "I" ∈ al := al_at 307 (by decide +kernel) (by decide +kernel)
theorem kf_md_63 : Cond.fieldLink "HashHallModel" 63 "HashHallModel$Pairs" "first" "I" ∈ al := al_at 308 (by decide +kernel) (by decide +kernel)
theorem kf_pr_32 : Cond.fieldLink "HashHallModel$Pairs" 32 "HashHallModel$Pairs" "last" "I" ∈ al := al_at 309 (by decide +kernel) (by decide +kernel)
theorem kf_md_12 : Cond.fieldLink "HashHallModel" 12 "HashHallModel" "map" "[LHashHallModel$Pairs;" ∈ al := al_at 331 (by decide +kernel) (by decide +kernel)
theorem km_lw_17 : Cond.methodLink "HashHallLaw" 17 y_md_put ∈ al := al_at 335 (by decide +kernel) (by decide +kernel)
theorem ki_md_put : Cond.instanceMethod y_md_put ∈ al := al_at 336 (by decide +kernel) (by decide +kernel)
theorem ks_md_put : Cond.selects "HashHallModel" y_md_put y_md_put ∈ al := al_at 337 (by decide +kernel) (by decide +kernel)
theorem kc_md_put : Cond.code y_md_put b_md_put 6 (some .long) ∈ al := al_at 338 (by decide +kernel) (by decide +kernel)
theorem km_md_20 : Cond.methodLink "HashHallModel" 20 y_md_isMap ∈ al := al_at 339 (by decide +kernel) (by decide +kernel)
theorem kt_md_isMap : Cond.static y_md_isMap ∈ al := al_at 340 (by decide +kernel) (by decide +kernel)
theorem kc_md_isMap : Cond.code y_md_isMap b_md_isMap 1 (some .boolean) ∈ al := al_at 341 (by decide +kernel) (by decide +kernel)
theorem kk_md_24 : Cond.constantLong "HashHallModel" 24 (1099511627777) ∈ al := al_at 342 (by decide +kernel) (by decide +kernel)
theorem km_md_26 : Cond.methodLink "HashHallModel" 26 y_pr_find ∈ al := al_at 343 (by decide +kernel) (by decide +kernel)
theorem ki_pr_find : Cond.instanceMethod y_pr_find ∈ al := al_at 344 (by decide +kernel) (by decide +kernel)
theorem ks_pr_find : Cond.selects "HashHallModel$Pairs" y_pr_find y_pr_find ∈ al := al_at 345 (by decide +kernel) (by decide +kernel)
theorem kc_pr_find : Cond.code y_pr_find b_pr_find 3 (some .int) ∈ al := al_at 346 (by decide +kernel) (by decide +kernel)
theorem km_pr_38 : Cond.methodLink "HashHallModel$Pairs" 38 y_pr_rankOf ∈ al := al_at 347 (by decide +kernel) (by decide +kernel)
theorem ki_pr_rankOf : Cond.instanceMethod y_pr_rankOf ∈ al := al_at 349 (by decide +kernel) (by decide +kernel)
theorem kc_pr_rankOf : Cond.code y_pr_rankOf b_pr_rankOf 5 (some .int) ∈ al := al_at 350 (by decide +kernel) (by decide +kernel)
theorem km_md_30 : Cond.methodLink "HashHallModel" 30 y_pr_insert ∈ al := al_at 351 (by decide +kernel) (by decide +kernel)
theorem ki_pr_insert : Cond.instanceMethod y_pr_insert ∈ al := al_at 352 (by decide +kernel) (by decide +kernel)
theorem ks_pr_insert : Cond.selects "HashHallModel$Pairs" y_pr_insert y_pr_insert ∈ al := al_at 353 (by decide +kernel) (by decide +kernel)
theorem kc_pr_insert : Cond.code y_pr_insert b_pr_insert 5 (none) ∈ al := al_at 354 (by decide +kernel) (by decide +kernel)
theorem km_pr_51 : Cond.methodLink "HashHallModel$Pairs" 51 y_pr_grow ∈ al := al_at 355 (by decide +kernel) (by decide +kernel)
theorem ki_pr_grow : Cond.instanceMethod y_pr_grow ∈ al := al_at 357 (by decide +kernel) (by decide +kernel)
theorem kc_pr_grow : Cond.code y_pr_grow b_pr_grow 2 (none) ∈ al := al_at 358 (by decide +kernel) (by decide +kernel)
theorem km_pr_45 : Cond.methodLink "HashHallModel$Pairs" 45 y_ja_copyOf ∈ al := al_at 359 (by decide +kernel) (by decide +kernel)
theorem km_pr_54 : Cond.methodLink "HashHallModel$Pairs" 54 arraycopyName ∈ al := al_at 360 (by decide +kernel) (by decide +kernel)
theorem km_pr_60 : Cond.methodLink "HashHallModel$Pairs" 60 y_pr_link ∈ al := al_at 361 (by decide +kernel) (by decide +kernel)
theorem ki_pr_link : Cond.instanceMethod y_pr_link ∈ al := al_at 363 (by decide +kernel) (by decide +kernel)
theorem kc_pr_link : Cond.code y_pr_link b_pr_link 2 (none) ∈ al := al_at 364 (by decide +kernel) (by decide +kernel)
theorem kk_md_34 : Cond.constantLong "HashHallModel" 34 (1099511627776) ∈ al := al_at 365 (by decide +kernel) (by decide +kernel)
theorem km_md_40 : Cond.methodLink "HashHallModel" 40 y_md_use ∈ al := al_at 366 (by decide +kernel) (by decide +kernel)
theorem ki_md_use : Cond.instanceMethod y_md_use ∈ al := al_at 368 (by decide +kernel) (by decide +kernel)
theorem kc_md_use : Cond.code y_md_use b_md_use 3 (none) ∈ al := al_at 369 (by decide +kernel) (by decide +kernel)
theorem km_md_16 : Cond.methodLink "HashHallModel" 16 y_pr_toLast ∈ al := al_at 370 (by decide +kernel) (by decide +kernel)
theorem ki_pr_toLast : Cond.instanceMethod y_pr_toLast ∈ al := al_at 371 (by decide +kernel) (by decide +kernel)
theorem ks_pr_toLast : Cond.selects "HashHallModel$Pairs" y_pr_toLast y_pr_toLast ∈ al := al_at 372 (by decide +kernel) (by decide +kernel)
theorem kc_pr_toLast : Cond.code y_pr_toLast b_pr_toLast 2 (none) ∈ al := al_at 373 (by decide +kernel) (by decide +kernel)
theorem km_pr_64 : Cond.methodLink "HashHallModel$Pairs" 64 y_pr_unlink ∈ al := al_at 374 (by decide +kernel) (by decide +kernel)
theorem ki_pr_unlink : Cond.instanceMethod y_pr_unlink ∈ al := al_at 376 (by decide +kernel) (by decide +kernel)
theorem kc_pr_unlink : Cond.code y_pr_unlink b_pr_unlink 2 (none) ∈ al := al_at 377 (by decide +kernel) (by decide +kernel)
theorem km_lw_21 : Cond.methodLink "HashHallLaw" 21 y_md_add ∈ al := al_at 378 (by decide +kernel) (by decide +kernel)
theorem ki_md_add : Cond.instanceMethod y_md_add ∈ al := al_at 379 (by decide +kernel) (by decide +kernel)
theorem ks_md_add : Cond.selects "HashHallModel" y_md_add y_md_add ∈ al := al_at 380 (by decide +kernel) (by decide +kernel)
theorem kc_md_add : Cond.code y_md_add b_md_add 5 (some .long) ∈ al := al_at 381 (by decide +kernel) (by decide +kernel)
theorem km_lw_26 : Cond.methodLink "HashHallLaw" 26 y_md_get ∈ al := al_at 382 (by decide +kernel) (by decide +kernel)
theorem ki_md_get : Cond.instanceMethod y_md_get ∈ al := al_at 383 (by decide +kernel) (by decide +kernel)
theorem ks_md_get : Cond.selects "HashHallModel" y_md_get y_md_get ∈ al := al_at 384 (by decide +kernel) (by decide +kernel)
theorem kc_md_get : Cond.code y_md_get b_md_get 4 (some .long) ∈ al := al_at 385 (by decide +kernel) (by decide +kernel)
theorem km_lw_30 : Cond.methodLink "HashHallLaw" 30 y_md_give ∈ al := al_at 386 (by decide +kernel) (by decide +kernel)
theorem ki_md_give : Cond.instanceMethod y_md_give ∈ al := al_at 387 (by decide +kernel) (by decide +kernel)
theorem ks_md_give : Cond.selects "HashHallModel" y_md_give y_md_give ∈ al := al_at 388 (by decide +kernel) (by decide +kernel)
theorem kc_md_give : Cond.code y_md_give b_md_give 6 (some .long) ∈ al := al_at 389 (by decide +kernel) (by decide +kernel)
theorem km_md_43 : Cond.methodLink "HashHallModel" 43 y_md_get ∈ al := al_at 390 (by decide +kernel) (by decide +kernel)
theorem km_lw_34 : Cond.methodLink "HashHallLaw" 34 y_md_remove ∈ al := al_at 391 (by decide +kernel) (by decide +kernel)
theorem ki_md_remove : Cond.instanceMethod y_md_remove ∈ al := al_at 392 (by decide +kernel) (by decide +kernel)
theorem ks_md_remove : Cond.selects "HashHallModel" y_md_remove y_md_remove ∈ al := al_at 393 (by decide +kernel) (by decide +kernel)
theorem kc_md_remove : Cond.code y_md_remove b_md_remove 5 (some .long) ∈ al := al_at 394 (by decide +kernel) (by decide +kernel)
theorem km_md_47 : Cond.methodLink "HashHallModel" 47 y_pr_delete ∈ al := al_at 395 (by decide +kernel) (by decide +kernel)
theorem ki_pr_delete : Cond.instanceMethod y_pr_delete ∈ al := al_at 396 (by decide +kernel) (by decide +kernel)
theorem ks_pr_delete : Cond.selects "HashHallModel$Pairs" y_pr_delete y_pr_delete ∈ al := al_at 397 (by decide +kernel) (by decide +kernel)
theorem kc_pr_delete : Cond.code y_pr_delete b_pr_delete 3 (none) ∈ al := al_at 398 (by decide +kernel) (by decide +kernel)
theorem km_lw_39 : Cond.methodLink "HashHallLaw" 39 y_md_take ∈ al := al_at 399 (by decide +kernel) (by decide +kernel)
theorem ki_md_take : Cond.instanceMethod y_md_take ∈ al := al_at 400 (by decide +kernel) (by decide +kernel)
theorem ks_md_take : Cond.selects "HashHallModel" y_md_take y_md_take ∈ al := al_at 401 (by decide +kernel) (by decide +kernel)
theorem kc_md_take : Cond.code y_md_take b_md_take 5 (some .boolean) ∈ al := al_at 402 (by decide +kernel) (by decide +kernel)
theorem km_lw_43 : Cond.methodLink "HashHallLaw" 43 y_md_has ∈ al := al_at 403 (by decide +kernel) (by decide +kernel)
theorem ki_md_has : Cond.instanceMethod y_md_has ∈ al := al_at 404 (by decide +kernel) (by decide +kernel)
theorem ks_md_has : Cond.selects "HashHallModel" y_md_has y_md_has ∈ al := al_at 405 (by decide +kernel) (by decide +kernel)
theorem kc_md_has : Cond.code y_md_has b_md_has 5 (some .boolean) ∈ al := al_at 406 (by decide +kernel) (by decide +kernel)
theorem km_lw_48 : Cond.methodLink "HashHallLaw" 48 y_md_size ∈ al := al_at 407 (by decide +kernel) (by decide +kernel)
theorem ki_md_size : Cond.instanceMethod y_md_size ∈ al := al_at 408 (by decide +kernel) (by decide +kernel)
theorem ks_md_size : Cond.selects "HashHallModel" y_md_size y_md_size ∈ al := al_at 409 (by decide +kernel) (by decide +kernel)
theorem kc_md_size : Cond.code y_md_size b_md_size 2 (some .int) ∈ al := al_at 410 (by decide +kernel) (by decide +kernel)
theorem km_lw_52 : Cond.methodLink "HashHallLaw" 52 y_md_clear ∈ al := al_at 411 (by decide +kernel) (by decide +kernel)
theorem ki_md_clear : Cond.instanceMethod y_md_clear ∈ al := al_at 412 (by decide +kernel) (by decide +kernel)
theorem ks_md_clear : Cond.selects "HashHallModel" y_md_clear y_md_clear ∈ al := al_at 413 (by decide +kernel) (by decide +kernel)
theorem kc_md_clear : Cond.code y_md_clear b_md_clear 3 (some .int) ∈ al := al_at 414 (by decide +kernel) (by decide +kernel)
theorem km_md_57 : Cond.methodLink "HashHallModel" 57 y_pr_clear ∈ al := al_at 415 (by decide +kernel) (by decide +kernel)
theorem ki_pr_clear : Cond.instanceMethod y_pr_clear ∈ al := al_at 416 (by decide +kernel) (by decide +kernel)
theorem ks_pr_clear : Cond.selects "HashHallModel$Pairs" y_pr_clear y_pr_clear ∈ al := al_at 417 (by decide +kernel) (by decide +kernel)
theorem kc_pr_clear : Cond.code y_pr_clear b_pr_clear 1 (none) ∈ al := al_at 418 (by decide +kernel) (by decide +kernel)
theorem km_lw_57 : Cond.methodLink "HashHallLaw" 57 y_md_pour ∈ al := al_at 419 (by decide +kernel) (by decide +kernel)
theorem ki_md_pour : Cond.instanceMethod y_md_pour ∈ al := al_at 420 (by decide +kernel) (by decide +kernel)
theorem ks_md_pour : Cond.selects "HashHallModel" y_md_pour y_md_pour ∈ al := al_at 421 (by decide +kernel) (by decide +kernel)
theorem kc_md_pour : Cond.code y_md_pour b_md_pour 4 (some .int) ∈ al := al_at 422 (by decide +kernel) (by decide +kernel)
theorem km_md_66 : Cond.methodLink "HashHallModel" 66 y_md_put ∈ al := al_at 423 (by decide +kernel) (by decide +kernel)
theorem km_lw_61 : Cond.methodLink "HashHallLaw" 61 y_md_entry ∈ al := al_at 424 (by decide +kernel) (by decide +kernel)
theorem ki_md_entry : Cond.instanceMethod y_md_entry ∈ al := al_at 425 (by decide +kernel) (by decide +kernel)
theorem ks_md_entry : Cond.selects "HashHallModel" y_md_entry y_md_entry ∈ al := al_at 426 (by decide +kernel) (by decide +kernel)
theorem kc_md_entry : Cond.code y_md_entry b_md_entry 6 (some .long) ∈ al := al_at 427 (by decide +kernel) (by decide +kernel)
theorem km_lw_66 : Cond.methodLink "HashHallLaw" 66 y_md_sum ∈ al := al_at 428 (by decide +kernel) (by decide +kernel)
theorem ki_md_sum : Cond.instanceMethod y_md_sum ∈ al := al_at 429 (by decide +kernel) (by decide +kernel)
theorem ks_md_sum : Cond.selects "HashHallModel" y_md_sum y_md_sum ∈ al := al_at 430 (by decide +kernel) (by decide +kernel)
theorem kc_md_sum : Cond.code y_md_sum b_md_sum 5 (some .long) ∈ al := al_at 431 (by decide +kernel) (by decide +kernel)
theorem kk_md_73 : Cond.constantLong "HashHallModel" 73 (31) ∈ al := al_at 432 (by decide +kernel) (by decide +kernel)
theorem km_lw_71 : Cond.methodLink "HashHallLaw" 71 y_md_sweep ∈ al := al_at 433 (by decide +kernel) (by decide +kernel)
theorem ki_md_sweep : Cond.instanceMethod y_md_sweep ∈ al := al_at 434 (by decide +kernel) (by decide +kernel)
theorem ks_md_sweep : Cond.selects "HashHallModel" y_md_sweep y_md_sweep ∈ al := al_at 435 (by decide +kernel) (by decide +kernel)
theorem kc_md_sweep : Cond.code y_md_sweep b_md_sweep 7 (some .int) ∈ al := al_at 436 (by decide +kernel) (by decide +kernel)
theorem km_md_75 : Cond.methodLink "HashHallModel" 75 y_jm_floorMod ∈ al := al_at 437 (by decide +kernel) (by decide +kernel)
theorem km_lw_75 : Cond.methodLink "HashHallLaw" 75 y_md_raise ∈ al := al_at 438 (by decide +kernel) (by decide +kernel)
theorem ki_md_raise : Cond.instanceMethod y_md_raise ∈ al := al_at 439 (by decide +kernel) (by decide +kernel)
theorem ks_md_raise : Cond.selects "HashHallModel" y_md_raise y_md_raise ∈ al := al_at 440 (by decide +kernel) (by decide +kernel)
theorem kc_md_raise : Cond.code y_md_raise b_md_raise 4 (some .int) ∈ al := al_at 441 (by decide +kernel) (by decide +kernel)
theorem km_lw_80 : Cond.methodLink "HashHallLaw" 80 y_md_same ∈ al := al_at 442 (by decide +kernel) (by decide +kernel)
theorem ki_md_same : Cond.instanceMethod y_md_same ∈ al := al_at 443 (by decide +kernel) (by decide +kernel)
theorem ks_md_same : Cond.selects "HashHallModel" y_md_same y_md_same ∈ al := al_at 444 (by decide +kernel) (by decide +kernel)
theorem kc_md_same : Cond.code y_md_same b_md_same 6 (some .boolean) ∈ al := al_at 445 (by decide +kernel) (by decide +kernel)
theorem km_lw_85 : Cond.methodLink "HashHallLaw" 85 y_md_fill ∈ al := al_at 446 (by decide +kernel) (by decide +kernel)
theorem ki_md_fill : Cond.instanceMethod y_md_fill ∈ al := al_at 447 (by decide +kernel) (by decide +kernel)
theorem ks_md_fill : Cond.selects "HashHallModel" y_md_fill y_md_fill ∈ al := al_at 448 (by decide +kernel) (by decide +kernel)
theorem kc_md_fill : Cond.code y_md_fill b_md_fill 6 (some .int) ∈ al := al_at 449 (by decide +kernel) (by decide +kernel)
/-- the words of a call, all of them among al -/
theorem al_V {own : String} {ix : Nat} {C : String} {y : MethodName} {b : ByteArray} {n : Nat} {r : Option FieldType} (h1 : Cond.methodLink own ix y ∈ al) (h2 : Cond.instanceMethod y ∈ al) (h3 : Cond.selects C y y ∈ al) (h4 : Cond.initialized C ∈ al) (h5 : Cond.code y b n r ∈ al) : GoodIn al (wsV own ix C y (Cond.code y b n r :: al)) := by
  intro w hw
  have h : w ∈ al := by
    rcases List.mem_append.mp hw with h | h
    · rcases List.mem_cons.mp h with rfl | h
      · exact h1
      · rcases List.mem_cons.mp h with rfl | h
        · exact h2
        · rcases List.mem_cons.mp h with rfl | h
          · exact h3
          · rcases List.mem_cons.mp h with rfl | h
            · exact h4
            · exact absurd h List.not_mem_nil
    · rcases List.mem_cons.mp h with rfl | h
      · exact h5
      · exact h
  exact ⟨h, al_gd w h⟩
theorem al_I {y : MethodName} {b : ByteArray} {n : Nat} {r : Option FieldType} (h5 : Cond.code y b n r ∈ al) : GoodIn al (Cond.code y b n r :: al) := by
  intro w hw
  have h : w ∈ al := by
    rcases List.mem_cons.mp hw with rfl | h
    · exact h5
    · exact h
  exact ⟨h, al_gd w h⟩
/-- a level of calls: frames and words of locals that it may still use -/
abbrev rmL (d mc ms : Nat) : Room := { frames := d, cells := mc, slots := ms, locals := 27 * d }
end
section
theorem d_tb_init_0 : decode b_tb_init 0 = .ok (.aload_n 0, 1) := by decide +kernel
theorem d_tb_init_1 : decode b_tb_init 1 = .ok (.invokespecial 3, 3) := by decide +kernel
theorem d_tb_init_4 : decode b_tb_init 4 = .ok (.aload_n 0, 1) := by decide +kernel
theorem d_tb_init_5 : decode b_tb_init 5 = .ok (.iload_n 1, 1) := by decide +kernel
theorem d_tb_init_6 : decode b_tb_init 6 = .ok (.putfield 9, 3) := by decide +kernel
theorem d_tb_init_9 : decode b_tb_init 9 = .ok (.aload_n 0, 1) := by decide +kernel
theorem d_tb_init_10 : decode b_tb_init 10 = .ok (.bipush 16, 2) := by decide +kernel
theorem d_tb_init_12 : decode b_tb_init 12 = .ok (.newarray .int, 2) := by decide +kernel
theorem d_tb_init_14 : decode b_tb_init 14 = .ok (.putfield 15, 3) := by decide +kernel
theorem d_tb_init_17 : decode b_tb_init 17 = .ok (.aload_n 0, 1) := by decide +kernel
theorem d_tb_init_18 : decode b_tb_init 18 = .ok (.bipush 16, 2) := by decide +kernel
theorem d_tb_init_20 : decode b_tb_init 20 = .ok (.newarray .int, 2) := by decide +kernel
theorem d_tb_init_22 : decode b_tb_init 22 = .ok (.putfield 19, 3) := by decide +kernel
theorem d_tb_init_25 : decode b_tb_init 25 = .ok (.aload_n 0, 1) := by decide +kernel
theorem d_tb_init_26 : decode b_tb_init 26 = .ok (.bipush 16, 2) := by decide +kernel
theorem d_tb_init_28 : decode b_tb_init 28 = .ok (.newarray .int, 2) := by decide +kernel
theorem d_tb_init_30 : decode b_tb_init 30 = .ok (.putfield 22, 3) := by decide +kernel
theorem d_tb_init_33 : decode b_tb_init 33 = .ok (.aload_n 0, 1) := by decide +kernel
theorem d_tb_init_34 : decode b_tb_init 34 = .ok (.bipush 16, 2) := by decide +kernel
theorem d_tb_init_36 : decode b_tb_init 36 = .ok (.newarray .int, 2) := by decide +kernel
theorem d_tb_init_38 : decode b_tb_init 38 = .ok (.putfield 25, 3) := by decide +kernel
theorem d_tb_init_41 : decode b_tb_init 41 = .ok (.aload_n 0, 1) := by decide +kernel
theorem d_tb_init_42 : decode b_tb_init 42 = .ok (.bipush 16, 2) := by decide +kernel
theorem d_tb_init_44 : decode b_tb_init 44 = .ok (.newarray .int, 2) := by decide +kernel
theorem d_tb_init_46 : decode b_tb_init 46 = .ok (.putfield 28, 3) := by decide +kernel
theorem d_tb_init_49 : decode b_tb_init 49 = .ok (.aload_n 0, 1) := by decide +kernel
theorem d_tb_init_50 : decode b_tb_init 50 = .ok (.bipush 16, 2) := by decide +kernel
theorem d_tb_init_52 : decode b_tb_init 52 = .ok (.newarray .int, 2) := by decide +kernel
theorem d_tb_init_54 : decode b_tb_init 54 = .ok (.putfield 31, 3) := by decide +kernel
theorem d_tb_init_57 : decode b_tb_init 57 = .ok (.return_, 1) := by decide +kernel
theorem d_tb_store_0 : decode b_tb_store 0 = .ok (.aload_n 0, 1) := by decide +kernel
theorem d_tb_store_1 : decode b_tb_store 1 = .ok (.iload_n 1, 1) := by decide +kernel
theorem d_tb_store_2 : decode b_tb_store 2 = .ok (.invokevirtual 34, 3) := by decide +kernel
theorem d_tb_store_5 : decode b_tb_store 5 = .ok (.istore_n 3, 1) := by decide +kernel
theorem d_tb_store_6 : decode b_tb_store 6 = .ok (.iload_n 3, 1) := by decide +kernel
theorem d_tb_store_7 : decode b_tb_store 7 = .ok (.ifCond .ne 13, 3) := by decide +kernel
theorem d_tb_store_10 : decode b_tb_store 10 = .ok (.aload_n 0, 1) := by decide +kernel
theorem d_tb_store_11 : decode b_tb_store 11 = .ok (.iload_n 1, 1) := by decide +kernel
theorem d_tb_store_12 : decode b_tb_store 12 = .ok (.iload_n 2, 1) := by decide +kernel
theorem d_tb_store_13 : decode b_tb_store 13 = .ok (.invokevirtual 38, 3) := by decide +kernel
theorem d_tb_store_16 : decode b_tb_store 16 = .ok (.ldc2_w 42, 3) := by decide +kernel
theorem d_tb_store_19 : decode b_tb_store 19 = .ok (.lreturn, 1) := by decide +kernel
theorem d_tb_store_20 : decode b_tb_store 20 = .ok (.aload_n 0, 1) := by decide +kernel
theorem d_tb_store_21 : decode b_tb_store 21 = .ok (.getfield 19, 3) := by decide +kernel
theorem d_tb_store_24 : decode b_tb_store 24 = .ok (.iload_n 3, 1) := by decide +kernel
theorem d_tb_store_25 : decode b_tb_store 25 = .ok (.iaload, 1) := by decide +kernel
theorem d_tb_store_26 : decode b_tb_store 26 = .ok (.i2l, 1) := by decide +kernel
theorem d_tb_store_27 : decode b_tb_store 27 = .ok (.lstore 4, 2) := by decide +kernel
theorem d_tb_store_29 : decode b_tb_store 29 = .ok (.aload_n 0, 1) := by decide +kernel
theorem d_tb_store_30 : decode b_tb_store 30 = .ok (.getfield 19, 3) := by decide +kernel
theorem d_tb_store_33 : decode b_tb_store 33 = .ok (.iload_n 3, 1) := by decide +kernel
theorem d_tb_store_34 : decode b_tb_store 34 = .ok (.iload_n 2, 1) := by decide +kernel
theorem d_tb_store_35 : decode b_tb_store 35 = .ok (.iastore, 1) := by decide +kernel
theorem d_tb_store_36 : decode b_tb_store 36 = .ok (.aload_n 0, 1) := by decide +kernel
theorem d_tb_store_37 : decode b_tb_store 37 = .ok (.iload_n 3, 1) := by decide +kernel
theorem d_tb_store_38 : decode b_tb_store 38 = .ok (.invokevirtual 44, 3) := by decide +kernel
theorem d_tb_store_41 : decode b_tb_store 41 = .ok (.lload 4, 2) := by decide +kernel
theorem d_tb_store_43 : decode b_tb_store 43 = .ok (.lreturn, 1) := by decide +kernel
theorem d_tb_slotOf_0 : decode b_tb_slotOf 0 = .ok (.aload_n 0, 1) := by decide +kernel
theorem d_tb_slotOf_1 : decode b_tb_slotOf 1 = .ok (.getfield 28, 3) := by decide +kernel
theorem d_tb_slotOf_4 : decode b_tb_slotOf 4 = .ok (.aload_n 0, 1) := by decide +kernel
theorem d_tb_slotOf_5 : decode b_tb_slotOf 5 = .ok (.iload_n 1, 1) := by decide +kernel
theorem d_tb_slotOf_6 : decode b_tb_slotOf 6 = .ok (.invokevirtual 87, 3) := by decide +kernel
theorem d_tb_slotOf_9 : decode b_tb_slotOf 9 = .ok (.iaload, 1) := by decide +kernel
theorem d_tb_slotOf_10 : decode b_tb_slotOf 10 = .ok (.istore_n 2, 1) := by decide +kernel
theorem d_tb_slotOf_11 : decode b_tb_slotOf 11 = .ok (.iconst 0, 1) := by decide +kernel
theorem d_tb_slotOf_12 : decode b_tb_slotOf 12 = .ok (.istore_n 3, 1) := by decide +kernel
theorem d_tb_slotOf_13 : decode b_tb_slotOf 13 = .ok (.iload_n 3, 1) := by decide +kernel
theorem d_tb_slotOf_14 : decode b_tb_slotOf 14 = .ok (.aload_n 0, 1) := by decide +kernel
theorem d_tb_slotOf_15 : decode b_tb_slotOf 15 = .ok (.getfield 52, 3) := by decide +kernel
theorem d_tb_slotOf_18 : decode b_tb_slotOf 18 = .ok (.if_icmp .ge 32, 3) := by decide +kernel
theorem d_tb_slotOf_21 : decode b_tb_slotOf 21 = .ok (.iload_n 2, 1) := by decide +kernel
theorem d_tb_slotOf_22 : decode b_tb_slotOf 22 = .ok (.ifCond .eq 28, 3) := by decide +kernel
theorem d_tb_slotOf_25 : decode b_tb_slotOf 25 = .ok (.aload_n 0, 1) := by decide +kernel
theorem d_tb_slotOf_26 : decode b_tb_slotOf 26 = .ok (.getfield 15, 3) := by decide +kernel
theorem d_tb_slotOf_29 : decode b_tb_slotOf 29 = .ok (.iload_n 2, 1) := by decide +kernel
theorem d_tb_slotOf_30 : decode b_tb_slotOf 30 = .ok (.iaload, 1) := by decide +kernel
theorem d_tb_slotOf_31 : decode b_tb_slotOf 31 = .ok (.iload_n 1, 1) := by decide +kernel
theorem d_tb_slotOf_32 : decode b_tb_slotOf 32 = .ok (.if_icmp .ne 5, 3) := by decide +kernel
theorem d_tb_slotOf_35 : decode b_tb_slotOf 35 = .ok (.iload_n 2, 1) := by decide +kernel
theorem d_tb_slotOf_36 : decode b_tb_slotOf 36 = .ok (.ireturn, 1) := by decide +kernel
theorem d_tb_slotOf_37 : decode b_tb_slotOf 37 = .ok (.aload_n 0, 1) := by decide +kernel
theorem d_tb_slotOf_38 : decode b_tb_slotOf 38 = .ok (.getfield 31, 3) := by decide +kernel
theorem d_tb_slotOf_41 : decode b_tb_slotOf 41 = .ok (.iload_n 2, 1) := by decide +kernel
theorem d_tb_slotOf_42 : decode b_tb_slotOf 42 = .ok (.iaload, 1) := by decide +kernel
theorem d_tb_slotOf_43 : decode b_tb_slotOf 43 = .ok (.istore_n 2, 1) := by decide +kernel
theorem d_tb_slotOf_44 : decode b_tb_slotOf 44 = .ok (.iinc 3 1, 3) := by decide +kernel
theorem d_tb_slotOf_47 : decode b_tb_slotOf 47 = .ok (.goto (-34), 3) := by decide +kernel
theorem d_tb_slotOf_50 : decode b_tb_slotOf 50 = .ok (.iconst 0, 1) := by decide +kernel
theorem d_tb_slotOf_51 : decode b_tb_slotOf 51 = .ok (.ireturn, 1) := by decide +kernel
theorem d_tb_headOf_0 : decode b_tb_headOf 0 = .ok (.iload_n 1, 1) := by decide +kernel
theorem d_tb_headOf_1 : decode b_tb_headOf 1 = .ok (.iload_n 1, 1) := by decide +kernel
theorem d_tb_headOf_2 : decode b_tb_headOf 2 = .ok (.bipush 16, 2) := by decide +kernel
theorem d_tb_headOf_4 : decode b_tb_headOf 4 = .ok (.iushr, 1) := by decide +kernel
theorem d_tb_headOf_5 : decode b_tb_headOf 5 = .ok (.ixor, 1) := by decide +kernel
theorem d_tb_headOf_6 : decode b_tb_headOf 6 = .ok (.ldc 90, 2) := by decide +kernel
theorem d_tb_headOf_8 : decode b_tb_headOf 8 = .ok (.imul, 1) := by decide +kernel
theorem d_tb_headOf_9 : decode b_tb_headOf 9 = .ok (.istore_n 2, 1) := by decide +kernel
theorem d_tb_headOf_10 : decode b_tb_headOf 10 = .ok (.iload_n 2, 1) := by decide +kernel
theorem d_tb_headOf_11 : decode b_tb_headOf 11 = .ok (.iload_n 2, 1) := by decide +kernel
theorem d_tb_headOf_12 : decode b_tb_headOf 12 = .ok (.bipush 16, 2) := by decide +kernel
theorem d_tb_headOf_14 : decode b_tb_headOf 14 = .ok (.iushr, 1) := by decide +kernel
theorem d_tb_headOf_15 : decode b_tb_headOf 15 = .ok (.ixor, 1) := by decide +kernel
theorem d_tb_headOf_16 : decode b_tb_headOf 16 = .ok (.aload_n 0, 1) := by decide +kernel
theorem d_tb_headOf_17 : decode b_tb_headOf 17 = .ok (.getfield 28, 3) := by decide +kernel
theorem d_tb_headOf_20 : decode b_tb_headOf 20 = .ok (.arraylength, 1) := by decide +kernel
theorem d_tb_headOf_21 : decode b_tb_headOf 21 = .ok (.iconst 1, 1) := by decide +kernel
theorem d_tb_headOf_22 : decode b_tb_headOf 22 = .ok (.isub, 1) := by decide +kernel
theorem d_tb_headOf_23 : decode b_tb_headOf 23 = .ok (.iand, 1) := by decide +kernel
theorem d_tb_headOf_24 : decode b_tb_headOf 24 = .ok (.ireturn, 1) := by decide +kernel
theorem d_tb_insert_0 : decode b_tb_insert 0 = .ok (.aload_n 0, 1) := by decide +kernel
theorem d_tb_insert_1 : decode b_tb_insert 1 = .ok (.getfield 52, 3) := by decide +kernel
theorem d_tb_insert_4 : decode b_tb_insert 4 = .ok (.aload_n 0, 1) := by decide +kernel
theorem d_tb_insert_5 : decode b_tb_insert 5 = .ok (.getfield 15, 3) := by decide +kernel
theorem d_tb_insert_8 : decode b_tb_insert 8 = .ok (.arraylength, 1) := by decide +kernel
theorem d_tb_insert_9 : decode b_tb_insert 9 = .ok (.iconst 1, 1) := by decide +kernel
theorem d_tb_insert_10 : decode b_tb_insert 10 = .ok (.isub, 1) := by decide +kernel
theorem d_tb_insert_11 : decode b_tb_insert 11 = .ok (.if_icmp .ne 19, 3) := by decide +kernel
theorem d_tb_insert_14 : decode b_tb_insert 14 = .ok (.aload_n 0, 1) := by decide +kernel
theorem d_tb_insert_15 : decode b_tb_insert 15 = .ok (.getfield 15, 3) := by decide +kernel
theorem d_tb_insert_18 : decode b_tb_insert 18 = .ok (.arraylength, 1) := by decide +kernel
theorem d_tb_insert_19 : decode b_tb_insert 19 = .ok (.sipush 2048, 3) := by decide +kernel
theorem d_tb_insert_22 : decode b_tb_insert 22 = .ok (.if_icmp .lt 4, 3) := by decide +kernel
theorem d_tb_insert_25 : decode b_tb_insert 25 = .ok (.return_, 1) := by decide +kernel
theorem d_tb_insert_26 : decode b_tb_insert 26 = .ok (.aload_n 0, 1) := by decide +kernel
theorem d_tb_insert_27 : decode b_tb_insert 27 = .ok (.invokevirtual 91, 3) := by decide +kernel
theorem d_tb_insert_30 : decode b_tb_insert 30 = .ok (.aload_n 0, 1) := by decide +kernel
theorem d_tb_insert_31 : decode b_tb_insert 31 = .ok (.invokevirtual 94, 3) := by decide +kernel
theorem d_tb_insert_34 : decode b_tb_insert 34 = .ok (.istore_n 3, 1) := by decide +kernel
theorem d_tb_insert_35 : decode b_tb_insert 35 = .ok (.aload_n 0, 1) := by decide +kernel
theorem d_tb_insert_36 : decode b_tb_insert 36 = .ok (.getfield 15, 3) := by decide +kernel
theorem d_tb_insert_39 : decode b_tb_insert 39 = .ok (.iload_n 3, 1) := by decide +kernel
theorem d_tb_insert_40 : decode b_tb_insert 40 = .ok (.iload_n 1, 1) := by decide +kernel
theorem d_tb_insert_41 : decode b_tb_insert 41 = .ok (.iastore, 1) := by decide +kernel
theorem d_tb_insert_42 : decode b_tb_insert 42 = .ok (.aload_n 0, 1) := by decide +kernel
theorem d_tb_insert_43 : decode b_tb_insert 43 = .ok (.getfield 19, 3) := by decide +kernel
theorem d_tb_insert_46 : decode b_tb_insert 46 = .ok (.iload_n 3, 1) := by decide +kernel
theorem d_tb_insert_47 : decode b_tb_insert 47 = .ok (.iload_n 2, 1) := by decide +kernel
theorem d_tb_insert_48 : decode b_tb_insert 48 = .ok (.iastore, 1) := by decide +kernel
theorem d_tb_insert_49 : decode b_tb_insert 49 = .ok (.aload_n 0, 1) := by decide +kernel
theorem d_tb_insert_50 : decode b_tb_insert 50 = .ok (.iload_n 3, 1) := by decide +kernel
theorem d_tb_insert_51 : decode b_tb_insert 51 = .ok (.invokevirtual 98, 3) := by decide +kernel
theorem d_tb_insert_54 : decode b_tb_insert 54 = .ok (.aload_n 0, 1) := by decide +kernel
theorem d_tb_insert_55 : decode b_tb_insert 55 = .ok (.iload_n 3, 1) := by decide +kernel
theorem d_tb_insert_56 : decode b_tb_insert 56 = .ok (.invokevirtual 101, 3) := by decide +kernel
theorem d_tb_insert_59 : decode b_tb_insert 59 = .ok (.aload_n 0, 1) := by decide +kernel
theorem d_tb_insert_60 : decode b_tb_insert 60 = .ok (.dup, 1) := by decide +kernel
theorem d_tb_insert_61 : decode b_tb_insert 61 = .ok (.getfield 52, 3) := by decide +kernel
theorem d_tb_insert_64 : decode b_tb_insert 64 = .ok (.iconst 1, 1) := by decide +kernel
theorem d_tb_insert_65 : decode b_tb_insert 65 = .ok (.iadd, 1) := by decide +kernel
theorem d_tb_insert_66 : decode b_tb_insert 66 = .ok (.putfield 52, 3) := by decide +kernel
theorem d_tb_insert_69 : decode b_tb_insert 69 = .ok (.return_, 1) := by decide +kernel
theorem d_tb_grow_0 : decode b_tb_grow 0 = .ok (.aload_n 0, 1) := by decide +kernel
theorem d_tb_grow_1 : decode b_tb_grow 1 = .ok (.getfield 15, 3) := by decide +kernel
theorem d_tb_grow_4 : decode b_tb_grow 4 = .ok (.arraylength, 1) := by decide +kernel
theorem d_tb_grow_5 : decode b_tb_grow 5 = .ok (.iconst 2, 1) := by decide +kernel
theorem d_tb_grow_6 : decode b_tb_grow 6 = .ok (.imul, 1) := by decide +kernel
theorem d_tb_grow_7 : decode b_tb_grow 7 = .ok (.istore_n 1, 1) := by decide +kernel
theorem d_tb_grow_8 : decode b_tb_grow 8 = .ok (.aload_n 0, 1) := by decide +kernel
theorem d_tb_grow_9 : decode b_tb_grow 9 = .ok (.aload_n 0, 1) := by decide +kernel
theorem d_tb_grow_10 : decode b_tb_grow 10 = .ok (.getfield 15, 3) := by decide +kernel
theorem d_tb_grow_13 : decode b_tb_grow 13 = .ok (.iload_n 1, 1) := by decide +kernel
theorem d_tb_grow_14 : decode b_tb_grow 14 = .ok (.invokestatic 110, 3) := by decide +kernel
theorem d_tb_grow_17 : decode b_tb_grow 17 = .ok (.putfield 15, 3) := by decide +kernel
theorem d_tb_grow_20 : decode b_tb_grow 20 = .ok (.aload_n 0, 1) := by decide +kernel
theorem d_tb_grow_21 : decode b_tb_grow 21 = .ok (.aload_n 0, 1) := by decide +kernel
theorem d_tb_grow_22 : decode b_tb_grow 22 = .ok (.getfield 19, 3) := by decide +kernel
theorem d_tb_grow_25 : decode b_tb_grow 25 = .ok (.iload_n 1, 1) := by decide +kernel
theorem d_tb_grow_26 : decode b_tb_grow 26 = .ok (.invokestatic 110, 3) := by decide +kernel
theorem d_tb_grow_29 : decode b_tb_grow 29 = .ok (.putfield 19, 3) := by decide +kernel
theorem d_tb_grow_32 : decode b_tb_grow 32 = .ok (.aload_n 0, 1) := by decide +kernel
theorem d_tb_grow_33 : decode b_tb_grow 33 = .ok (.aload_n 0, 1) := by decide +kernel
theorem d_tb_grow_34 : decode b_tb_grow 34 = .ok (.getfield 22, 3) := by decide +kernel
theorem d_tb_grow_37 : decode b_tb_grow 37 = .ok (.iload_n 1, 1) := by decide +kernel
theorem d_tb_grow_38 : decode b_tb_grow 38 = .ok (.invokestatic 110, 3) := by decide +kernel
theorem d_tb_grow_41 : decode b_tb_grow 41 = .ok (.putfield 22, 3) := by decide +kernel
theorem d_tb_grow_44 : decode b_tb_grow 44 = .ok (.aload_n 0, 1) := by decide +kernel
theorem d_tb_grow_45 : decode b_tb_grow 45 = .ok (.aload_n 0, 1) := by decide +kernel
theorem d_tb_grow_46 : decode b_tb_grow 46 = .ok (.getfield 25, 3) := by decide +kernel
theorem d_tb_grow_49 : decode b_tb_grow 49 = .ok (.iload_n 1, 1) := by decide +kernel
theorem d_tb_grow_50 : decode b_tb_grow 50 = .ok (.invokestatic 110, 3) := by decide +kernel
theorem d_tb_grow_53 : decode b_tb_grow 53 = .ok (.putfield 25, 3) := by decide +kernel
theorem d_tb_grow_56 : decode b_tb_grow 56 = .ok (.aload_n 0, 1) := by decide +kernel
theorem d_tb_grow_57 : decode b_tb_grow 57 = .ok (.iload_n 1, 1) := by decide +kernel
theorem d_tb_grow_58 : decode b_tb_grow 58 = .ok (.newarray .int, 2) := by decide +kernel
theorem d_tb_grow_60 : decode b_tb_grow 60 = .ok (.putfield 28, 3) := by decide +kernel
theorem d_tb_grow_63 : decode b_tb_grow 63 = .ok (.aload_n 0, 1) := by decide +kernel
theorem d_tb_grow_64 : decode b_tb_grow 64 = .ok (.iload_n 1, 1) := by decide +kernel
theorem d_tb_grow_65 : decode b_tb_grow 65 = .ok (.newarray .int, 2) := by decide +kernel
theorem d_tb_grow_67 : decode b_tb_grow 67 = .ok (.putfield 31, 3) := by decide +kernel
theorem d_tb_grow_70 : decode b_tb_grow 70 = .ok (.iconst 1, 1) := by decide +kernel
theorem d_tb_grow_71 : decode b_tb_grow 71 = .ok (.istore_n 2, 1) := by decide +kernel
theorem d_tb_grow_72 : decode b_tb_grow 72 = .ok (.iload_n 2, 1) := by decide +kernel
theorem d_tb_grow_73 : decode b_tb_grow 73 = .ok (.aload_n 0, 1) := by decide +kernel
theorem d_tb_grow_74 : decode b_tb_grow 74 = .ok (.getfield 78, 3) := by decide +kernel
theorem d_tb_grow_77 : decode b_tb_grow 77 = .ok (.if_icmp .gt 14, 3) := by decide +kernel
theorem d_tb_grow_80 : decode b_tb_grow 80 = .ok (.aload_n 0, 1) := by decide +kernel
theorem d_tb_grow_81 : decode b_tb_grow 81 = .ok (.iload_n 2, 1) := by decide +kernel
theorem d_tb_grow_82 : decode b_tb_grow 82 = .ok (.invokevirtual 98, 3) := by decide +kernel
theorem d_tb_grow_85 : decode b_tb_grow 85 = .ok (.iinc 2 1, 3) := by decide +kernel
theorem d_tb_grow_88 : decode b_tb_grow 88 = .ok (.goto (-16), 3) := by decide +kernel
theorem d_tb_grow_91 : decode b_tb_grow 91 = .ok (.return_, 1) := by decide +kernel
theorem d_tb_hook_0 : decode b_tb_hook 0 = .ok (.aload_n 0, 1) := by decide +kernel
theorem d_tb_hook_1 : decode b_tb_hook 1 = .ok (.aload_n 0, 1) := by decide +kernel
theorem d_tb_hook_2 : decode b_tb_hook 2 = .ok (.getfield 15, 3) := by decide +kernel
theorem d_tb_hook_5 : decode b_tb_hook 5 = .ok (.iload_n 1, 1) := by decide +kernel
theorem d_tb_hook_6 : decode b_tb_hook 6 = .ok (.iaload, 1) := by decide +kernel
theorem d_tb_hook_7 : decode b_tb_hook 7 = .ok (.invokevirtual 87, 3) := by decide +kernel
theorem d_tb_hook_10 : decode b_tb_hook 10 = .ok (.istore_n 2, 1) := by decide +kernel
theorem d_tb_hook_11 : decode b_tb_hook 11 = .ok (.aload_n 0, 1) := by decide +kernel
theorem d_tb_hook_12 : decode b_tb_hook 12 = .ok (.getfield 31, 3) := by decide +kernel
theorem d_tb_hook_15 : decode b_tb_hook 15 = .ok (.iload_n 1, 1) := by decide +kernel
theorem d_tb_hook_16 : decode b_tb_hook 16 = .ok (.aload_n 0, 1) := by decide +kernel
theorem d_tb_hook_17 : decode b_tb_hook 17 = .ok (.getfield 28, 3) := by decide +kernel
theorem d_tb_hook_20 : decode b_tb_hook 20 = .ok (.iload_n 2, 1) := by decide +kernel
theorem d_tb_hook_21 : decode b_tb_hook 21 = .ok (.iaload, 1) := by decide +kernel
theorem d_tb_hook_22 : decode b_tb_hook 22 = .ok (.iastore, 1) := by decide +kernel
theorem d_tb_hook_23 : decode b_tb_hook 23 = .ok (.aload_n 0, 1) := by decide +kernel
theorem d_tb_hook_24 : decode b_tb_hook 24 = .ok (.getfield 28, 3) := by decide +kernel
theorem d_tb_hook_27 : decode b_tb_hook 27 = .ok (.iload_n 2, 1) := by decide +kernel
theorem d_tb_hook_28 : decode b_tb_hook 28 = .ok (.iload_n 1, 1) := by decide +kernel
theorem d_tb_hook_29 : decode b_tb_hook 29 = .ok (.iastore, 1) := by decide +kernel
theorem d_tb_hook_30 : decode b_tb_hook 30 = .ok (.return_, 1) := by decide +kernel
theorem d_tb_freeSlot_0 : decode b_tb_freeSlot 0 = .ok (.aload_n 0, 1) := by decide +kernel
theorem d_tb_freeSlot_1 : decode b_tb_freeSlot 1 = .ok (.getfield 75, 3) := by decide +kernel
theorem d_tb_freeSlot_4 : decode b_tb_freeSlot 4 = .ok (.ifCond .eq 20, 3) := by decide +kernel
theorem d_tb_freeSlot_7 : decode b_tb_freeSlot 7 = .ok (.aload_n 0, 1) := by decide +kernel
theorem d_tb_freeSlot_8 : decode b_tb_freeSlot 8 = .ok (.getfield 75, 3) := by decide +kernel
theorem d_tb_freeSlot_11 : decode b_tb_freeSlot 11 = .ok (.istore_n 1, 1) := by decide +kernel
theorem d_tb_freeSlot_12 : decode b_tb_freeSlot 12 = .ok (.aload_n 0, 1) := by decide +kernel
theorem d_tb_freeSlot_13 : decode b_tb_freeSlot 13 = .ok (.aload_n 0, 1) := by decide +kernel
theorem d_tb_freeSlot_14 : decode b_tb_freeSlot 14 = .ok (.getfield 31, 3) := by decide +kernel
theorem d_tb_freeSlot_17 : decode b_tb_freeSlot 17 = .ok (.iload_n 1, 1) := by decide +kernel
theorem d_tb_freeSlot_18 : decode b_tb_freeSlot 18 = .ok (.iaload, 1) := by decide +kernel
theorem d_tb_freeSlot_19 : decode b_tb_freeSlot 19 = .ok (.putfield 75, 3) := by decide +kernel
theorem d_tb_freeSlot_22 : decode b_tb_freeSlot 22 = .ok (.iload_n 1, 1) := by decide +kernel
theorem d_tb_freeSlot_23 : decode b_tb_freeSlot 23 = .ok (.ireturn, 1) := by decide +kernel
theorem d_tb_freeSlot_24 : decode b_tb_freeSlot 24 = .ok (.aload_n 0, 1) := by decide +kernel
theorem d_tb_freeSlot_25 : decode b_tb_freeSlot 25 = .ok (.dup, 1) := by decide +kernel
theorem d_tb_freeSlot_26 : decode b_tb_freeSlot 26 = .ok (.getfield 78, 3) := by decide +kernel
theorem d_tb_freeSlot_29 : decode b_tb_freeSlot 29 = .ok (.iconst 1, 1) := by decide +kernel
theorem d_tb_freeSlot_30 : decode b_tb_freeSlot 30 = .ok (.iadd, 1) := by decide +kernel
theorem d_tb_freeSlot_31 : decode b_tb_freeSlot 31 = .ok (.putfield 78, 3) := by decide +kernel
theorem d_tb_freeSlot_34 : decode b_tb_freeSlot 34 = .ok (.aload_n 0, 1) := by decide +kernel
theorem d_tb_freeSlot_35 : decode b_tb_freeSlot 35 = .ok (.getfield 78, 3) := by decide +kernel
theorem d_tb_freeSlot_38 : decode b_tb_freeSlot 38 = .ok (.ireturn, 1) := by decide +kernel
theorem d_tb_linkLast_0 : decode b_tb_linkLast 0 = .ok (.aload_n 0, 1) := by decide +kernel
theorem d_tb_linkLast_1 : decode b_tb_linkLast 1 = .ok (.getfield 22, 3) := by decide +kernel
theorem d_tb_linkLast_4 : decode b_tb_linkLast 4 = .ok (.iconst 0, 1) := by decide +kernel
theorem d_tb_linkLast_5 : decode b_tb_linkLast 5 = .ok (.iaload, 1) := by decide +kernel
theorem d_tb_linkLast_6 : decode b_tb_linkLast 6 = .ok (.istore_n 2, 1) := by decide +kernel
theorem d_tb_linkLast_7 : decode b_tb_linkLast 7 = .ok (.aload_n 0, 1) := by decide +kernel
theorem d_tb_linkLast_8 : decode b_tb_linkLast 8 = .ok (.getfield 25, 3) := by decide +kernel
theorem d_tb_linkLast_11 : decode b_tb_linkLast 11 = .ok (.iload_n 2, 1) := by decide +kernel
theorem d_tb_linkLast_12 : decode b_tb_linkLast 12 = .ok (.iload_n 1, 1) := by decide +kernel
theorem d_tb_linkLast_13 : decode b_tb_linkLast 13 = .ok (.iastore, 1) := by decide +kernel
theorem d_tb_linkLast_14 : decode b_tb_linkLast 14 = .ok (.aload_n 0, 1) := by decide +kernel
theorem d_tb_linkLast_15 : decode b_tb_linkLast 15 = .ok (.getfield 22, 3) := by decide +kernel
theorem d_tb_linkLast_18 : decode b_tb_linkLast 18 = .ok (.iload_n 1, 1) := by decide +kernel
theorem d_tb_linkLast_19 : decode b_tb_linkLast 19 = .ok (.iload_n 2, 1) := by decide +kernel
theorem d_tb_linkLast_20 : decode b_tb_linkLast 20 = .ok (.iastore, 1) := by decide +kernel
theorem d_tb_linkLast_21 : decode b_tb_linkLast 21 = .ok (.aload_n 0, 1) := by decide +kernel
theorem d_tb_linkLast_22 : decode b_tb_linkLast 22 = .ok (.getfield 25, 3) := by decide +kernel
theorem d_tb_linkLast_25 : decode b_tb_linkLast 25 = .ok (.iload_n 1, 1) := by decide +kernel
theorem d_tb_linkLast_26 : decode b_tb_linkLast 26 = .ok (.iconst 0, 1) := by decide +kernel
theorem d_tb_linkLast_27 : decode b_tb_linkLast 27 = .ok (.iastore, 1) := by decide +kernel
theorem d_tb_linkLast_28 : decode b_tb_linkLast 28 = .ok (.aload_n 0, 1) := by decide +kernel
theorem d_tb_linkLast_29 : decode b_tb_linkLast 29 = .ok (.getfield 22, 3) := by decide +kernel
theorem d_tb_linkLast_32 : decode b_tb_linkLast 32 = .ok (.iconst 0, 1) := by decide +kernel
theorem d_tb_linkLast_33 : decode b_tb_linkLast 33 = .ok (.iload_n 1, 1) := by decide +kernel
theorem d_tb_linkLast_34 : decode b_tb_linkLast 34 = .ok (.iastore, 1) := by decide +kernel
theorem d_tb_linkLast_35 : decode b_tb_linkLast 35 = .ok (.return_, 1) := by decide +kernel
theorem d_tb_use_0 : decode b_tb_use 0 = .ok (.aload_n 0, 1) := by decide +kernel
theorem d_tb_use_1 : decode b_tb_use 1 = .ok (.getfield 9, 3) := by decide +kernel
theorem d_tb_use_4 : decode b_tb_use 4 = .ok (.ifCond .eq 13, 3) := by decide +kernel
theorem d_tb_use_7 : decode b_tb_use 7 = .ok (.aload_n 0, 1) := by decide +kernel
theorem d_tb_use_8 : decode b_tb_use 8 = .ok (.iload_n 1, 1) := by decide +kernel
theorem d_tb_use_9 : decode b_tb_use 9 = .ok (.invokevirtual 107, 3) := by decide +kernel
theorem d_tb_use_12 : decode b_tb_use 12 = .ok (.aload_n 0, 1) := by decide +kernel
theorem d_tb_use_13 : decode b_tb_use 13 = .ok (.iload_n 1, 1) := by decide +kernel
theorem d_tb_use_14 : decode b_tb_use 14 = .ok (.invokevirtual 101, 3) := by decide +kernel
theorem d_tb_use_17 : decode b_tb_use 17 = .ok (.return_, 1) := by decide +kernel
theorem d_tb_unlink_0 : decode b_tb_unlink 0 = .ok (.aload_n 0, 1) := by decide +kernel
theorem d_tb_unlink_1 : decode b_tb_unlink 1 = .ok (.getfield 25, 3) := by decide +kernel
theorem d_tb_unlink_4 : decode b_tb_unlink 4 = .ok (.aload_n 0, 1) := by decide +kernel
theorem d_tb_unlink_5 : decode b_tb_unlink 5 = .ok (.getfield 22, 3) := by decide +kernel
theorem d_tb_unlink_8 : decode b_tb_unlink 8 = .ok (.iload_n 1, 1) := by decide +kernel
theorem d_tb_unlink_9 : decode b_tb_unlink 9 = .ok (.iaload, 1) := by decide +kernel
theorem d_tb_unlink_10 : decode b_tb_unlink 10 = .ok (.aload_n 0, 1) := by decide +kernel
theorem d_tb_unlink_11 : decode b_tb_unlink 11 = .ok (.getfield 25, 3) := by decide +kernel
theorem d_tb_unlink_14 : decode b_tb_unlink 14 = .ok (.iload_n 1, 1) := by decide +kernel
theorem d_tb_unlink_15 : decode b_tb_unlink 15 = .ok (.iaload, 1) := by decide +kernel
theorem d_tb_unlink_16 : decode b_tb_unlink 16 = .ok (.iastore, 1) := by decide +kernel
theorem d_tb_unlink_17 : decode b_tb_unlink 17 = .ok (.aload_n 0, 1) := by decide +kernel
theorem d_tb_unlink_18 : decode b_tb_unlink 18 = .ok (.getfield 22, 3) := by decide +kernel
theorem d_tb_unlink_21 : decode b_tb_unlink 21 = .ok (.aload_n 0, 1) := by decide +kernel
theorem d_tb_unlink_22 : decode b_tb_unlink 22 = .ok (.getfield 25, 3) := by decide +kernel
theorem d_tb_unlink_25 : decode b_tb_unlink 25 = .ok (.iload_n 1, 1) := by decide +kernel
theorem d_tb_unlink_26 : decode b_tb_unlink 26 = .ok (.iaload, 1) := by decide +kernel
theorem d_tb_unlink_27 : decode b_tb_unlink 27 = .ok (.aload_n 0, 1) := by decide +kernel
theorem d_tb_unlink_28 : decode b_tb_unlink 28 = .ok (.getfield 22, 3) := by decide +kernel
theorem d_tb_unlink_31 : decode b_tb_unlink 31 = .ok (.iload_n 1, 1) := by decide +kernel
theorem d_tb_unlink_32 : decode b_tb_unlink 32 = .ok (.iaload, 1) := by decide +kernel
theorem d_tb_unlink_33 : decode b_tb_unlink 33 = .ok (.iastore, 1) := by decide +kernel
theorem d_tb_unlink_34 : decode b_tb_unlink 34 = .ok (.return_, 1) := by decide +kernel
theorem d_tb_storeIfNew_0 : decode b_tb_storeIfNew 0 = .ok (.aload_n 0, 1) := by decide +kernel
theorem d_tb_storeIfNew_1 : decode b_tb_storeIfNew 1 = .ok (.iload_n 1, 1) := by decide +kernel
theorem d_tb_storeIfNew_2 : decode b_tb_storeIfNew 2 = .ok (.invokevirtual 48, 3) := by decide +kernel
theorem d_tb_storeIfNew_5 : decode b_tb_storeIfNew 5 = .ok (.lstore_n 3, 1) := by decide +kernel
theorem d_tb_storeIfNew_6 : decode b_tb_storeIfNew 6 = .ok (.lload_n 3, 1) := by decide +kernel
theorem d_tb_storeIfNew_7 : decode b_tb_storeIfNew 7 = .ok (.ldc2_w 42, 3) := by decide +kernel
theorem d_tb_storeIfNew_10 : decode b_tb_storeIfNew 10 = .ok (.lcmp, 1) := by decide +kernel
theorem d_tb_storeIfNew_11 : decode b_tb_storeIfNew 11 = .ok (.ifCond .ne 9, 3) := by decide +kernel
theorem d_tb_storeIfNew_14 : decode b_tb_storeIfNew 14 = .ok (.aload_n 0, 1) := by decide +kernel
theorem d_tb_storeIfNew_15 : decode b_tb_storeIfNew 15 = .ok (.iload_n 1, 1) := by decide +kernel
theorem d_tb_storeIfNew_16 : decode b_tb_storeIfNew 16 = .ok (.iload_n 2, 1) := by decide +kernel
theorem d_tb_storeIfNew_17 : decode b_tb_storeIfNew 17 = .ok (.invokevirtual 38, 3) := by decide +kernel
theorem d_tb_storeIfNew_20 : decode b_tb_storeIfNew 20 = .ok (.lload_n 3, 1) := by decide +kernel
theorem d_tb_storeIfNew_21 : decode b_tb_storeIfNew 21 = .ok (.lreturn, 1) := by decide +kernel
theorem d_tb_lookUp_0 : decode b_tb_lookUp 0 = .ok (.aload_n 0, 1) := by decide +kernel
theorem d_tb_lookUp_1 : decode b_tb_lookUp 1 = .ok (.iload_n 1, 1) := by decide +kernel
theorem d_tb_lookUp_2 : decode b_tb_lookUp 2 = .ok (.invokevirtual 34, 3) := by decide +kernel
theorem d_tb_lookUp_5 : decode b_tb_lookUp 5 = .ok (.istore_n 2, 1) := by decide +kernel
theorem d_tb_lookUp_6 : decode b_tb_lookUp 6 = .ok (.iload_n 2, 1) := by decide +kernel
theorem d_tb_lookUp_7 : decode b_tb_lookUp 7 = .ok (.ifCond .ne 7, 3) := by decide +kernel
theorem d_tb_lookUp_10 : decode b_tb_lookUp 10 = .ok (.ldc2_w 42, 3) := by decide +kernel
theorem d_tb_lookUp_13 : decode b_tb_lookUp 13 = .ok (.lreturn, 1) := by decide +kernel
theorem d_tb_lookUp_14 : decode b_tb_lookUp 14 = .ok (.aload_n 0, 1) := by decide +kernel
theorem d_tb_lookUp_15 : decode b_tb_lookUp 15 = .ok (.iload_n 2, 1) := by decide +kernel
theorem d_tb_lookUp_16 : decode b_tb_lookUp 16 = .ok (.invokevirtual 44, 3) := by decide +kernel
theorem d_tb_lookUp_19 : decode b_tb_lookUp 19 = .ok (.aload_n 0, 1) := by decide +kernel
theorem d_tb_lookUp_20 : decode b_tb_lookUp 20 = .ok (.getfield 19, 3) := by decide +kernel
theorem d_tb_lookUp_23 : decode b_tb_lookUp 23 = .ok (.iload_n 2, 1) := by decide +kernel
theorem d_tb_lookUp_24 : decode b_tb_lookUp 24 = .ok (.iaload, 1) := by decide +kernel
theorem d_tb_lookUp_25 : decode b_tb_lookUp 25 = .ok (.i2l, 1) := by decide +kernel
theorem d_tb_lookUp_26 : decode b_tb_lookUp 26 = .ok (.lreturn, 1) := by decide +kernel
theorem d_tb_dropKey_0 : decode b_tb_dropKey 0 = .ok (.aload_n 0, 1) := by decide +kernel
theorem d_tb_dropKey_1 : decode b_tb_dropKey 1 = .ok (.iload_n 1, 1) := by decide +kernel
theorem d_tb_dropKey_2 : decode b_tb_dropKey 2 = .ok (.invokevirtual 34, 3) := by decide +kernel
theorem d_tb_dropKey_5 : decode b_tb_dropKey 5 = .ok (.istore_n 2, 1) := by decide +kernel
theorem d_tb_dropKey_6 : decode b_tb_dropKey 6 = .ok (.iload_n 2, 1) := by decide +kernel
theorem d_tb_dropKey_7 : decode b_tb_dropKey 7 = .ok (.ifCond .ne 7, 3) := by decide +kernel
theorem d_tb_dropKey_10 : decode b_tb_dropKey 10 = .ok (.ldc2_w 42, 3) := by decide +kernel
theorem d_tb_dropKey_13 : decode b_tb_dropKey 13 = .ok (.lreturn, 1) := by decide +kernel
theorem d_tb_dropKey_14 : decode b_tb_dropKey 14 = .ok (.aload_n 0, 1) := by decide +kernel
theorem d_tb_dropKey_15 : decode b_tb_dropKey 15 = .ok (.getfield 19, 3) := by decide +kernel
theorem d_tb_dropKey_18 : decode b_tb_dropKey 18 = .ok (.iload_n 2, 1) := by decide +kernel
theorem d_tb_dropKey_19 : decode b_tb_dropKey 19 = .ok (.iaload, 1) := by decide +kernel
theorem d_tb_dropKey_20 : decode b_tb_dropKey 20 = .ok (.i2l, 1) := by decide +kernel
theorem d_tb_dropKey_21 : decode b_tb_dropKey 21 = .ok (.lstore_n 3, 1) := by decide +kernel
theorem d_tb_dropKey_22 : decode b_tb_dropKey 22 = .ok (.aload_n 0, 1) := by decide +kernel
theorem d_tb_dropKey_23 : decode b_tb_dropKey 23 = .ok (.iload_n 2, 1) := by decide +kernel
theorem d_tb_dropKey_24 : decode b_tb_dropKey 24 = .ok (.invokevirtual 60, 3) := by decide +kernel
theorem d_tb_dropKey_27 : decode b_tb_dropKey 27 = .ok (.lload_n 3, 1) := by decide +kernel
theorem d_tb_dropKey_28 : decode b_tb_dropKey 28 = .ok (.lreturn, 1) := by decide +kernel
theorem d_tb_drop_0 : decode b_tb_drop 0 = .ok (.aload_n 0, 1) := by decide +kernel
theorem d_tb_drop_1 : decode b_tb_drop 1 = .ok (.iload_n 1, 1) := by decide +kernel
theorem d_tb_drop_2 : decode b_tb_drop 2 = .ok (.invokevirtual 104, 3) := by decide +kernel
theorem d_tb_drop_5 : decode b_tb_drop 5 = .ok (.aload_n 0, 1) := by decide +kernel
theorem d_tb_drop_6 : decode b_tb_drop 6 = .ok (.iload_n 1, 1) := by decide +kernel
theorem d_tb_drop_7 : decode b_tb_drop 7 = .ok (.invokevirtual 107, 3) := by decide +kernel
theorem d_tb_drop_10 : decode b_tb_drop 10 = .ok (.aload_n 0, 1) := by decide +kernel
theorem d_tb_drop_11 : decode b_tb_drop 11 = .ok (.getfield 31, 3) := by decide +kernel
theorem d_tb_drop_14 : decode b_tb_drop 14 = .ok (.iload_n 1, 1) := by decide +kernel
theorem d_tb_drop_15 : decode b_tb_drop 15 = .ok (.aload_n 0, 1) := by decide +kernel
theorem d_tb_drop_16 : decode b_tb_drop 16 = .ok (.getfield 75, 3) := by decide +kernel
theorem d_tb_drop_19 : decode b_tb_drop 19 = .ok (.iastore, 1) := by decide +kernel
theorem d_tb_drop_20 : decode b_tb_drop 20 = .ok (.aload_n 0, 1) := by decide +kernel
theorem d_tb_drop_21 : decode b_tb_drop 21 = .ok (.iload_n 1, 1) := by decide +kernel
theorem d_tb_drop_22 : decode b_tb_drop 22 = .ok (.putfield 75, 3) := by decide +kernel
theorem d_tb_drop_25 : decode b_tb_drop 25 = .ok (.aload_n 0, 1) := by decide +kernel
theorem d_tb_drop_26 : decode b_tb_drop 26 = .ok (.dup, 1) := by decide +kernel
theorem d_tb_drop_27 : decode b_tb_drop 27 = .ok (.getfield 52, 3) := by decide +kernel
theorem d_tb_drop_30 : decode b_tb_drop 30 = .ok (.iconst 1, 1) := by decide +kernel
theorem d_tb_drop_31 : decode b_tb_drop 31 = .ok (.isub, 1) := by decide +kernel
theorem d_tb_drop_32 : decode b_tb_drop 32 = .ok (.putfield 52, 3) := by decide +kernel
theorem d_tb_drop_35 : decode b_tb_drop 35 = .ok (.return_, 1) := by decide +kernel
theorem d_tb_unhook_0 : decode b_tb_unhook 0 = .ok (.aload_n 0, 1) := by decide +kernel
theorem d_tb_unhook_1 : decode b_tb_unhook 1 = .ok (.aload_n 0, 1) := by decide +kernel
theorem d_tb_unhook_2 : decode b_tb_unhook 2 = .ok (.getfield 15, 3) := by decide +kernel
theorem d_tb_unhook_5 : decode b_tb_unhook 5 = .ok (.iload_n 1, 1) := by decide +kernel
theorem d_tb_unhook_6 : decode b_tb_unhook 6 = .ok (.iaload, 1) := by decide +kernel
theorem d_tb_unhook_7 : decode b_tb_unhook 7 = .ok (.invokevirtual 87, 3) := by decide +kernel
theorem d_tb_unhook_10 : decode b_tb_unhook 10 = .ok (.istore_n 2, 1) := by decide +kernel
theorem d_tb_unhook_11 : decode b_tb_unhook 11 = .ok (.aload_n 0, 1) := by decide +kernel
theorem d_tb_unhook_12 : decode b_tb_unhook 12 = .ok (.getfield 28, 3) := by decide +kernel
theorem d_tb_unhook_15 : decode b_tb_unhook 15 = .ok (.iload_n 2, 1) := by decide +kernel
theorem d_tb_unhook_16 : decode b_tb_unhook 16 = .ok (.iaload, 1) := by decide +kernel
theorem d_tb_unhook_17 : decode b_tb_unhook 17 = .ok (.istore_n 3, 1) := by decide +kernel
theorem d_tb_unhook_18 : decode b_tb_unhook 18 = .ok (.iload_n 3, 1) := by decide +kernel
theorem d_tb_unhook_19 : decode b_tb_unhook 19 = .ok (.iload_n 1, 1) := by decide +kernel
theorem d_tb_unhook_20 : decode b_tb_unhook 20 = .ok (.if_icmp .ne 16, 3) := by decide +kernel
theorem d_tb_unhook_23 : decode b_tb_unhook 23 = .ok (.aload_n 0, 1) := by decide +kernel
theorem d_tb_unhook_24 : decode b_tb_unhook 24 = .ok (.getfield 28, 3) := by decide +kernel
theorem d_tb_unhook_27 : decode b_tb_unhook 27 = .ok (.iload_n 2, 1) := by decide +kernel
theorem d_tb_unhook_28 : decode b_tb_unhook 28 = .ok (.aload_n 0, 1) := by decide +kernel
theorem d_tb_unhook_29 : decode b_tb_unhook 29 = .ok (.getfield 31, 3) := by decide +kernel
theorem d_tb_unhook_32 : decode b_tb_unhook 32 = .ok (.iload_n 1, 1) := by decide +kernel
theorem d_tb_unhook_33 : decode b_tb_unhook 33 = .ok (.iaload, 1) := by decide +kernel
theorem d_tb_unhook_34 : decode b_tb_unhook 34 = .ok (.iastore, 1) := by decide +kernel
theorem d_tb_unhook_35 : decode b_tb_unhook 35 = .ok (.return_, 1) := by decide +kernel
theorem d_tb_unhook_36 : decode b_tb_unhook 36 = .ok (.iconst 0, 1) := by decide +kernel
theorem d_tb_unhook_37 : decode b_tb_unhook 37 = .ok (.istore 4, 2) := by decide +kernel
theorem d_tb_unhook_39 : decode b_tb_unhook 39 = .ok (.iload 4, 2) := by decide +kernel
theorem d_tb_unhook_41 : decode b_tb_unhook 41 = .ok (.aload_n 0, 1) := by decide +kernel
theorem d_tb_unhook_42 : decode b_tb_unhook 42 = .ok (.getfield 52, 3) := by decide +kernel
theorem d_tb_unhook_45 : decode b_tb_unhook 45 = .ok (.if_icmp .ge 43, 3) := by decide +kernel
theorem d_tb_unhook_48 : decode b_tb_unhook 48 = .ok (.iload_n 3, 1) := by decide +kernel
theorem d_tb_unhook_49 : decode b_tb_unhook 49 = .ok (.ifCond .eq 39, 3) := by decide +kernel
theorem d_tb_unhook_52 : decode b_tb_unhook 52 = .ok (.aload_n 0, 1) := by decide +kernel
theorem d_tb_unhook_53 : decode b_tb_unhook 53 = .ok (.getfield 31, 3) := by decide +kernel
theorem d_tb_unhook_56 : decode b_tb_unhook 56 = .ok (.iload_n 3, 1) := by decide +kernel
theorem d_tb_unhook_57 : decode b_tb_unhook 57 = .ok (.iaload, 1) := by decide +kernel
theorem d_tb_unhook_58 : decode b_tb_unhook 58 = .ok (.iload_n 1, 1) := by decide +kernel
theorem d_tb_unhook_59 : decode b_tb_unhook 59 = .ok (.if_icmp .ne 16, 3) := by decide +kernel
theorem d_tb_unhook_62 : decode b_tb_unhook 62 = .ok (.aload_n 0, 1) := by decide +kernel
theorem d_tb_unhook_63 : decode b_tb_unhook 63 = .ok (.getfield 31, 3) := by decide +kernel
theorem d_tb_unhook_66 : decode b_tb_unhook 66 = .ok (.iload_n 3, 1) := by decide +kernel
theorem d_tb_unhook_67 : decode b_tb_unhook 67 = .ok (.aload_n 0, 1) := by decide +kernel
theorem d_tb_unhook_68 : decode b_tb_unhook 68 = .ok (.getfield 31, 3) := by decide +kernel
theorem d_tb_unhook_71 : decode b_tb_unhook 71 = .ok (.iload_n 1, 1) := by decide +kernel
theorem d_tb_unhook_72 : decode b_tb_unhook 72 = .ok (.iaload, 1) := by decide +kernel
theorem d_tb_unhook_73 : decode b_tb_unhook 73 = .ok (.iastore, 1) := by decide +kernel
theorem d_tb_unhook_74 : decode b_tb_unhook 74 = .ok (.return_, 1) := by decide +kernel
theorem d_tb_unhook_75 : decode b_tb_unhook 75 = .ok (.aload_n 0, 1) := by decide +kernel
theorem d_tb_unhook_76 : decode b_tb_unhook 76 = .ok (.getfield 31, 3) := by decide +kernel
theorem d_tb_unhook_79 : decode b_tb_unhook 79 = .ok (.iload_n 3, 1) := by decide +kernel
theorem d_tb_unhook_80 : decode b_tb_unhook 80 = .ok (.iaload, 1) := by decide +kernel
theorem d_tb_unhook_81 : decode b_tb_unhook 81 = .ok (.istore_n 3, 1) := by decide +kernel
theorem d_tb_unhook_82 : decode b_tb_unhook 82 = .ok (.iinc 4 1, 3) := by decide +kernel
theorem d_tb_unhook_85 : decode b_tb_unhook 85 = .ok (.goto (-46), 3) := by decide +kernel
theorem d_tb_unhook_88 : decode b_tb_unhook 88 = .ok (.return_, 1) := by decide +kernel
theorem d_tb_dropPair_0 : decode b_tb_dropPair 0 = .ok (.aload_n 0, 1) := by decide +kernel
theorem d_tb_dropPair_1 : decode b_tb_dropPair 1 = .ok (.iload_n 1, 1) := by decide +kernel
theorem d_tb_dropPair_2 : decode b_tb_dropPair 2 = .ok (.invokevirtual 34, 3) := by decide +kernel
theorem d_tb_dropPair_5 : decode b_tb_dropPair 5 = .ok (.istore_n 3, 1) := by decide +kernel
theorem d_tb_dropPair_6 : decode b_tb_dropPair 6 = .ok (.iload_n 3, 1) := by decide +kernel
theorem d_tb_dropPair_7 : decode b_tb_dropPair 7 = .ok (.ifCond .eq 13, 3) := by decide +kernel
theorem d_tb_dropPair_10 : decode b_tb_dropPair 10 = .ok (.aload_n 0, 1) := by decide +kernel
theorem d_tb_dropPair_11 : decode b_tb_dropPair 11 = .ok (.getfield 19, 3) := by decide +kernel
theorem d_tb_dropPair_14 : decode b_tb_dropPair 14 = .ok (.iload_n 3, 1) := by decide +kernel
theorem d_tb_dropPair_15 : decode b_tb_dropPair 15 = .ok (.iaload, 1) := by decide +kernel
theorem d_tb_dropPair_16 : decode b_tb_dropPair 16 = .ok (.iload_n 2, 1) := by decide +kernel
theorem d_tb_dropPair_17 : decode b_tb_dropPair 17 = .ok (.if_icmp .eq 5, 3) := by decide +kernel
theorem d_tb_dropPair_20 : decode b_tb_dropPair 20 = .ok (.iconst 0, 1) := by decide +kernel
theorem d_tb_dropPair_21 : decode b_tb_dropPair 21 = .ok (.ireturn, 1) := by decide +kernel
theorem d_tb_dropPair_22 : decode b_tb_dropPair 22 = .ok (.aload_n 0, 1) := by decide +kernel
theorem d_tb_dropPair_23 : decode b_tb_dropPair 23 = .ok (.iload_n 3, 1) := by decide +kernel
theorem d_tb_dropPair_24 : decode b_tb_dropPair 24 = .ok (.invokevirtual 60, 3) := by decide +kernel
theorem d_tb_dropPair_27 : decode b_tb_dropPair 27 = .ok (.iconst 1, 1) := by decide +kernel
theorem d_tb_dropPair_28 : decode b_tb_dropPair 28 = .ok (.ireturn, 1) := by decide +kernel
theorem d_tb_holdsKey_0 : decode b_tb_holdsKey 0 = .ok (.aload_n 0, 1) := by decide +kernel
theorem d_tb_holdsKey_1 : decode b_tb_holdsKey 1 = .ok (.iload_n 1, 1) := by decide +kernel
theorem d_tb_holdsKey_2 : decode b_tb_holdsKey 2 = .ok (.invokevirtual 34, 3) := by decide +kernel
theorem d_tb_holdsKey_5 : decode b_tb_holdsKey 5 = .ok (.ifCond .eq 7, 3) := by decide +kernel
theorem d_tb_holdsKey_8 : decode b_tb_holdsKey 8 = .ok (.iconst 1, 1) := by decide +kernel
theorem d_tb_holdsKey_9 : decode b_tb_holdsKey 9 = .ok (.goto 4, 3) := by decide +kernel
theorem d_tb_holdsKey_12 : decode b_tb_holdsKey 12 = .ok (.iconst 0, 1) := by decide +kernel
theorem d_tb_holdsKey_13 : decode b_tb_holdsKey 13 = .ok (.ireturn, 1) := by decide +kernel
theorem d_tb_holdsValue_0 : decode b_tb_holdsValue 0 = .ok (.aload_n 0, 1) := by decide +kernel
theorem d_tb_holdsValue_1 : decode b_tb_holdsValue 1 = .ok (.getfield 25, 3) := by decide +kernel
theorem d_tb_holdsValue_4 : decode b_tb_holdsValue 4 = .ok (.iconst 0, 1) := by decide +kernel
theorem d_tb_holdsValue_5 : decode b_tb_holdsValue 5 = .ok (.iaload, 1) := by decide +kernel
theorem d_tb_holdsValue_6 : decode b_tb_holdsValue 6 = .ok (.istore_n 2, 1) := by decide +kernel
theorem d_tb_holdsValue_7 : decode b_tb_holdsValue 7 = .ok (.iconst 0, 1) := by decide +kernel
theorem d_tb_holdsValue_8 : decode b_tb_holdsValue 8 = .ok (.istore_n 3, 1) := by decide +kernel
theorem d_tb_holdsValue_9 : decode b_tb_holdsValue 9 = .ok (.iload_n 3, 1) := by decide +kernel
theorem d_tb_holdsValue_10 : decode b_tb_holdsValue 10 = .ok (.aload_n 0, 1) := by decide +kernel
theorem d_tb_holdsValue_11 : decode b_tb_holdsValue 11 = .ok (.getfield 52, 3) := by decide +kernel
theorem d_tb_holdsValue_14 : decode b_tb_holdsValue 14 = .ok (.if_icmp .ge 28, 3) := by decide +kernel
theorem d_tb_holdsValue_17 : decode b_tb_holdsValue 17 = .ok (.aload_n 0, 1) := by decide +kernel
theorem d_tb_holdsValue_18 : decode b_tb_holdsValue 18 = .ok (.getfield 19, 3) := by decide +kernel
theorem d_tb_holdsValue_21 : decode b_tb_holdsValue 21 = .ok (.iload_n 2, 1) := by decide +kernel
theorem d_tb_holdsValue_22 : decode b_tb_holdsValue 22 = .ok (.iaload, 1) := by decide +kernel
theorem d_tb_holdsValue_23 : decode b_tb_holdsValue 23 = .ok (.iload_n 1, 1) := by decide +kernel
theorem d_tb_holdsValue_24 : decode b_tb_holdsValue 24 = .ok (.if_icmp .ne 5, 3) := by decide +kernel
theorem d_tb_holdsValue_27 : decode b_tb_holdsValue 27 = .ok (.iconst 1, 1) := by decide +kernel
theorem d_tb_holdsValue_28 : decode b_tb_holdsValue 28 = .ok (.ireturn, 1) := by decide +kernel
theorem d_tb_holdsValue_29 : decode b_tb_holdsValue 29 = .ok (.aload_n 0, 1) := by decide +kernel
theorem d_tb_holdsValue_30 : decode b_tb_holdsValue 30 = .ok (.getfield 25, 3) := by decide +kernel
theorem d_tb_holdsValue_33 : decode b_tb_holdsValue 33 = .ok (.iload_n 2, 1) := by decide +kernel
theorem d_tb_holdsValue_34 : decode b_tb_holdsValue 34 = .ok (.iaload, 1) := by decide +kernel
theorem d_tb_holdsValue_35 : decode b_tb_holdsValue 35 = .ok (.istore_n 2, 1) := by decide +kernel
theorem d_tb_holdsValue_36 : decode b_tb_holdsValue 36 = .ok (.iinc 3 1, 3) := by decide +kernel
theorem d_tb_holdsValue_39 : decode b_tb_holdsValue 39 = .ok (.goto (-30), 3) := by decide +kernel
theorem d_tb_holdsValue_42 : decode b_tb_holdsValue 42 = .ok (.iconst 0, 1) := by decide +kernel
theorem d_tb_holdsValue_43 : decode b_tb_holdsValue 43 = .ok (.ireturn, 1) := by decide +kernel
theorem d_tb_dropAll_0 : decode b_tb_dropAll 0 = .ok (.aload_n 0, 1) := by decide +kernel
theorem d_tb_dropAll_1 : decode b_tb_dropAll 1 = .ok (.getfield 52, 3) := by decide +kernel
theorem d_tb_dropAll_4 : decode b_tb_dropAll 4 = .ok (.istore_n 1, 1) := by decide +kernel
theorem d_tb_dropAll_5 : decode b_tb_dropAll 5 = .ok (.aload_n 0, 1) := by decide +kernel
theorem d_tb_dropAll_6 : decode b_tb_dropAll 6 = .ok (.getfield 28, 3) := by decide +kernel
theorem d_tb_dropAll_9 : decode b_tb_dropAll 9 = .ok (.iconst 0, 1) := by decide +kernel
theorem d_tb_dropAll_10 : decode b_tb_dropAll 10 = .ok (.invokestatic 69, 3) := by decide +kernel
theorem d_tb_dropAll_13 : decode b_tb_dropAll 13 = .ok (.aload_n 0, 1) := by decide +kernel
theorem d_tb_dropAll_14 : decode b_tb_dropAll 14 = .ok (.getfield 22, 3) := by decide +kernel
theorem d_tb_dropAll_17 : decode b_tb_dropAll 17 = .ok (.iconst 0, 1) := by decide +kernel
theorem d_tb_dropAll_18 : decode b_tb_dropAll 18 = .ok (.iconst 0, 1) := by decide +kernel
theorem d_tb_dropAll_19 : decode b_tb_dropAll 19 = .ok (.iastore, 1) := by decide +kernel
theorem d_tb_dropAll_20 : decode b_tb_dropAll 20 = .ok (.aload_n 0, 1) := by decide +kernel
theorem d_tb_dropAll_21 : decode b_tb_dropAll 21 = .ok (.getfield 25, 3) := by decide +kernel
theorem d_tb_dropAll_24 : decode b_tb_dropAll 24 = .ok (.iconst 0, 1) := by decide +kernel
theorem d_tb_dropAll_25 : decode b_tb_dropAll 25 = .ok (.iconst 0, 1) := by decide +kernel
theorem d_tb_dropAll_26 : decode b_tb_dropAll 26 = .ok (.iastore, 1) := by decide +kernel
theorem d_tb_dropAll_27 : decode b_tb_dropAll 27 = .ok (.aload_n 0, 1) := by decide +kernel
theorem d_tb_dropAll_28 : decode b_tb_dropAll 28 = .ok (.iconst 0, 1) := by decide +kernel
theorem d_tb_dropAll_29 : decode b_tb_dropAll 29 = .ok (.putfield 75, 3) := by decide +kernel
theorem d_tb_dropAll_32 : decode b_tb_dropAll 32 = .ok (.aload_n 0, 1) := by decide +kernel
theorem d_tb_dropAll_33 : decode b_tb_dropAll 33 = .ok (.iconst 0, 1) := by decide +kernel
theorem d_tb_dropAll_34 : decode b_tb_dropAll 34 = .ok (.putfield 78, 3) := by decide +kernel
theorem d_tb_dropAll_37 : decode b_tb_dropAll 37 = .ok (.aload_n 0, 1) := by decide +kernel
theorem d_tb_dropAll_38 : decode b_tb_dropAll 38 = .ok (.iconst 0, 1) := by decide +kernel
theorem d_tb_dropAll_39 : decode b_tb_dropAll 39 = .ok (.putfield 52, 3) := by decide +kernel
theorem d_tb_dropAll_42 : decode b_tb_dropAll 42 = .ok (.iload_n 1, 1) := by decide +kernel
theorem d_tb_dropAll_43 : decode b_tb_dropAll 43 = .ok (.ireturn, 1) := by decide +kernel
theorem d_tb_holdsKeysOf_0 : decode b_tb_holdsKeysOf 0 = .ok (.aload_n 1, 1) := by decide +kernel
theorem d_tb_holdsKeysOf_1 : decode b_tb_holdsKeysOf 1 = .ok (.getfield 25, 3) := by decide +kernel
theorem d_tb_holdsKeysOf_4 : decode b_tb_holdsKeysOf 4 = .ok (.iconst 0, 1) := by decide +kernel
theorem d_tb_holdsKeysOf_5 : decode b_tb_holdsKeysOf 5 = .ok (.iaload, 1) := by decide +kernel
theorem d_tb_holdsKeysOf_6 : decode b_tb_holdsKeysOf 6 = .ok (.istore_n 2, 1) := by decide +kernel
theorem d_tb_holdsKeysOf_7 : decode b_tb_holdsKeysOf 7 = .ok (.iconst 0, 1) := by decide +kernel
theorem d_tb_holdsKeysOf_8 : decode b_tb_holdsKeysOf 8 = .ok (.istore_n 3, 1) := by decide +kernel
theorem d_tb_holdsKeysOf_9 : decode b_tb_holdsKeysOf 9 = .ok (.iload_n 3, 1) := by decide +kernel
theorem d_tb_holdsKeysOf_10 : decode b_tb_holdsKeysOf 10 = .ok (.aload_n 1, 1) := by decide +kernel
theorem d_tb_holdsKeysOf_11 : decode b_tb_holdsKeysOf 11 = .ok (.getfield 52, 3) := by decide +kernel
theorem d_tb_holdsKeysOf_14 : decode b_tb_holdsKeysOf 14 = .ok (.if_icmp .ge 31, 3) := by decide +kernel
theorem d_tb_holdsKeysOf_17 : decode b_tb_holdsKeysOf 17 = .ok (.aload_n 0, 1) := by decide +kernel
theorem d_tb_holdsKeysOf_18 : decode b_tb_holdsKeysOf 18 = .ok (.aload_n 1, 1) := by decide +kernel
theorem d_tb_holdsKeysOf_19 : decode b_tb_holdsKeysOf 19 = .ok (.getfield 15, 3) := by decide +kernel
theorem d_tb_holdsKeysOf_22 : decode b_tb_holdsKeysOf 22 = .ok (.iload_n 2, 1) := by decide +kernel
theorem d_tb_holdsKeysOf_23 : decode b_tb_holdsKeysOf 23 = .ok (.iaload, 1) := by decide +kernel
theorem d_tb_holdsKeysOf_24 : decode b_tb_holdsKeysOf 24 = .ok (.invokevirtual 81, 3) := by decide +kernel
theorem d_tb_holdsKeysOf_27 : decode b_tb_holdsKeysOf 27 = .ok (.ifCond .ne 5, 3) := by decide +kernel
theorem d_tb_holdsKeysOf_30 : decode b_tb_holdsKeysOf 30 = .ok (.iconst 0, 1) := by decide +kernel
theorem d_tb_holdsKeysOf_31 : decode b_tb_holdsKeysOf 31 = .ok (.ireturn, 1) := by decide +kernel
theorem d_tb_holdsKeysOf_32 : decode b_tb_holdsKeysOf 32 = .ok (.aload_n 1, 1) := by decide +kernel
theorem d_tb_holdsKeysOf_33 : decode b_tb_holdsKeysOf 33 = .ok (.getfield 25, 3) := by decide +kernel
theorem d_tb_holdsKeysOf_36 : decode b_tb_holdsKeysOf 36 = .ok (.iload_n 2, 1) := by decide +kernel
theorem d_tb_holdsKeysOf_37 : decode b_tb_holdsKeysOf 37 = .ok (.iaload, 1) := by decide +kernel
theorem d_tb_holdsKeysOf_38 : decode b_tb_holdsKeysOf 38 = .ok (.istore_n 2, 1) := by decide +kernel
theorem d_tb_holdsKeysOf_39 : decode b_tb_holdsKeysOf 39 = .ok (.iinc 3 1, 3) := by decide +kernel
theorem d_tb_holdsKeysOf_42 : decode b_tb_holdsKeysOf 42 = .ok (.goto (-33), 3) := by decide +kernel
theorem d_tb_holdsKeysOf_45 : decode b_tb_holdsKeysOf 45 = .ok (.iconst 1, 1) := by decide +kernel
theorem d_tb_holdsKeysOf_46 : decode b_tb_holdsKeysOf 46 = .ok (.ireturn, 1) := by decide +kernel
theorem d_tb_storeAllOf_0 : decode b_tb_storeAllOf 0 = .ok (.aload_n 1, 1) := by decide +kernel
theorem d_tb_storeAllOf_1 : decode b_tb_storeAllOf 1 = .ok (.getfield 52, 3) := by decide +kernel
theorem d_tb_storeAllOf_4 : decode b_tb_storeAllOf 4 = .ok (.istore_n 2, 1) := by decide +kernel
theorem d_tb_storeAllOf_5 : decode b_tb_storeAllOf 5 = .ok (.aload_n 1, 1) := by decide +kernel
theorem d_tb_storeAllOf_6 : decode b_tb_storeAllOf 6 = .ok (.getfield 25, 3) := by decide +kernel
theorem d_tb_storeAllOf_9 : decode b_tb_storeAllOf 9 = .ok (.iconst 0, 1) := by decide +kernel
theorem d_tb_storeAllOf_10 : decode b_tb_storeAllOf 10 = .ok (.iaload, 1) := by decide +kernel
theorem d_tb_storeAllOf_11 : decode b_tb_storeAllOf 11 = .ok (.istore_n 3, 1) := by decide +kernel
theorem d_tb_storeAllOf_12 : decode b_tb_storeAllOf 12 = .ok (.iconst 0, 1) := by decide +kernel
theorem d_tb_storeAllOf_13 : decode b_tb_storeAllOf 13 = .ok (.istore 4, 2) := by decide +kernel
theorem d_tb_storeAllOf_15 : decode b_tb_storeAllOf 15 = .ok (.iload 4, 2) := by decide +kernel
theorem d_tb_storeAllOf_17 : decode b_tb_storeAllOf 17 = .ok (.iload_n 2, 1) := by decide +kernel
theorem d_tb_storeAllOf_18 : decode b_tb_storeAllOf 18 = .ok (.if_icmp .ge 33, 3) := by decide +kernel
theorem d_tb_storeAllOf_21 : decode b_tb_storeAllOf 21 = .ok (.aload_n 0, 1) := by decide +kernel
theorem d_tb_storeAllOf_22 : decode b_tb_storeAllOf 22 = .ok (.aload_n 1, 1) := by decide +kernel
theorem d_tb_storeAllOf_23 : decode b_tb_storeAllOf 23 = .ok (.getfield 15, 3) := by decide +kernel
theorem d_tb_storeAllOf_26 : decode b_tb_storeAllOf 26 = .ok (.iload_n 3, 1) := by decide +kernel
theorem d_tb_storeAllOf_27 : decode b_tb_storeAllOf 27 = .ok (.iaload, 1) := by decide +kernel
theorem d_tb_storeAllOf_28 : decode b_tb_storeAllOf 28 = .ok (.aload_n 1, 1) := by decide +kernel
theorem d_tb_storeAllOf_29 : decode b_tb_storeAllOf 29 = .ok (.getfield 19, 3) := by decide +kernel
theorem d_tb_storeAllOf_32 : decode b_tb_storeAllOf 32 = .ok (.iload_n 3, 1) := by decide +kernel
theorem d_tb_storeAllOf_33 : decode b_tb_storeAllOf 33 = .ok (.iaload, 1) := by decide +kernel
theorem d_tb_storeAllOf_34 : decode b_tb_storeAllOf 34 = .ok (.invokevirtual 56, 3) := by decide +kernel
theorem d_tb_storeAllOf_37 : decode b_tb_storeAllOf 37 = .ok (.pop2, 1) := by decide +kernel
theorem d_tb_storeAllOf_38 : decode b_tb_storeAllOf 38 = .ok (.aload_n 1, 1) := by decide +kernel
theorem d_tb_storeAllOf_39 : decode b_tb_storeAllOf 39 = .ok (.getfield 25, 3) := by decide +kernel
theorem d_tb_storeAllOf_42 : decode b_tb_storeAllOf 42 = .ok (.iload_n 3, 1) := by decide +kernel
theorem d_tb_storeAllOf_43 : decode b_tb_storeAllOf 43 = .ok (.iaload, 1) := by decide +kernel
theorem d_tb_storeAllOf_44 : decode b_tb_storeAllOf 44 = .ok (.istore_n 3, 1) := by decide +kernel
theorem d_tb_storeAllOf_45 : decode b_tb_storeAllOf 45 = .ok (.iinc 4 1, 3) := by decide +kernel
theorem d_tb_storeAllOf_48 : decode b_tb_storeAllOf 48 = .ok (.goto (-33), 3) := by decide +kernel
theorem d_tb_storeAllOf_51 : decode b_tb_storeAllOf 51 = .ok (.return_, 1) := by decide +kernel
theorem d_tb_slotAt_0 : decode b_tb_slotAt 0 = .ok (.iload_n 1, 1) := by decide +kernel
theorem d_tb_slotAt_1 : decode b_tb_slotAt 1 = .ok (.ifCond .lt 11, 3) := by decide +kernel
theorem d_tb_slotAt_4 : decode b_tb_slotAt 4 = .ok (.iload_n 1, 1) := by decide +kernel
theorem d_tb_slotAt_5 : decode b_tb_slotAt 5 = .ok (.aload_n 0, 1) := by decide +kernel
theorem d_tb_slotAt_6 : decode b_tb_slotAt 6 = .ok (.getfield 52, 3) := by decide +kernel
theorem d_tb_slotAt_9 : decode b_tb_slotAt 9 = .ok (.if_icmp .lt 5, 3) := by decide +kernel
theorem d_tb_slotAt_12 : decode b_tb_slotAt 12 = .ok (.iconst 0, 1) := by decide +kernel
theorem d_tb_slotAt_13 : decode b_tb_slotAt 13 = .ok (.ireturn, 1) := by decide +kernel
theorem d_tb_slotAt_14 : decode b_tb_slotAt 14 = .ok (.aload_n 0, 1) := by decide +kernel
theorem d_tb_slotAt_15 : decode b_tb_slotAt 15 = .ok (.getfield 25, 3) := by decide +kernel
theorem d_tb_slotAt_18 : decode b_tb_slotAt 18 = .ok (.iconst 0, 1) := by decide +kernel
theorem d_tb_slotAt_19 : decode b_tb_slotAt 19 = .ok (.iaload, 1) := by decide +kernel
theorem d_tb_slotAt_20 : decode b_tb_slotAt 20 = .ok (.istore_n 2, 1) := by decide +kernel
theorem d_tb_slotAt_21 : decode b_tb_slotAt 21 = .ok (.iconst 0, 1) := by decide +kernel
theorem d_tb_slotAt_22 : decode b_tb_slotAt 22 = .ok (.istore_n 3, 1) := by decide +kernel
theorem d_tb_slotAt_23 : decode b_tb_slotAt 23 = .ok (.iload_n 3, 1) := by decide +kernel
theorem d_tb_slotAt_24 : decode b_tb_slotAt 24 = .ok (.iload_n 1, 1) := by decide +kernel
theorem d_tb_slotAt_25 : decode b_tb_slotAt 25 = .ok (.if_icmp .ge 16, 3) := by decide +kernel
theorem d_tb_slotAt_28 : decode b_tb_slotAt 28 = .ok (.aload_n 0, 1) := by decide +kernel
theorem d_tb_slotAt_29 : decode b_tb_slotAt 29 = .ok (.getfield 25, 3) := by decide +kernel
theorem d_tb_slotAt_32 : decode b_tb_slotAt 32 = .ok (.iload_n 2, 1) := by decide +kernel
theorem d_tb_slotAt_33 : decode b_tb_slotAt 33 = .ok (.iaload, 1) := by decide +kernel
theorem d_tb_slotAt_34 : decode b_tb_slotAt 34 = .ok (.istore_n 2, 1) := by decide +kernel
theorem d_tb_slotAt_35 : decode b_tb_slotAt 35 = .ok (.iinc 3 1, 3) := by decide +kernel
theorem d_tb_slotAt_38 : decode b_tb_slotAt 38 = .ok (.goto (-15), 3) := by decide +kernel
theorem d_tb_slotAt_41 : decode b_tb_slotAt 41 = .ok (.iload_n 2, 1) := by decide +kernel
theorem d_tb_slotAt_42 : decode b_tb_slotAt 42 = .ok (.ireturn, 1) := by decide +kernel
theorem d_tb_total_0 : decode b_tb_total 0 = .ok (.lconst 0, 1) := by decide +kernel
theorem d_tb_total_1 : decode b_tb_total 1 = .ok (.lstore_n 1, 1) := by decide +kernel
theorem d_tb_total_2 : decode b_tb_total 2 = .ok (.aload_n 0, 1) := by decide +kernel
theorem d_tb_total_3 : decode b_tb_total 3 = .ok (.getfield 25, 3) := by decide +kernel
theorem d_tb_total_6 : decode b_tb_total 6 = .ok (.iconst 0, 1) := by decide +kernel
theorem d_tb_total_7 : decode b_tb_total 7 = .ok (.iaload, 1) := by decide +kernel
theorem d_tb_total_8 : decode b_tb_total 8 = .ok (.istore_n 3, 1) := by decide +kernel
theorem d_tb_total_9 : decode b_tb_total 9 = .ok (.iconst 0, 1) := by decide +kernel
theorem d_tb_total_10 : decode b_tb_total 10 = .ok (.istore 4, 2) := by decide +kernel
theorem d_tb_total_12 : decode b_tb_total 12 = .ok (.iload 4, 2) := by decide +kernel
theorem d_tb_total_14 : decode b_tb_total 14 = .ok (.aload_n 0, 1) := by decide +kernel
theorem d_tb_total_15 : decode b_tb_total 15 = .ok (.getfield 52, 3) := by decide +kernel
theorem d_tb_total_18 : decode b_tb_total 18 = .ok (.if_icmp .ge 38, 3) := by decide +kernel
theorem d_tb_total_21 : decode b_tb_total 21 = .ok (.lload_n 1, 1) := by decide +kernel
theorem d_tb_total_22 : decode b_tb_total 22 = .ok (.ldc2_w 85, 3) := by decide +kernel
theorem d_tb_total_25 : decode b_tb_total 25 = .ok (.aload_n 0, 1) := by decide +kernel
theorem d_tb_total_26 : decode b_tb_total 26 = .ok (.getfield 15, 3) := by decide +kernel
theorem d_tb_total_29 : decode b_tb_total 29 = .ok (.iload_n 3, 1) := by decide +kernel
theorem d_tb_total_30 : decode b_tb_total 30 = .ok (.iaload, 1) := by decide +kernel
theorem d_tb_total_31 : decode b_tb_total 31 = .ok (.i2l, 1) := by decide +kernel
theorem d_tb_total_32 : decode b_tb_total 32 = .ok (.lmul, 1) := by decide +kernel
theorem d_tb_total_33 : decode b_tb_total 33 = .ok (.aload_n 0, 1) := by decide +kernel
theorem d_tb_total_34 : decode b_tb_total 34 = .ok (.getfield 19, 3) := by decide +kernel
theorem d_tb_total_37 : decode b_tb_total 37 = .ok (.iload_n 3, 1) := by decide +kernel
theorem d_tb_total_38 : decode b_tb_total 38 = .ok (.iaload, 1) := by decide +kernel
theorem d_tb_total_39 : decode b_tb_total 39 = .ok (.i2l, 1) := by decide +kernel
theorem d_tb_total_40 : decode b_tb_total 40 = .ok (.ladd, 1) := by decide +kernel
theorem d_tb_total_41 : decode b_tb_total 41 = .ok (.ladd, 1) := by decide +kernel
theorem d_tb_total_42 : decode b_tb_total 42 = .ok (.lstore_n 1, 1) := by decide +kernel
theorem d_tb_total_43 : decode b_tb_total 43 = .ok (.aload_n 0, 1) := by decide +kernel
theorem d_tb_total_44 : decode b_tb_total 44 = .ok (.getfield 25, 3) := by decide +kernel
theorem d_tb_total_47 : decode b_tb_total 47 = .ok (.iload_n 3, 1) := by decide +kernel
theorem d_tb_total_48 : decode b_tb_total 48 = .ok (.iaload, 1) := by decide +kernel
theorem d_tb_total_49 : decode b_tb_total 49 = .ok (.istore_n 3, 1) := by decide +kernel
theorem d_tb_total_50 : decode b_tb_total 50 = .ok (.iinc 4 1, 3) := by decide +kernel
theorem d_tb_total_53 : decode b_tb_total 53 = .ok (.goto (-41), 3) := by decide +kernel
theorem d_tb_total_56 : decode b_tb_total 56 = .ok (.lload_n 1, 1) := by decide +kernel
theorem d_tb_total_57 : decode b_tb_total 57 = .ok (.lreturn, 1) := by decide +kernel
theorem d_tb_dropByRest_0 : decode b_tb_dropByRest 0 = .ok (.aload_n 0, 1) := by decide +kernel
theorem d_tb_dropByRest_1 : decode b_tb_dropByRest 1 = .ok (.getfield 52, 3) := by decide +kernel
theorem d_tb_dropByRest_4 : decode b_tb_dropByRest 4 = .ok (.istore_n 3, 1) := by decide +kernel
theorem d_tb_dropByRest_5 : decode b_tb_dropByRest 5 = .ok (.aload_n 0, 1) := by decide +kernel
theorem d_tb_dropByRest_6 : decode b_tb_dropByRest 6 = .ok (.getfield 25, 3) := by decide +kernel
theorem d_tb_dropByRest_9 : decode b_tb_dropByRest 9 = .ok (.iconst 0, 1) := by decide +kernel
theorem d_tb_dropByRest_10 : decode b_tb_dropByRest 10 = .ok (.iaload, 1) := by decide +kernel
theorem d_tb_dropByRest_11 : decode b_tb_dropByRest 11 = .ok (.istore 4, 2) := by decide +kernel
theorem d_tb_dropByRest_13 : decode b_tb_dropByRest 13 = .ok (.iconst 0, 1) := by decide +kernel
theorem d_tb_dropByRest_14 : decode b_tb_dropByRest 14 = .ok (.istore 5, 2) := by decide +kernel
theorem d_tb_dropByRest_16 : decode b_tb_dropByRest 16 = .ok (.iload 5, 2) := by decide +kernel
theorem d_tb_dropByRest_18 : decode b_tb_dropByRest 18 = .ok (.iload_n 3, 1) := by decide +kernel
theorem d_tb_dropByRest_19 : decode b_tb_dropByRest 19 = .ok (.if_icmp .ge 43, 3) := by decide +kernel
theorem d_tb_dropByRest_22 : decode b_tb_dropByRest 22 = .ok (.aload_n 0, 1) := by decide +kernel
theorem d_tb_dropByRest_23 : decode b_tb_dropByRest 23 = .ok (.getfield 25, 3) := by decide +kernel
theorem d_tb_dropByRest_26 : decode b_tb_dropByRest 26 = .ok (.iload 4, 2) := by decide +kernel
theorem d_tb_dropByRest_28 : decode b_tb_dropByRest 28 = .ok (.iaload, 1) := by decide +kernel
theorem d_tb_dropByRest_29 : decode b_tb_dropByRest 29 = .ok (.istore 6, 2) := by decide +kernel
theorem d_tb_dropByRest_31 : decode b_tb_dropByRest 31 = .ok (.aload_n 0, 1) := by decide +kernel
theorem d_tb_dropByRest_32 : decode b_tb_dropByRest 32 = .ok (.getfield 15, 3) := by decide +kernel
theorem d_tb_dropByRest_35 : decode b_tb_dropByRest 35 = .ok (.iload 4, 2) := by decide +kernel
theorem d_tb_dropByRest_37 : decode b_tb_dropByRest 37 = .ok (.iaload, 1) := by decide +kernel
theorem d_tb_dropByRest_38 : decode b_tb_dropByRest 38 = .ok (.iload_n 1, 1) := by decide +kernel
theorem d_tb_dropByRest_39 : decode b_tb_dropByRest 39 = .ok (.invokestatic 63, 3) := by decide +kernel
theorem d_tb_dropByRest_42 : decode b_tb_dropByRest 42 = .ok (.iload_n 2, 1) := by decide +kernel
theorem d_tb_dropByRest_43 : decode b_tb_dropByRest 43 = .ok (.if_icmp .ne 9, 3) := by decide +kernel
theorem d_tb_dropByRest_46 : decode b_tb_dropByRest 46 = .ok (.aload_n 0, 1) := by decide +kernel
theorem d_tb_dropByRest_47 : decode b_tb_dropByRest 47 = .ok (.iload 4, 2) := by decide +kernel
theorem d_tb_dropByRest_49 : decode b_tb_dropByRest 49 = .ok (.invokevirtual 60, 3) := by decide +kernel
theorem d_tb_dropByRest_52 : decode b_tb_dropByRest 52 = .ok (.iload 6, 2) := by decide +kernel
theorem d_tb_dropByRest_54 : decode b_tb_dropByRest 54 = .ok (.istore 4, 2) := by decide +kernel
theorem d_tb_dropByRest_56 : decode b_tb_dropByRest 56 = .ok (.iinc 5 1, 3) := by decide +kernel
theorem d_tb_dropByRest_59 : decode b_tb_dropByRest 59 = .ok (.goto (-43), 3) := by decide +kernel
theorem d_tb_dropByRest_62 : decode b_tb_dropByRest 62 = .ok (.iload_n 3, 1) := by decide +kernel
theorem d_tb_dropByRest_63 : decode b_tb_dropByRest 63 = .ok (.aload_n 0, 1) := by decide +kernel
theorem d_tb_dropByRest_64 : decode b_tb_dropByRest 64 = .ok (.getfield 52, 3) := by decide +kernel
theorem d_tb_dropByRest_67 : decode b_tb_dropByRest 67 = .ok (.isub, 1) := by decide +kernel
theorem d_tb_dropByRest_68 : decode b_tb_dropByRest 68 = .ok (.ireturn, 1) := by decide +kernel
theorem d_tb_increase_0 : decode b_tb_increase 0 = .ok (.aload_n 0, 1) := by decide +kernel
theorem d_tb_increase_1 : decode b_tb_increase 1 = .ok (.getfield 25, 3) := by decide +kernel
theorem d_tb_increase_4 : decode b_tb_increase 4 = .ok (.iconst 0, 1) := by decide +kernel
theorem d_tb_increase_5 : decode b_tb_increase 5 = .ok (.iaload, 1) := by decide +kernel
theorem d_tb_increase_6 : decode b_tb_increase 6 = .ok (.istore_n 2, 1) := by decide +kernel
theorem d_tb_increase_7 : decode b_tb_increase 7 = .ok (.iconst 0, 1) := by decide +kernel
theorem d_tb_increase_8 : decode b_tb_increase 8 = .ok (.istore_n 3, 1) := by decide +kernel
theorem d_tb_increase_9 : decode b_tb_increase 9 = .ok (.iload_n 3, 1) := by decide +kernel
theorem d_tb_increase_10 : decode b_tb_increase 10 = .ok (.aload_n 0, 1) := by decide +kernel
theorem d_tb_increase_11 : decode b_tb_increase 11 = .ok (.getfield 52, 3) := by decide +kernel
theorem d_tb_increase_14 : decode b_tb_increase 14 = .ok (.if_icmp .ge 26, 3) := by decide +kernel
theorem d_tb_increase_17 : decode b_tb_increase 17 = .ok (.aload_n 0, 1) := by decide +kernel
theorem d_tb_increase_18 : decode b_tb_increase 18 = .ok (.getfield 19, 3) := by decide +kernel
theorem d_tb_increase_21 : decode b_tb_increase 21 = .ok (.iload_n 2, 1) := by decide +kernel
theorem d_tb_increase_22 : decode b_tb_increase 22 = .ok (.dup2, 1) := by decide +kernel
theorem d_tb_increase_23 : decode b_tb_increase 23 = .ok (.iaload, 1) := by decide +kernel
theorem d_tb_increase_24 : decode b_tb_increase 24 = .ok (.iload_n 1, 1) := by decide +kernel
theorem d_tb_increase_25 : decode b_tb_increase 25 = .ok (.iadd, 1) := by decide +kernel
theorem d_tb_increase_26 : decode b_tb_increase 26 = .ok (.iastore, 1) := by decide +kernel
theorem d_tb_increase_27 : decode b_tb_increase 27 = .ok (.aload_n 0, 1) := by decide +kernel
theorem d_tb_increase_28 : decode b_tb_increase 28 = .ok (.getfield 25, 3) := by decide +kernel
theorem d_tb_increase_31 : decode b_tb_increase 31 = .ok (.iload_n 2, 1) := by decide +kernel
theorem d_tb_increase_32 : decode b_tb_increase 32 = .ok (.iaload, 1) := by decide +kernel
theorem d_tb_increase_33 : decode b_tb_increase 33 = .ok (.istore_n 2, 1) := by decide +kernel
theorem d_tb_increase_34 : decode b_tb_increase 34 = .ok (.iinc 3 1, 3) := by decide +kernel
theorem d_tb_increase_37 : decode b_tb_increase 37 = .ok (.goto (-28), 3) := by decide +kernel
theorem d_tb_increase_40 : decode b_tb_increase 40 = .ok (.aload_n 0, 1) := by decide +kernel
theorem d_tb_increase_41 : decode b_tb_increase 41 = .ok (.getfield 52, 3) := by decide +kernel
theorem d_tb_increase_44 : decode b_tb_increase 44 = .ok (.ireturn, 1) := by decide +kernel
theorem d_tb_matches_0 : decode b_tb_matches 0 = .ok (.aload_n 0, 1) := by decide +kernel
theorem d_tb_matches_1 : decode b_tb_matches 1 = .ok (.getfield 52, 3) := by decide +kernel
theorem d_tb_matches_4 : decode b_tb_matches 4 = .ok (.aload_n 1, 1) := by decide +kernel
theorem d_tb_matches_5 : decode b_tb_matches 5 = .ok (.getfield 52, 3) := by decide +kernel
theorem d_tb_matches_8 : decode b_tb_matches 8 = .ok (.if_icmp .eq 5, 3) := by decide +kernel
theorem d_tb_matches_11 : decode b_tb_matches 11 = .ok (.iconst 0, 1) := by decide +kernel
theorem d_tb_matches_12 : decode b_tb_matches 12 = .ok (.ireturn, 1) := by decide +kernel
theorem d_tb_matches_13 : decode b_tb_matches 13 = .ok (.aload_n 0, 1) := by decide +kernel
theorem d_tb_matches_14 : decode b_tb_matches 14 = .ok (.getfield 25, 3) := by decide +kernel
theorem d_tb_matches_17 : decode b_tb_matches 17 = .ok (.iconst 0, 1) := by decide +kernel
theorem d_tb_matches_18 : decode b_tb_matches 18 = .ok (.iaload, 1) := by decide +kernel
theorem d_tb_matches_19 : decode b_tb_matches 19 = .ok (.istore_n 2, 1) := by decide +kernel
theorem d_tb_matches_20 : decode b_tb_matches 20 = .ok (.iconst 0, 1) := by decide +kernel
theorem d_tb_matches_21 : decode b_tb_matches 21 = .ok (.istore_n 3, 1) := by decide +kernel
theorem d_tb_matches_22 : decode b_tb_matches 22 = .ok (.iload_n 3, 1) := by decide +kernel
theorem d_tb_matches_23 : decode b_tb_matches 23 = .ok (.aload_n 0, 1) := by decide +kernel
theorem d_tb_matches_24 : decode b_tb_matches 24 = .ok (.getfield 52, 3) := by decide +kernel
theorem d_tb_matches_27 : decode b_tb_matches 27 = .ok (.if_icmp .ge 51, 3) := by decide +kernel
theorem d_tb_matches_30 : decode b_tb_matches 30 = .ok (.aload_n 1, 1) := by decide +kernel
theorem d_tb_matches_31 : decode b_tb_matches 31 = .ok (.aload_n 0, 1) := by decide +kernel
theorem d_tb_matches_32 : decode b_tb_matches 32 = .ok (.getfield 15, 3) := by decide +kernel
theorem d_tb_matches_35 : decode b_tb_matches 35 = .ok (.iload_n 2, 1) := by decide +kernel
theorem d_tb_matches_36 : decode b_tb_matches 36 = .ok (.iaload, 1) := by decide +kernel
theorem d_tb_matches_37 : decode b_tb_matches 37 = .ok (.invokevirtual 34, 3) := by decide +kernel
theorem d_tb_matches_40 : decode b_tb_matches 40 = .ok (.istore 4, 2) := by decide +kernel
theorem d_tb_matches_42 : decode b_tb_matches 42 = .ok (.iload 4, 2) := by decide +kernel
theorem d_tb_matches_44 : decode b_tb_matches 44 = .ok (.ifCond .eq 19, 3) := by decide +kernel
theorem d_tb_matches_47 : decode b_tb_matches 47 = .ok (.aload_n 1, 1) := by decide +kernel
theorem d_tb_matches_48 : decode b_tb_matches 48 = .ok (.getfield 19, 3) := by decide +kernel
theorem d_tb_matches_51 : decode b_tb_matches 51 = .ok (.iload 4, 2) := by decide +kernel
theorem d_tb_matches_53 : decode b_tb_matches 53 = .ok (.iaload, 1) := by decide +kernel
theorem d_tb_matches_54 : decode b_tb_matches 54 = .ok (.aload_n 0, 1) := by decide +kernel
theorem d_tb_matches_55 : decode b_tb_matches 55 = .ok (.getfield 19, 3) := by decide +kernel
theorem d_tb_matches_58 : decode b_tb_matches 58 = .ok (.iload_n 2, 1) := by decide +kernel
theorem d_tb_matches_59 : decode b_tb_matches 59 = .ok (.iaload, 1) := by decide +kernel
theorem d_tb_matches_60 : decode b_tb_matches 60 = .ok (.if_icmp .eq 5, 3) := by decide +kernel
theorem d_tb_matches_63 : decode b_tb_matches 63 = .ok (.iconst 0, 1) := by decide +kernel
theorem d_tb_matches_64 : decode b_tb_matches 64 = .ok (.ireturn, 1) := by decide +kernel
theorem d_tb_matches_65 : decode b_tb_matches 65 = .ok (.aload_n 0, 1) := by decide +kernel
theorem d_tb_matches_66 : decode b_tb_matches 66 = .ok (.getfield 25, 3) := by decide +kernel
theorem d_tb_matches_69 : decode b_tb_matches 69 = .ok (.iload_n 2, 1) := by decide +kernel
theorem d_tb_matches_70 : decode b_tb_matches 70 = .ok (.iaload, 1) := by decide +kernel
theorem d_tb_matches_71 : decode b_tb_matches 71 = .ok (.istore_n 2, 1) := by decide +kernel
theorem d_tb_matches_72 : decode b_tb_matches 72 = .ok (.iinc 3 1, 3) := by decide +kernel
theorem d_tb_matches_75 : decode b_tb_matches 75 = .ok (.goto (-53), 3) := by decide +kernel
theorem d_tb_matches_78 : decode b_tb_matches 78 = .ok (.iconst 1, 1) := by decide +kernel
theorem d_tb_matches_79 : decode b_tb_matches 79 = .ok (.ireturn, 1) := by decide +kernel
end
section
theorem d_hh_init_0 : decode b_hh_init 0 = .ok (.aload_n 0, 1) := by decide +kernel
theorem d_hh_init_1 : decode b_hh_init 1 = .ok (.invokespecial 3, 3) := by decide +kernel
theorem d_hh_init_4 : decode b_hh_init 4 = .ok (.aload_n 0, 1) := by decide +kernel
theorem d_hh_init_5 : decode b_hh_init 5 = .ok (.iconst 3, 1) := by decide +kernel
theorem d_hh_init_6 : decode b_hh_init 6 = .ok (.anewarray 9, 3) := by decide +kernel
theorem d_hh_init_9 : decode b_hh_init 9 = .ok (.putfield 11, 3) := by decide +kernel
theorem d_hh_init_12 : decode b_hh_init 12 = .ok (.iconst 0, 1) := by decide +kernel
theorem d_hh_init_13 : decode b_hh_init 13 = .ok (.istore_n 1, 1) := by decide +kernel
theorem d_hh_init_14 : decode b_hh_init 14 = .ok (.iload_n 1, 1) := by decide +kernel
theorem d_hh_init_15 : decode b_hh_init 15 = .ok (.iconst 3, 1) := by decide +kernel
theorem d_hh_init_16 : decode b_hh_init 16 = .ok (.if_icmp .ge 32, 3) := by decide +kernel
theorem d_hh_init_19 : decode b_hh_init 19 = .ok (.aload_n 0, 1) := by decide +kernel
theorem d_hh_init_20 : decode b_hh_init 20 = .ok (.getfield 11, 3) := by decide +kernel
theorem d_hh_init_23 : decode b_hh_init 23 = .ok (.iload_n 1, 1) := by decide +kernel
theorem d_hh_init_24 : decode b_hh_init 24 = .ok (.new 9, 3) := by decide +kernel
theorem d_hh_init_27 : decode b_hh_init 27 = .ok (.dup, 1) := by decide +kernel
theorem d_hh_init_28 : decode b_hh_init 28 = .ok (.iload_n 1, 1) := by decide +kernel
theorem d_hh_init_29 : decode b_hh_init 29 = .ok (.iconst 2, 1) := by decide +kernel
theorem d_hh_init_30 : decode b_hh_init 30 = .ok (.if_icmp .ne 7, 3) := by decide +kernel
theorem d_hh_init_33 : decode b_hh_init 33 = .ok (.iconst 1, 1) := by decide +kernel
theorem d_hh_init_34 : decode b_hh_init 34 = .ok (.goto 4, 3) := by decide +kernel
theorem d_hh_init_37 : decode b_hh_init 37 = .ok (.iconst 0, 1) := by decide +kernel
theorem d_hh_init_38 : decode b_hh_init 38 = .ok (.invokespecial 15, 3) := by decide +kernel
theorem d_hh_init_41 : decode b_hh_init 41 = .ok (.aastore, 1) := by decide +kernel
theorem d_hh_init_42 : decode b_hh_init 42 = .ok (.iinc 1 1, 3) := by decide +kernel
theorem d_hh_init_45 : decode b_hh_init 45 = .ok (.goto (-31), 3) := by decide +kernel
theorem d_hh_init_48 : decode b_hh_init 48 = .ok (.return_, 1) := by decide +kernel
theorem d_hh_put_0 : decode b_hh_put 0 = .ok (.aload_n 0, 1) := by decide +kernel
theorem d_hh_put_1 : decode b_hh_put 1 = .ok (.iload_n 1, 1) := by decide +kernel
theorem d_hh_put_2 : decode b_hh_put 2 = .ok (.invokevirtual 18, 3) := by decide +kernel
theorem d_hh_put_5 : decode b_hh_put 5 = .ok (.astore 4, 2) := by decide +kernel
theorem d_hh_put_7 : decode b_hh_put 7 = .ok (.aload 4, 2) := by decide +kernel
theorem d_hh_put_9 : decode b_hh_put 9 = .ok (.ifnonnull 9, 3) := by decide +kernel
theorem d_hh_put_12 : decode b_hh_put 12 = .ok (.ldc2_w 22, 3) := by decide +kernel
theorem d_hh_put_15 : decode b_hh_put 15 = .ok (.goto 10, 3) := by decide +kernel
theorem d_hh_put_18 : decode b_hh_put 18 = .ok (.aload 4, 2) := by decide +kernel
theorem d_hh_put_20 : decode b_hh_put 20 = .ok (.iload_n 2, 1) := by decide +kernel
theorem d_hh_put_21 : decode b_hh_put 21 = .ok (.iload_n 3, 1) := by decide +kernel
theorem d_hh_put_22 : decode b_hh_put 22 = .ok (.invokevirtual 24, 3) := by decide +kernel
theorem d_hh_put_25 : decode b_hh_put 25 = .ok (.lreturn, 1) := by decide +kernel
theorem d_hh_tableOf_0 : decode b_hh_tableOf 0 = .ok (.iload_n 1, 1) := by decide +kernel
theorem d_hh_tableOf_1 : decode b_hh_tableOf 1 = .ok (.ifCond .lt 17, 3) := by decide +kernel
theorem d_hh_tableOf_4 : decode b_hh_tableOf 4 = .ok (.iload_n 1, 1) := by decide +kernel
theorem d_hh_tableOf_5 : decode b_hh_tableOf 5 = .ok (.iconst 3, 1) := by decide +kernel
theorem d_hh_tableOf_6 : decode b_hh_tableOf 6 = .ok (.if_icmp .ge 12, 3) := by decide +kernel
theorem d_hh_tableOf_9 : decode b_hh_tableOf 9 = .ok (.aload_n 0, 1) := by decide +kernel
theorem d_hh_tableOf_10 : decode b_hh_tableOf 10 = .ok (.getfield 11, 3) := by decide +kernel
theorem d_hh_tableOf_13 : decode b_hh_tableOf 13 = .ok (.iload_n 1, 1) := by decide +kernel
theorem d_hh_tableOf_14 : decode b_hh_tableOf 14 = .ok (.aaload, 1) := by decide +kernel
theorem d_hh_tableOf_15 : decode b_hh_tableOf 15 = .ok (.goto 4, 3) := by decide +kernel
theorem d_hh_tableOf_18 : decode b_hh_tableOf 18 = .ok (.aconst_null, 1) := by decide +kernel
theorem d_hh_tableOf_19 : decode b_hh_tableOf 19 = .ok (.areturn, 1) := by decide +kernel
theorem d_ja_copyOf_0 : decode b_ja_copyOf 0 = .ok (.iload_n 1, 1) := by decide +kernel
theorem d_ja_copyOf_1 : decode b_ja_copyOf 1 = .ok (.aload_n 0, 1) := by decide +kernel
theorem d_ja_copyOf_2 : decode b_ja_copyOf 2 = .ok (.arraylength, 1) := by decide +kernel
theorem d_ja_copyOf_3 : decode b_ja_copyOf 3 = .ok (.if_icmp .ne 11, 3) := by decide +kernel
theorem d_ja_copyOf_6 : decode b_ja_copyOf 6 = .ok (.aload_n 0, 1) := by decide +kernel
theorem d_ja_copyOf_7 : decode b_ja_copyOf 7 = .ok (.invokevirtual 316, 3) := by decide +kernel
theorem d_ja_copyOf_10 : decode b_ja_copyOf 10 = .ok (.checkcast 317, 3) := by decide +kernel
theorem d_ja_copyOf_13 : decode b_ja_copyOf 13 = .ok (.areturn, 1) := by decide +kernel
theorem d_ja_copyOf_14 : decode b_ja_copyOf 14 = .ok (.iload_n 1, 1) := by decide +kernel
theorem d_ja_copyOf_15 : decode b_ja_copyOf 15 = .ok (.newarray .int, 2) := by decide +kernel
theorem d_ja_copyOf_17 : decode b_ja_copyOf 17 = .ok (.astore_n 2, 1) := by decide +kernel
theorem d_ja_copyOf_18 : decode b_ja_copyOf 18 = .ok (.aload_n 0, 1) := by decide +kernel
theorem d_ja_copyOf_19 : decode b_ja_copyOf 19 = .ok (.iconst 0, 1) := by decide +kernel
theorem d_ja_copyOf_20 : decode b_ja_copyOf 20 = .ok (.aload_n 2, 1) := by decide +kernel
theorem d_ja_copyOf_21 : decode b_ja_copyOf 21 = .ok (.iconst 0, 1) := by decide +kernel
theorem d_ja_copyOf_22 : decode b_ja_copyOf 22 = .ok (.aload_n 0, 1) := by decide +kernel
theorem d_ja_copyOf_23 : decode b_ja_copyOf 23 = .ok (.arraylength, 1) := by decide +kernel
theorem d_ja_copyOf_24 : decode b_ja_copyOf 24 = .ok (.iload_n 1, 1) := by decide +kernel
theorem d_ja_copyOf_25 : decode b_ja_copyOf 25 = .ok (.invokestatic 304, 3) := by decide +kernel
theorem d_ja_copyOf_28 : decode b_ja_copyOf 28 = .ok (.invokestatic 150, 3) := by decide +kernel
theorem d_ja_copyOf_31 : decode b_ja_copyOf 31 = .ok (.aload_n 2, 1) := by decide +kernel
theorem d_ja_copyOf_32 : decode b_ja_copyOf 32 = .ok (.areturn, 1) := by decide +kernel
theorem d_jm_min_0 : decode b_jm_min 0 = .ok (.iload_n 0, 1) := by decide +kernel
theorem d_jm_min_1 : decode b_jm_min 1 = .ok (.iload_n 1, 1) := by decide +kernel
theorem d_jm_min_2 : decode b_jm_min 2 = .ok (.if_icmp .gt 7, 3) := by decide +kernel
theorem d_jm_min_5 : decode b_jm_min 5 = .ok (.iload_n 0, 1) := by decide +kernel
theorem d_jm_min_6 : decode b_jm_min 6 = .ok (.goto 4, 3) := by decide +kernel
theorem d_jm_min_9 : decode b_jm_min 9 = .ok (.iload_n 1, 1) := by decide +kernel
theorem d_jm_min_10 : decode b_jm_min 10 = .ok (.ireturn, 1) := by decide +kernel
theorem d_hh_add_0 : decode b_hh_add 0 = .ok (.aload_n 0, 1) := by decide +kernel
theorem d_hh_add_1 : decode b_hh_add 1 = .ok (.iload_n 1, 1) := by decide +kernel
theorem d_hh_add_2 : decode b_hh_add 2 = .ok (.invokevirtual 18, 3) := by decide +kernel
theorem d_hh_add_5 : decode b_hh_add 5 = .ok (.astore 4, 2) := by decide +kernel
theorem d_hh_add_7 : decode b_hh_add 7 = .ok (.aload 4, 2) := by decide +kernel
theorem d_hh_add_9 : decode b_hh_add 9 = .ok (.ifnonnull 9, 3) := by decide +kernel
theorem d_hh_add_12 : decode b_hh_add 12 = .ok (.ldc2_w 22, 3) := by decide +kernel
theorem d_hh_add_15 : decode b_hh_add 15 = .ok (.goto 10, 3) := by decide +kernel
theorem d_hh_add_18 : decode b_hh_add 18 = .ok (.aload 4, 2) := by decide +kernel
theorem d_hh_add_20 : decode b_hh_add 20 = .ok (.iload_n 2, 1) := by decide +kernel
theorem d_hh_add_21 : decode b_hh_add 21 = .ok (.iload_n 3, 1) := by decide +kernel
theorem d_hh_add_22 : decode b_hh_add 22 = .ok (.invokevirtual 28, 3) := by decide +kernel
theorem d_hh_add_25 : decode b_hh_add 25 = .ok (.lreturn, 1) := by decide +kernel
theorem d_hh_get_0 : decode b_hh_get 0 = .ok (.aload_n 0, 1) := by decide +kernel
theorem d_hh_get_1 : decode b_hh_get 1 = .ok (.iload_n 1, 1) := by decide +kernel
theorem d_hh_get_2 : decode b_hh_get 2 = .ok (.invokevirtual 18, 3) := by decide +kernel
theorem d_hh_get_5 : decode b_hh_get 5 = .ok (.astore_n 3, 1) := by decide +kernel
theorem d_hh_get_6 : decode b_hh_get 6 = .ok (.aload_n 3, 1) := by decide +kernel
theorem d_hh_get_7 : decode b_hh_get 7 = .ok (.ifnonnull 9, 3) := by decide +kernel
theorem d_hh_get_10 : decode b_hh_get 10 = .ok (.ldc2_w 22, 3) := by decide +kernel
theorem d_hh_get_13 : decode b_hh_get 13 = .ok (.goto 8, 3) := by decide +kernel
theorem d_hh_get_16 : decode b_hh_get 16 = .ok (.aload_n 3, 1) := by decide +kernel
theorem d_hh_get_17 : decode b_hh_get 17 = .ok (.iload_n 2, 1) := by decide +kernel
theorem d_hh_get_18 : decode b_hh_get 18 = .ok (.invokevirtual 31, 3) := by decide +kernel
theorem d_hh_get_21 : decode b_hh_get 21 = .ok (.lreturn, 1) := by decide +kernel
theorem d_hh_give_0 : decode b_hh_give 0 = .ok (.aload_n 0, 1) := by decide +kernel
theorem d_hh_give_1 : decode b_hh_give 1 = .ok (.iload_n 1, 1) := by decide +kernel
theorem d_hh_give_2 : decode b_hh_give 2 = .ok (.invokevirtual 18, 3) := by decide +kernel
theorem d_hh_give_5 : decode b_hh_give 5 = .ok (.astore 4, 2) := by decide +kernel
theorem d_hh_give_7 : decode b_hh_give 7 = .ok (.aload 4, 2) := by decide +kernel
theorem d_hh_give_9 : decode b_hh_give 9 = .ok (.ifnonnull 7, 3) := by decide +kernel
theorem d_hh_give_12 : decode b_hh_give 12 = .ok (.ldc2_w 22, 3) := by decide +kernel
theorem d_hh_give_15 : decode b_hh_give 15 = .ok (.lreturn, 1) := by decide +kernel
theorem d_hh_give_16 : decode b_hh_give 16 = .ok (.aload 4, 2) := by decide +kernel
theorem d_hh_give_18 : decode b_hh_give 18 = .ok (.iload_n 2, 1) := by decide +kernel
theorem d_hh_give_19 : decode b_hh_give 19 = .ok (.invokevirtual 31, 3) := by decide +kernel
theorem d_hh_give_22 : decode b_hh_give 22 = .ok (.lstore 5, 2) := by decide +kernel
theorem d_hh_give_24 : decode b_hh_give 24 = .ok (.lload 5, 2) := by decide +kernel
theorem d_hh_give_26 : decode b_hh_give 26 = .ok (.ldc2_w 35, 3) := by decide +kernel
theorem d_hh_give_29 : decode b_hh_give 29 = .ok (.lcmp, 1) := by decide +kernel
theorem d_hh_give_30 : decode b_hh_give 30 = .ok (.ifCond .ne 8, 3) := by decide +kernel
theorem d_hh_give_33 : decode b_hh_give 33 = .ok (.iload_n 3, 1) := by decide +kernel
theorem d_hh_give_34 : decode b_hh_give 34 = .ok (.i2l, 1) := by decide +kernel
theorem d_hh_give_35 : decode b_hh_give 35 = .ok (.goto 5, 3) := by decide +kernel
theorem d_hh_give_38 : decode b_hh_give 38 = .ok (.lload 5, 2) := by decide +kernel
theorem d_hh_give_40 : decode b_hh_give 40 = .ok (.lreturn, 1) := by decide +kernel
theorem d_hh_remove_0 : decode b_hh_remove 0 = .ok (.aload_n 0, 1) := by decide +kernel
theorem d_hh_remove_1 : decode b_hh_remove 1 = .ok (.iload_n 1, 1) := by decide +kernel
theorem d_hh_remove_2 : decode b_hh_remove 2 = .ok (.invokevirtual 18, 3) := by decide +kernel
theorem d_hh_remove_5 : decode b_hh_remove 5 = .ok (.astore_n 3, 1) := by decide +kernel
theorem d_hh_remove_6 : decode b_hh_remove 6 = .ok (.aload_n 3, 1) := by decide +kernel
theorem d_hh_remove_7 : decode b_hh_remove 7 = .ok (.ifnonnull 9, 3) := by decide +kernel
theorem d_hh_remove_10 : decode b_hh_remove 10 = .ok (.ldc2_w 22, 3) := by decide +kernel
theorem d_hh_remove_13 : decode b_hh_remove 13 = .ok (.goto 8, 3) := by decide +kernel
theorem d_hh_remove_16 : decode b_hh_remove 16 = .ok (.aload_n 3, 1) := by decide +kernel
theorem d_hh_remove_17 : decode b_hh_remove 17 = .ok (.iload_n 2, 1) := by decide +kernel
theorem d_hh_remove_18 : decode b_hh_remove 18 = .ok (.invokevirtual 37, 3) := by decide +kernel
theorem d_hh_remove_21 : decode b_hh_remove 21 = .ok (.lreturn, 1) := by decide +kernel
theorem d_hh_take_0 : decode b_hh_take 0 = .ok (.aload_n 0, 1) := by decide +kernel
theorem d_hh_take_1 : decode b_hh_take 1 = .ok (.iload_n 1, 1) := by decide +kernel
theorem d_hh_take_2 : decode b_hh_take 2 = .ok (.invokevirtual 18, 3) := by decide +kernel
theorem d_hh_take_5 : decode b_hh_take 5 = .ok (.astore 4, 2) := by decide +kernel
theorem d_hh_take_7 : decode b_hh_take 7 = .ok (.aload 4, 2) := by decide +kernel
theorem d_hh_take_9 : decode b_hh_take 9 = .ok (.ifnull 17, 3) := by decide +kernel
theorem d_hh_take_12 : decode b_hh_take 12 = .ok (.aload 4, 2) := by decide +kernel
theorem d_hh_take_14 : decode b_hh_take 14 = .ok (.iload_n 2, 1) := by decide +kernel
theorem d_hh_take_15 : decode b_hh_take 15 = .ok (.iload_n 3, 1) := by decide +kernel
theorem d_hh_take_16 : decode b_hh_take 16 = .ok (.invokevirtual 40, 3) := by decide +kernel
theorem d_hh_take_19 : decode b_hh_take 19 = .ok (.ifCond .eq 7, 3) := by decide +kernel
theorem d_hh_take_22 : decode b_hh_take 22 = .ok (.iconst 1, 1) := by decide +kernel
theorem d_hh_take_23 : decode b_hh_take 23 = .ok (.goto 4, 3) := by decide +kernel
theorem d_hh_take_26 : decode b_hh_take 26 = .ok (.iconst 0, 1) := by decide +kernel
theorem d_hh_take_27 : decode b_hh_take 27 = .ok (.ireturn, 1) := by decide +kernel
theorem d_hh_has_0 : decode b_hh_has 0 = .ok (.aload_n 0, 1) := by decide +kernel
theorem d_hh_has_1 : decode b_hh_has 1 = .ok (.iload_n 1, 1) := by decide +kernel
theorem d_hh_has_2 : decode b_hh_has 2 = .ok (.invokevirtual 18, 3) := by decide +kernel
theorem d_hh_has_5 : decode b_hh_has 5 = .ok (.astore 4, 2) := by decide +kernel
theorem d_hh_has_7 : decode b_hh_has 7 = .ok (.aload 4, 2) := by decide +kernel
theorem d_hh_has_9 : decode b_hh_has 9 = .ok (.ifnonnull 5, 3) := by decide +kernel
theorem d_hh_has_12 : decode b_hh_has 12 = .ok (.iconst 0, 1) := by decide +kernel
theorem d_hh_has_13 : decode b_hh_has 13 = .ok (.ireturn, 1) := by decide +kernel
theorem d_hh_has_14 : decode b_hh_has 14 = .ok (.iload_n 2, 1) := by decide +kernel
theorem d_hh_has_15 : decode b_hh_has 15 = .ok (.ifCond .ne 10, 3) := by decide +kernel
theorem d_hh_has_18 : decode b_hh_has 18 = .ok (.aload 4, 2) := by decide +kernel
theorem d_hh_has_20 : decode b_hh_has 20 = .ok (.iload_n 3, 1) := by decide +kernel
theorem d_hh_has_21 : decode b_hh_has 21 = .ok (.invokevirtual 44, 3) := by decide +kernel
theorem d_hh_has_24 : decode b_hh_has 24 = .ok (.ireturn, 1) := by decide +kernel
theorem d_hh_has_25 : decode b_hh_has 25 = .ok (.iload_n 2, 1) := by decide +kernel
theorem d_hh_has_26 : decode b_hh_has 26 = .ok (.iconst 1, 1) := by decide +kernel
theorem d_hh_has_27 : decode b_hh_has 27 = .ok (.if_icmp .ne 16, 3) := by decide +kernel
theorem d_hh_has_30 : decode b_hh_has 30 = .ok (.aload 4, 2) := by decide +kernel
theorem d_hh_has_32 : decode b_hh_has 32 = .ok (.iload_n 3, 1) := by decide +kernel
theorem d_hh_has_33 : decode b_hh_has 33 = .ok (.invokevirtual 48, 3) := by decide +kernel
theorem d_hh_has_36 : decode b_hh_has 36 = .ok (.ifCond .eq 7, 3) := by decide +kernel
theorem d_hh_has_39 : decode b_hh_has 39 = .ok (.iconst 1, 1) := by decide +kernel
theorem d_hh_has_40 : decode b_hh_has 40 = .ok (.goto 4, 3) := by decide +kernel
theorem d_hh_has_43 : decode b_hh_has 43 = .ok (.iconst 0, 1) := by decide +kernel
theorem d_hh_has_44 : decode b_hh_has 44 = .ok (.ireturn, 1) := by decide +kernel
theorem d_hh_size_0 : decode b_hh_size 0 = .ok (.aload_n 0, 1) := by decide +kernel
theorem d_hh_size_1 : decode b_hh_size 1 = .ok (.iload_n 1, 1) := by decide +kernel
theorem d_hh_size_2 : decode b_hh_size 2 = .ok (.invokevirtual 18, 3) := by decide +kernel
theorem d_hh_size_5 : decode b_hh_size 5 = .ok (.astore_n 2, 1) := by decide +kernel
theorem d_hh_size_6 : decode b_hh_size 6 = .ok (.aload_n 2, 1) := by decide +kernel
theorem d_hh_size_7 : decode b_hh_size 7 = .ok (.ifnonnull 7, 3) := by decide +kernel
theorem d_hh_size_10 : decode b_hh_size 10 = .ok (.iconst (-1), 1) := by decide +kernel
theorem d_hh_size_11 : decode b_hh_size 11 = .ok (.goto 7, 3) := by decide +kernel
theorem d_hh_size_14 : decode b_hh_size 14 = .ok (.aload_n 2, 1) := by decide +kernel
theorem d_hh_size_15 : decode b_hh_size 15 = .ok (.getfield 51, 3) := by decide +kernel
theorem d_hh_size_18 : decode b_hh_size 18 = .ok (.ireturn, 1) := by decide +kernel
theorem d_hh_clear_0 : decode b_hh_clear 0 = .ok (.aload_n 0, 1) := by decide +kernel
theorem d_hh_clear_1 : decode b_hh_clear 1 = .ok (.iload_n 1, 1) := by decide +kernel
theorem d_hh_clear_2 : decode b_hh_clear 2 = .ok (.invokevirtual 18, 3) := by decide +kernel
theorem d_hh_clear_5 : decode b_hh_clear 5 = .ok (.astore_n 2, 1) := by decide +kernel
theorem d_hh_clear_6 : decode b_hh_clear 6 = .ok (.aload_n 2, 1) := by decide +kernel
theorem d_hh_clear_7 : decode b_hh_clear 7 = .ok (.ifnonnull 7, 3) := by decide +kernel
theorem d_hh_clear_10 : decode b_hh_clear 10 = .ok (.iconst (-1), 1) := by decide +kernel
theorem d_hh_clear_11 : decode b_hh_clear 11 = .ok (.goto 7, 3) := by decide +kernel
theorem d_hh_clear_14 : decode b_hh_clear 14 = .ok (.aload_n 2, 1) := by decide +kernel
theorem d_hh_clear_15 : decode b_hh_clear 15 = .ok (.invokevirtual 55, 3) := by decide +kernel
theorem d_hh_clear_18 : decode b_hh_clear 18 = .ok (.ireturn, 1) := by decide +kernel
theorem d_ja_fill_0 : decode b_ja_fill 0 = .ok (.iconst 0, 1) := by decide +kernel
theorem d_ja_fill_1 : decode b_ja_fill 1 = .ok (.istore_n 2, 1) := by decide +kernel
theorem d_ja_fill_2 : decode b_ja_fill 2 = .ok (.aload_n 0, 1) := by decide +kernel
theorem d_ja_fill_3 : decode b_ja_fill 3 = .ok (.arraylength, 1) := by decide +kernel
theorem d_ja_fill_4 : decode b_ja_fill 4 = .ok (.istore_n 3, 1) := by decide +kernel
theorem d_ja_fill_5 : decode b_ja_fill 5 = .ok (.iload_n 2, 1) := by decide +kernel
theorem d_ja_fill_6 : decode b_ja_fill 6 = .ok (.iload_n 3, 1) := by decide +kernel
theorem d_ja_fill_7 : decode b_ja_fill 7 = .ok (.if_icmp .ge 13, 3) := by decide +kernel
theorem d_ja_fill_10 : decode b_ja_fill 10 = .ok (.aload_n 0, 1) := by decide +kernel
theorem d_ja_fill_11 : decode b_ja_fill 11 = .ok (.iload_n 2, 1) := by decide +kernel
theorem d_ja_fill_12 : decode b_ja_fill 12 = .ok (.iload_n 1, 1) := by decide +kernel
theorem d_ja_fill_13 : decode b_ja_fill 13 = .ok (.iastore, 1) := by decide +kernel
theorem d_ja_fill_14 : decode b_ja_fill 14 = .ok (.iinc 2 1, 3) := by decide +kernel
theorem d_ja_fill_17 : decode b_ja_fill 17 = .ok (.goto (-12), 3) := by decide +kernel
theorem d_ja_fill_20 : decode b_ja_fill 20 = .ok (.return_, 1) := by decide +kernel
theorem d_hh_pour_0 : decode b_hh_pour 0 = .ok (.aload_n 0, 1) := by decide +kernel
theorem d_hh_pour_1 : decode b_hh_pour 1 = .ok (.iload_n 1, 1) := by decide +kernel
theorem d_hh_pour_2 : decode b_hh_pour 2 = .ok (.invokevirtual 18, 3) := by decide +kernel
theorem d_hh_pour_5 : decode b_hh_pour 5 = .ok (.astore_n 3, 1) := by decide +kernel
theorem d_hh_pour_6 : decode b_hh_pour 6 = .ok (.aload_n 0, 1) := by decide +kernel
theorem d_hh_pour_7 : decode b_hh_pour 7 = .ok (.iload_n 2, 1) := by decide +kernel
theorem d_hh_pour_8 : decode b_hh_pour 8 = .ok (.invokevirtual 18, 3) := by decide +kernel
theorem d_hh_pour_11 : decode b_hh_pour 11 = .ok (.astore 4, 2) := by decide +kernel
theorem d_hh_pour_13 : decode b_hh_pour 13 = .ok (.aload_n 3, 1) := by decide +kernel
theorem d_hh_pour_14 : decode b_hh_pour 14 = .ok (.ifnull 13, 3) := by decide +kernel
theorem d_hh_pour_17 : decode b_hh_pour 17 = .ok (.aload 4, 2) := by decide +kernel
theorem d_hh_pour_19 : decode b_hh_pour 19 = .ok (.ifnull 8, 3) := by decide +kernel
theorem d_hh_pour_22 : decode b_hh_pour 22 = .ok (.iload_n 1, 1) := by decide +kernel
theorem d_hh_pour_23 : decode b_hh_pour 23 = .ok (.iload_n 2, 1) := by decide +kernel
theorem d_hh_pour_24 : decode b_hh_pour 24 = .ok (.if_icmp .ne 5, 3) := by decide +kernel
theorem d_hh_pour_27 : decode b_hh_pour 27 = .ok (.iconst (-1), 1) := by decide +kernel
theorem d_hh_pour_28 : decode b_hh_pour 28 = .ok (.ireturn, 1) := by decide +kernel
theorem d_hh_pour_29 : decode b_hh_pour 29 = .ok (.aload_n 3, 1) := by decide +kernel
theorem d_hh_pour_30 : decode b_hh_pour 30 = .ok (.getfield 51, 3) := by decide +kernel
theorem d_hh_pour_33 : decode b_hh_pour 33 = .ok (.aload 4, 2) := by decide +kernel
theorem d_hh_pour_35 : decode b_hh_pour 35 = .ok (.getfield 51, 3) := by decide +kernel
theorem d_hh_pour_38 : decode b_hh_pour 38 = .ok (.iadd, 1) := by decide +kernel
theorem d_hh_pour_39 : decode b_hh_pour 39 = .ok (.sipush 1400, 3) := by decide +kernel
theorem d_hh_pour_42 : decode b_hh_pour 42 = .ok (.if_icmp .le 5, 3) := by decide +kernel
theorem d_hh_pour_45 : decode b_hh_pour 45 = .ok (.iconst (-1), 1) := by decide +kernel
theorem d_hh_pour_46 : decode b_hh_pour 46 = .ok (.ireturn, 1) := by decide +kernel
theorem d_hh_pour_47 : decode b_hh_pour 47 = .ok (.iload_n 1, 1) := by decide +kernel
theorem d_hh_pour_48 : decode b_hh_pour 48 = .ok (.ifCond .ne 19, 3) := by decide +kernel
theorem d_hh_pour_51 : decode b_hh_pour 51 = .ok (.iload_n 2, 1) := by decide +kernel
theorem d_hh_pour_52 : decode b_hh_pour 52 = .ok (.iconst 1, 1) := by decide +kernel
theorem d_hh_pour_53 : decode b_hh_pour 53 = .ok (.if_icmp .ne 12, 3) := by decide +kernel
theorem d_hh_pour_56 : decode b_hh_pour 56 = .ok (.aload 4, 2) := by decide +kernel
theorem d_hh_pour_58 : decode b_hh_pour 58 = .ok (.aload_n 3, 1) := by decide +kernel
theorem d_hh_pour_59 : decode b_hh_pour 59 = .ok (.invokevirtual 59, 3) := by decide +kernel
theorem d_hh_pour_62 : decode b_hh_pour 62 = .ok (.ifCond .ne 5, 3) := by decide +kernel
theorem d_hh_pour_65 : decode b_hh_pour 65 = .ok (.iconst (-1), 1) := by decide +kernel
theorem d_hh_pour_66 : decode b_hh_pour 66 = .ok (.ireturn, 1) := by decide +kernel
theorem d_hh_pour_67 : decode b_hh_pour 67 = .ok (.aload 4, 2) := by decide +kernel
theorem d_hh_pour_69 : decode b_hh_pour 69 = .ok (.aload_n 3, 1) := by decide +kernel
theorem d_hh_pour_70 : decode b_hh_pour 70 = .ok (.invokevirtual 63, 3) := by decide +kernel
theorem d_hh_pour_73 : decode b_hh_pour 73 = .ok (.aload 4, 2) := by decide +kernel
theorem d_hh_pour_75 : decode b_hh_pour 75 = .ok (.getfield 51, 3) := by decide +kernel
theorem d_hh_pour_78 : decode b_hh_pour 78 = .ok (.ireturn, 1) := by decide +kernel
theorem d_hh_entry_0 : decode b_hh_entry 0 = .ok (.aload_n 0, 1) := by decide +kernel
theorem d_hh_entry_1 : decode b_hh_entry 1 = .ok (.iload_n 1, 1) := by decide +kernel
theorem d_hh_entry_2 : decode b_hh_entry 2 = .ok (.invokevirtual 18, 3) := by decide +kernel
theorem d_hh_entry_5 : decode b_hh_entry 5 = .ok (.astore 4, 2) := by decide +kernel
theorem d_hh_entry_7 : decode b_hh_entry 7 = .ok (.aload 4, 2) := by decide +kernel
theorem d_hh_entry_9 : decode b_hh_entry 9 = .ok (.ifnull 16, 3) := by decide +kernel
theorem d_hh_entry_12 : decode b_hh_entry 12 = .ok (.iload_n 1, 1) := by decide +kernel
theorem d_hh_entry_13 : decode b_hh_entry 13 = .ok (.ifCond .eq 12, 3) := by decide +kernel
theorem d_hh_entry_16 : decode b_hh_entry 16 = .ok (.iload_n 3, 1) := by decide +kernel
theorem d_hh_entry_17 : decode b_hh_entry 17 = .ok (.ifCond .eq 12, 3) := by decide +kernel
theorem d_hh_entry_20 : decode b_hh_entry 20 = .ok (.iload_n 3, 1) := by decide +kernel
theorem d_hh_entry_21 : decode b_hh_entry 21 = .ok (.iconst 1, 1) := by decide +kernel
theorem d_hh_entry_22 : decode b_hh_entry 22 = .ok (.if_icmp .eq 7, 3) := by decide +kernel
theorem d_hh_entry_25 : decode b_hh_entry 25 = .ok (.ldc2_w 22, 3) := by decide +kernel
theorem d_hh_entry_28 : decode b_hh_entry 28 = .ok (.lreturn, 1) := by decide +kernel
theorem d_hh_entry_29 : decode b_hh_entry 29 = .ok (.aload 4, 2) := by decide +kernel
theorem d_hh_entry_31 : decode b_hh_entry 31 = .ok (.iload_n 2, 1) := by decide +kernel
theorem d_hh_entry_32 : decode b_hh_entry 32 = .ok (.invokevirtual 67, 3) := by decide +kernel
theorem d_hh_entry_35 : decode b_hh_entry 35 = .ok (.istore 5, 2) := by decide +kernel
theorem d_hh_entry_37 : decode b_hh_entry 37 = .ok (.iload 5, 2) := by decide +kernel
theorem d_hh_entry_39 : decode b_hh_entry 39 = .ok (.ifCond .ne 7, 3) := by decide +kernel
theorem d_hh_entry_42 : decode b_hh_entry 42 = .ok (.ldc2_w 35, 3) := by decide +kernel
theorem d_hh_entry_45 : decode b_hh_entry 45 = .ok (.lreturn, 1) := by decide +kernel
theorem d_hh_entry_46 : decode b_hh_entry 46 = .ok (.iload_n 3, 1) := by decide +kernel
theorem d_hh_entry_47 : decode b_hh_entry 47 = .ok (.ifCond .ne 15, 3) := by decide +kernel
theorem d_hh_entry_50 : decode b_hh_entry 50 = .ok (.aload 4, 2) := by decide +kernel
theorem d_hh_entry_52 : decode b_hh_entry 52 = .ok (.getfield 71, 3) := by decide +kernel
theorem d_hh_entry_55 : decode b_hh_entry 55 = .ok (.iload 5, 2) := by decide +kernel
theorem d_hh_entry_57 : decode b_hh_entry 57 = .ok (.iaload, 1) := by decide +kernel
theorem d_hh_entry_58 : decode b_hh_entry 58 = .ok (.i2l, 1) := by decide +kernel
theorem d_hh_entry_59 : decode b_hh_entry 59 = .ok (.goto 12, 3) := by decide +kernel
theorem d_hh_entry_62 : decode b_hh_entry 62 = .ok (.aload 4, 2) := by decide +kernel
theorem d_hh_entry_64 : decode b_hh_entry 64 = .ok (.getfield 75, 3) := by decide +kernel
theorem d_hh_entry_67 : decode b_hh_entry 67 = .ok (.iload 5, 2) := by decide +kernel
theorem d_hh_entry_69 : decode b_hh_entry 69 = .ok (.iaload, 1) := by decide +kernel
theorem d_hh_entry_70 : decode b_hh_entry 70 = .ok (.i2l, 1) := by decide +kernel
theorem d_hh_entry_71 : decode b_hh_entry 71 = .ok (.lreturn, 1) := by decide +kernel
theorem d_hh_sum_0 : decode b_hh_sum 0 = .ok (.aload_n 0, 1) := by decide +kernel
theorem d_hh_sum_1 : decode b_hh_sum 1 = .ok (.iload_n 1, 1) := by decide +kernel
theorem d_hh_sum_2 : decode b_hh_sum 2 = .ok (.invokevirtual 18, 3) := by decide +kernel
theorem d_hh_sum_5 : decode b_hh_sum 5 = .ok (.astore_n 2, 1) := by decide +kernel
theorem d_hh_sum_6 : decode b_hh_sum 6 = .ok (.aload_n 2, 1) := by decide +kernel
theorem d_hh_sum_7 : decode b_hh_sum 7 = .ok (.ifnonnull 9, 3) := by decide +kernel
theorem d_hh_sum_10 : decode b_hh_sum 10 = .ok (.ldc2_w 22, 3) := by decide +kernel
theorem d_hh_sum_13 : decode b_hh_sum 13 = .ok (.goto 7, 3) := by decide +kernel
theorem d_hh_sum_16 : decode b_hh_sum 16 = .ok (.aload_n 2, 1) := by decide +kernel
theorem d_hh_sum_17 : decode b_hh_sum 17 = .ok (.invokevirtual 78, 3) := by decide +kernel
theorem d_hh_sum_20 : decode b_hh_sum 20 = .ok (.lreturn, 1) := by decide +kernel
theorem d_hh_sweep_0 : decode b_hh_sweep 0 = .ok (.aload_n 0, 1) := by decide +kernel
theorem d_hh_sweep_1 : decode b_hh_sweep 1 = .ok (.iload_n 1, 1) := by decide +kernel
theorem d_hh_sweep_2 : decode b_hh_sweep 2 = .ok (.invokevirtual 18, 3) := by decide +kernel
theorem d_hh_sweep_5 : decode b_hh_sweep 5 = .ok (.astore 4, 2) := by decide +kernel
theorem d_hh_sweep_7 : decode b_hh_sweep 7 = .ok (.aload 4, 2) := by decide +kernel
theorem d_hh_sweep_9 : decode b_hh_sweep 9 = .ok (.ifnull 8, 3) := by decide +kernel
theorem d_hh_sweep_12 : decode b_hh_sweep 12 = .ok (.iload_n 2, 1) := by decide +kernel
theorem d_hh_sweep_13 : decode b_hh_sweep 13 = .ok (.iconst 1, 1) := by decide +kernel
theorem d_hh_sweep_14 : decode b_hh_sweep 14 = .ok (.if_icmp .ge 7, 3) := by decide +kernel
theorem d_hh_sweep_17 : decode b_hh_sweep 17 = .ok (.iconst (-1), 1) := by decide +kernel
theorem d_hh_sweep_18 : decode b_hh_sweep 18 = .ok (.goto 10, 3) := by decide +kernel
theorem d_hh_sweep_21 : decode b_hh_sweep 21 = .ok (.aload 4, 2) := by decide +kernel
theorem d_hh_sweep_23 : decode b_hh_sweep 23 = .ok (.iload_n 2, 1) := by decide +kernel
theorem d_hh_sweep_24 : decode b_hh_sweep 24 = .ok (.iload_n 3, 1) := by decide +kernel
theorem d_hh_sweep_25 : decode b_hh_sweep 25 = .ok (.invokevirtual 82, 3) := by decide +kernel
theorem d_hh_sweep_28 : decode b_hh_sweep 28 = .ok (.ireturn, 1) := by decide +kernel
theorem d_jm_floorMod_0 : decode b_jm_floorMod 0 = .ok (.iload_n 0, 1) := by decide +kernel
theorem d_jm_floorMod_1 : decode b_jm_floorMod 1 = .ok (.iload_n 1, 1) := by decide +kernel
theorem d_jm_floorMod_2 : decode b_jm_floorMod 2 = .ok (.irem, 1) := by decide +kernel
theorem d_jm_floorMod_3 : decode b_jm_floorMod 3 = .ok (.istore_n 2, 1) := by decide +kernel
theorem d_jm_floorMod_4 : decode b_jm_floorMod 4 = .ok (.iload_n 0, 1) := by decide +kernel
theorem d_jm_floorMod_5 : decode b_jm_floorMod 5 = .ok (.iload_n 1, 1) := by decide +kernel
theorem d_jm_floorMod_6 : decode b_jm_floorMod 6 = .ok (.ixor, 1) := by decide +kernel
theorem d_jm_floorMod_7 : decode b_jm_floorMod 7 = .ok (.ifCond .ge 11, 3) := by decide +kernel
theorem d_jm_floorMod_10 : decode b_jm_floorMod 10 = .ok (.iload_n 2, 1) := by decide +kernel
theorem d_jm_floorMod_11 : decode b_jm_floorMod 11 = .ok (.ifCond .eq 7, 3) := by decide +kernel
theorem d_jm_floorMod_14 : decode b_jm_floorMod 14 = .ok (.iload_n 2, 1) := by decide +kernel
theorem d_jm_floorMod_15 : decode b_jm_floorMod 15 = .ok (.iload_n 1, 1) := by decide +kernel
theorem d_jm_floorMod_16 : decode b_jm_floorMod 16 = .ok (.iadd, 1) := by decide +kernel
theorem d_jm_floorMod_17 : decode b_jm_floorMod 17 = .ok (.ireturn, 1) := by decide +kernel
theorem d_jm_floorMod_18 : decode b_jm_floorMod 18 = .ok (.iload_n 2, 1) := by decide +kernel
theorem d_jm_floorMod_19 : decode b_jm_floorMod 19 = .ok (.ireturn, 1) := by decide +kernel
theorem d_hh_raise_0 : decode b_hh_raise 0 = .ok (.aload_n 0, 1) := by decide +kernel
theorem d_hh_raise_1 : decode b_hh_raise 1 = .ok (.iload_n 1, 1) := by decide +kernel
theorem d_hh_raise_2 : decode b_hh_raise 2 = .ok (.invokevirtual 18, 3) := by decide +kernel
theorem d_hh_raise_5 : decode b_hh_raise 5 = .ok (.astore_n 3, 1) := by decide +kernel
theorem d_hh_raise_6 : decode b_hh_raise 6 = .ok (.aload_n 3, 1) := by decide +kernel
theorem d_hh_raise_7 : decode b_hh_raise 7 = .ok (.ifnonnull 7, 3) := by decide +kernel
theorem d_hh_raise_10 : decode b_hh_raise 10 = .ok (.iconst (-1), 1) := by decide +kernel
theorem d_hh_raise_11 : decode b_hh_raise 11 = .ok (.goto 8, 3) := by decide +kernel
theorem d_hh_raise_14 : decode b_hh_raise 14 = .ok (.aload_n 3, 1) := by decide +kernel
theorem d_hh_raise_15 : decode b_hh_raise 15 = .ok (.iload_n 2, 1) := by decide +kernel
theorem d_hh_raise_16 : decode b_hh_raise 16 = .ok (.invokevirtual 86, 3) := by decide +kernel
theorem d_hh_raise_19 : decode b_hh_raise 19 = .ok (.ireturn, 1) := by decide +kernel
theorem d_hh_same_0 : decode b_hh_same 0 = .ok (.aload_n 0, 1) := by decide +kernel
theorem d_hh_same_1 : decode b_hh_same 1 = .ok (.iload_n 1, 1) := by decide +kernel
theorem d_hh_same_2 : decode b_hh_same 2 = .ok (.invokevirtual 18, 3) := by decide +kernel
theorem d_hh_same_5 : decode b_hh_same 5 = .ok (.astore_n 3, 1) := by decide +kernel
theorem d_hh_same_6 : decode b_hh_same 6 = .ok (.aload_n 0, 1) := by decide +kernel
theorem d_hh_same_7 : decode b_hh_same 7 = .ok (.iload_n 2, 1) := by decide +kernel
theorem d_hh_same_8 : decode b_hh_same 8 = .ok (.invokevirtual 18, 3) := by decide +kernel
theorem d_hh_same_11 : decode b_hh_same 11 = .ok (.astore 4, 2) := by decide +kernel
theorem d_hh_same_13 : decode b_hh_same 13 = .ok (.aload_n 3, 1) := by decide +kernel
theorem d_hh_same_14 : decode b_hh_same 14 = .ok (.ifnull 21, 3) := by decide +kernel
theorem d_hh_same_17 : decode b_hh_same 17 = .ok (.aload 4, 2) := by decide +kernel
theorem d_hh_same_19 : decode b_hh_same 19 = .ok (.ifnull 16, 3) := by decide +kernel
theorem d_hh_same_22 : decode b_hh_same 22 = .ok (.aload_n 3, 1) := by decide +kernel
theorem d_hh_same_23 : decode b_hh_same 23 = .ok (.aload 4, 2) := by decide +kernel
theorem d_hh_same_25 : decode b_hh_same 25 = .ok (.invokevirtual 89, 3) := by decide +kernel
theorem d_hh_same_28 : decode b_hh_same 28 = .ok (.ifCond .eq 7, 3) := by decide +kernel
theorem d_hh_same_31 : decode b_hh_same 31 = .ok (.iconst 1, 1) := by decide +kernel
theorem d_hh_same_32 : decode b_hh_same 32 = .ok (.goto 4, 3) := by decide +kernel
theorem d_hh_same_35 : decode b_hh_same 35 = .ok (.iconst 0, 1) := by decide +kernel
theorem d_hh_same_36 : decode b_hh_same 36 = .ok (.ireturn, 1) := by decide +kernel
theorem d_hh_fill_0 : decode b_hh_fill 0 = .ok (.aload_n 0, 1) := by decide +kernel
theorem d_hh_fill_1 : decode b_hh_fill 1 = .ok (.iload_n 1, 1) := by decide +kernel
theorem d_hh_fill_2 : decode b_hh_fill 2 = .ok (.invokevirtual 18, 3) := by decide +kernel
theorem d_hh_fill_5 : decode b_hh_fill 5 = .ok (.astore 5, 2) := by decide +kernel
theorem d_hh_fill_7 : decode b_hh_fill 7 = .ok (.aload 5, 2) := by decide +kernel
theorem d_hh_fill_9 : decode b_hh_fill 9 = .ok (.ifnull 28, 3) := by decide +kernel
theorem d_hh_fill_12 : decode b_hh_fill 12 = .ok (.iload 4, 2) := by decide +kernel
theorem d_hh_fill_14 : decode b_hh_fill 14 = .ok (.iconst 1, 1) := by decide +kernel
theorem d_hh_fill_15 : decode b_hh_fill 15 = .ok (.if_icmp .lt 22, 3) := by decide +kernel
theorem d_hh_fill_18 : decode b_hh_fill 18 = .ok (.iload 4, 2) := by decide +kernel
theorem d_hh_fill_20 : decode b_hh_fill 20 = .ok (.sipush 400, 3) := by decide +kernel
theorem d_hh_fill_23 : decode b_hh_fill 23 = .ok (.if_icmp .gt 14, 3) := by decide +kernel
theorem d_hh_fill_26 : decode b_hh_fill 26 = .ok (.aload 5, 2) := by decide +kernel
theorem d_hh_fill_28 : decode b_hh_fill 28 = .ok (.getfield 51, 3) := by decide +kernel
theorem d_hh_fill_31 : decode b_hh_fill 31 = .ok (.sipush 1000, 3) := by decide +kernel
theorem d_hh_fill_34 : decode b_hh_fill 34 = .ok (.if_icmp .le 5, 3) := by decide +kernel
theorem d_hh_fill_37 : decode b_hh_fill 37 = .ok (.iconst (-1), 1) := by decide +kernel
theorem d_hh_fill_38 : decode b_hh_fill 38 = .ok (.ireturn, 1) := by decide +kernel
theorem d_hh_fill_39 : decode b_hh_fill 39 = .ok (.iconst 0, 1) := by decide +kernel
theorem d_hh_fill_40 : decode b_hh_fill 40 = .ok (.istore 6, 2) := by decide +kernel
theorem d_hh_fill_42 : decode b_hh_fill 42 = .ok (.iload 6, 2) := by decide +kernel
theorem d_hh_fill_44 : decode b_hh_fill 44 = .ok (.iload 4, 2) := by decide +kernel
theorem d_hh_fill_46 : decode b_hh_fill 46 = .ok (.if_icmp .ge 23, 3) := by decide +kernel
theorem d_hh_fill_49 : decode b_hh_fill 49 = .ok (.aload 5, 2) := by decide +kernel
theorem d_hh_fill_51 : decode b_hh_fill 51 = .ok (.iload_n 2, 1) := by decide +kernel
theorem d_hh_fill_52 : decode b_hh_fill 52 = .ok (.iload 6, 2) := by decide +kernel
theorem d_hh_fill_54 : decode b_hh_fill 54 = .ok (.iload_n 3, 1) := by decide +kernel
theorem d_hh_fill_55 : decode b_hh_fill 55 = .ok (.imul, 1) := by decide +kernel
theorem d_hh_fill_56 : decode b_hh_fill 56 = .ok (.iadd, 1) := by decide +kernel
theorem d_hh_fill_57 : decode b_hh_fill 57 = .ok (.iload 6, 2) := by decide +kernel
theorem d_hh_fill_59 : decode b_hh_fill 59 = .ok (.invokevirtual 24, 3) := by decide +kernel
theorem d_hh_fill_62 : decode b_hh_fill 62 = .ok (.pop2, 1) := by decide +kernel
theorem d_hh_fill_63 : decode b_hh_fill 63 = .ok (.iinc 6 1, 3) := by decide +kernel
theorem d_hh_fill_66 : decode b_hh_fill 66 = .ok (.goto (-24), 3) := by decide +kernel
theorem d_hh_fill_69 : decode b_hh_fill 69 = .ok (.aload 5, 2) := by decide +kernel
theorem d_hh_fill_71 : decode b_hh_fill 71 = .ok (.getfield 51, 3) := by decide +kernel
theorem d_hh_fill_74 : decode b_hh_fill 74 = .ok (.ireturn, 1) := by decide +kernel
end
section
theorem d_pr_init_0 : decode b_pr_init 0 = .ok (.aload_n 0, 1) := by decide +kernel
theorem d_pr_init_1 : decode b_pr_init 1 = .ok (.invokespecial 1, 3) := by decide +kernel
theorem d_pr_init_4 : decode b_pr_init 4 = .ok (.aload_n 0, 1) := by decide +kernel
theorem d_pr_init_5 : decode b_pr_init 5 = .ok (.bipush 16, 2) := by decide +kernel
theorem d_pr_init_7 : decode b_pr_init 7 = .ok (.newarray .int, 2) := by decide +kernel
theorem d_pr_init_9 : decode b_pr_init 9 = .ok (.putfield 7, 3) := by decide +kernel
theorem d_pr_init_12 : decode b_pr_init 12 = .ok (.aload_n 0, 1) := by decide +kernel
theorem d_pr_init_13 : decode b_pr_init 13 = .ok (.bipush 16, 2) := by decide +kernel
theorem d_pr_init_15 : decode b_pr_init 15 = .ok (.newarray .int, 2) := by decide +kernel
theorem d_pr_init_17 : decode b_pr_init 17 = .ok (.putfield 13, 3) := by decide +kernel
theorem d_pr_init_20 : decode b_pr_init 20 = .ok (.aload_n 0, 1) := by decide +kernel
theorem d_pr_init_21 : decode b_pr_init 21 = .ok (.bipush 16, 2) := by decide +kernel
theorem d_pr_init_23 : decode b_pr_init 23 = .ok (.newarray .int, 2) := by decide +kernel
theorem d_pr_init_25 : decode b_pr_init 25 = .ok (.putfield 16, 3) := by decide +kernel
theorem d_pr_init_28 : decode b_pr_init 28 = .ok (.aload_n 0, 1) := by decide +kernel
theorem d_pr_init_29 : decode b_pr_init 29 = .ok (.bipush 16, 2) := by decide +kernel
theorem d_pr_init_31 : decode b_pr_init 31 = .ok (.newarray .int, 2) := by decide +kernel
theorem d_pr_init_33 : decode b_pr_init 33 = .ok (.putfield 19, 3) := by decide +kernel
theorem d_pr_init_36 : decode b_pr_init 36 = .ok (.aload_n 0, 1) := by decide +kernel
theorem d_pr_init_37 : decode b_pr_init 37 = .ok (.bipush 16, 2) := by decide +kernel
theorem d_pr_init_39 : decode b_pr_init 39 = .ok (.newarray .int, 2) := by decide +kernel
theorem d_pr_init_41 : decode b_pr_init 41 = .ok (.putfield 22, 3) := by decide +kernel
theorem d_pr_init_44 : decode b_pr_init 44 = .ok (.aload_n 0, 1) := by decide +kernel
theorem d_pr_init_45 : decode b_pr_init 45 = .ok (.iconst (-1), 1) := by decide +kernel
theorem d_pr_init_46 : decode b_pr_init 46 = .ok (.putfield 25, 3) := by decide +kernel
theorem d_pr_init_49 : decode b_pr_init 49 = .ok (.aload_n 0, 1) := by decide +kernel
theorem d_pr_init_50 : decode b_pr_init 50 = .ok (.iconst (-1), 1) := by decide +kernel
theorem d_pr_init_51 : decode b_pr_init 51 = .ok (.putfield 29, 3) := by decide +kernel
theorem d_pr_init_54 : decode b_pr_init 54 = .ok (.aload_n 0, 1) := by decide +kernel
theorem d_pr_init_55 : decode b_pr_init 55 = .ok (.iconst (-1), 1) := by decide +kernel
theorem d_pr_init_56 : decode b_pr_init 56 = .ok (.putfield 32, 3) := by decide +kernel
theorem d_pr_init_59 : decode b_pr_init 59 = .ok (.return_, 1) := by decide +kernel
theorem d_pr_find_0 : decode b_pr_find 0 = .ok (.aload_n 0, 1) := by decide +kernel
theorem d_pr_find_1 : decode b_pr_find 1 = .ok (.iload_n 1, 1) := by decide +kernel
theorem d_pr_find_2 : decode b_pr_find 2 = .ok (.invokevirtual 38, 3) := by decide +kernel
theorem d_pr_find_5 : decode b_pr_find 5 = .ok (.istore_n 2, 1) := by decide +kernel
theorem d_pr_find_6 : decode b_pr_find 6 = .ok (.iload_n 2, 1) := by decide +kernel
theorem d_pr_find_7 : decode b_pr_find 7 = .ok (.aload_n 0, 1) := by decide +kernel
theorem d_pr_find_8 : decode b_pr_find 8 = .ok (.getfield 35, 3) := by decide +kernel
theorem d_pr_find_11 : decode b_pr_find 11 = .ok (.if_icmp .ge 27, 3) := by decide +kernel
theorem d_pr_find_14 : decode b_pr_find 14 = .ok (.aload_n 0, 1) := by decide +kernel
theorem d_pr_find_15 : decode b_pr_find 15 = .ok (.getfield 13, 3) := by decide +kernel
theorem d_pr_find_18 : decode b_pr_find 18 = .ok (.aload_n 0, 1) := by decide +kernel
theorem d_pr_find_19 : decode b_pr_find 19 = .ok (.getfield 7, 3) := by decide +kernel
theorem d_pr_find_22 : decode b_pr_find 22 = .ok (.iload_n 2, 1) := by decide +kernel
theorem d_pr_find_23 : decode b_pr_find 23 = .ok (.iaload, 1) := by decide +kernel
theorem d_pr_find_24 : decode b_pr_find 24 = .ok (.iaload, 1) := by decide +kernel
theorem d_pr_find_25 : decode b_pr_find 25 = .ok (.iload_n 1, 1) := by decide +kernel
theorem d_pr_find_26 : decode b_pr_find 26 = .ok (.if_icmp .ne 12, 3) := by decide +kernel
theorem d_pr_find_29 : decode b_pr_find 29 = .ok (.aload_n 0, 1) := by decide +kernel
theorem d_pr_find_30 : decode b_pr_find 30 = .ok (.getfield 7, 3) := by decide +kernel
theorem d_pr_find_33 : decode b_pr_find 33 = .ok (.iload_n 2, 1) := by decide +kernel
theorem d_pr_find_34 : decode b_pr_find 34 = .ok (.iaload, 1) := by decide +kernel
theorem d_pr_find_35 : decode b_pr_find 35 = .ok (.goto 4, 3) := by decide +kernel
theorem d_pr_find_38 : decode b_pr_find 38 = .ok (.iconst (-1), 1) := by decide +kernel
theorem d_pr_find_39 : decode b_pr_find 39 = .ok (.ireturn, 1) := by decide +kernel
theorem d_pr_rankOf_0 : decode b_pr_rankOf 0 = .ok (.iconst 0, 1) := by decide +kernel
theorem d_pr_rankOf_1 : decode b_pr_rankOf 1 = .ok (.istore_n 2, 1) := by decide +kernel
theorem d_pr_rankOf_2 : decode b_pr_rankOf 2 = .ok (.aload_n 0, 1) := by decide +kernel
theorem d_pr_rankOf_3 : decode b_pr_rankOf 3 = .ok (.getfield 35, 3) := by decide +kernel
theorem d_pr_rankOf_6 : decode b_pr_rankOf 6 = .ok (.istore_n 3, 1) := by decide +kernel
theorem d_pr_rankOf_7 : decode b_pr_rankOf 7 = .ok (.iload_n 2, 1) := by decide +kernel
theorem d_pr_rankOf_8 : decode b_pr_rankOf 8 = .ok (.iload_n 3, 1) := by decide +kernel
theorem d_pr_rankOf_9 : decode b_pr_rankOf 9 = .ok (.if_icmp .ge 40, 3) := by decide +kernel
theorem d_pr_rankOf_12 : decode b_pr_rankOf 12 = .ok (.iload_n 2, 1) := by decide +kernel
theorem d_pr_rankOf_13 : decode b_pr_rankOf 13 = .ok (.iload_n 3, 1) := by decide +kernel
theorem d_pr_rankOf_14 : decode b_pr_rankOf 14 = .ok (.iadd, 1) := by decide +kernel
theorem d_pr_rankOf_15 : decode b_pr_rankOf 15 = .ok (.iconst 2, 1) := by decide +kernel
theorem d_pr_rankOf_16 : decode b_pr_rankOf 16 = .ok (.idiv, 1) := by decide +kernel
theorem d_pr_rankOf_17 : decode b_pr_rankOf 17 = .ok (.istore 4, 2) := by decide +kernel
theorem d_pr_rankOf_19 : decode b_pr_rankOf 19 = .ok (.aload_n 0, 1) := by decide +kernel
theorem d_pr_rankOf_20 : decode b_pr_rankOf 20 = .ok (.getfield 13, 3) := by decide +kernel
theorem d_pr_rankOf_23 : decode b_pr_rankOf 23 = .ok (.aload_n 0, 1) := by decide +kernel
theorem d_pr_rankOf_24 : decode b_pr_rankOf 24 = .ok (.getfield 7, 3) := by decide +kernel
theorem d_pr_rankOf_27 : decode b_pr_rankOf 27 = .ok (.iload 4, 2) := by decide +kernel
theorem d_pr_rankOf_29 : decode b_pr_rankOf 29 = .ok (.iaload, 1) := by decide +kernel
theorem d_pr_rankOf_30 : decode b_pr_rankOf 30 = .ok (.iaload, 1) := by decide +kernel
theorem d_pr_rankOf_31 : decode b_pr_rankOf 31 = .ok (.iload_n 1, 1) := by decide +kernel
theorem d_pr_rankOf_32 : decode b_pr_rankOf 32 = .ok (.if_icmp .ge 11, 3) := by decide +kernel
theorem d_pr_rankOf_35 : decode b_pr_rankOf 35 = .ok (.iload 4, 2) := by decide +kernel
theorem d_pr_rankOf_37 : decode b_pr_rankOf 37 = .ok (.iconst 1, 1) := by decide +kernel
theorem d_pr_rankOf_38 : decode b_pr_rankOf 38 = .ok (.iadd, 1) := by decide +kernel
theorem d_pr_rankOf_39 : decode b_pr_rankOf 39 = .ok (.istore_n 2, 1) := by decide +kernel
theorem d_pr_rankOf_40 : decode b_pr_rankOf 40 = .ok (.goto 6, 3) := by decide +kernel
theorem d_pr_rankOf_43 : decode b_pr_rankOf 43 = .ok (.iload 4, 2) := by decide +kernel
theorem d_pr_rankOf_45 : decode b_pr_rankOf 45 = .ok (.istore_n 3, 1) := by decide +kernel
theorem d_pr_rankOf_46 : decode b_pr_rankOf 46 = .ok (.goto (-39), 3) := by decide +kernel
theorem d_pr_rankOf_49 : decode b_pr_rankOf 49 = .ok (.iload_n 2, 1) := by decide +kernel
theorem d_pr_rankOf_50 : decode b_pr_rankOf 50 = .ok (.ireturn, 1) := by decide +kernel
theorem d_pr_insert_0 : decode b_pr_insert 0 = .ok (.aload_n 0, 1) := by decide +kernel
theorem d_pr_insert_1 : decode b_pr_insert 1 = .ok (.getfield 25, 3) := by decide +kernel
theorem d_pr_insert_4 : decode b_pr_insert 4 = .ok (.istore_n 3, 1) := by decide +kernel
theorem d_pr_insert_5 : decode b_pr_insert 5 = .ok (.iload_n 3, 1) := by decide +kernel
theorem d_pr_insert_6 : decode b_pr_insert 6 = .ok (.ifCond .lt 16, 3) := by decide +kernel
theorem d_pr_insert_9 : decode b_pr_insert 9 = .ok (.aload_n 0, 1) := by decide +kernel
theorem d_pr_insert_10 : decode b_pr_insert 10 = .ok (.aload_n 0, 1) := by decide +kernel
theorem d_pr_insert_11 : decode b_pr_insert 11 = .ok (.getfield 22, 3) := by decide +kernel
theorem d_pr_insert_14 : decode b_pr_insert 14 = .ok (.iload_n 3, 1) := by decide +kernel
theorem d_pr_insert_15 : decode b_pr_insert 15 = .ok (.iaload, 1) := by decide +kernel
theorem d_pr_insert_16 : decode b_pr_insert 16 = .ok (.putfield 25, 3) := by decide +kernel
theorem d_pr_insert_19 : decode b_pr_insert 19 = .ok (.goto 34, 3) := by decide +kernel
theorem d_pr_insert_22 : decode b_pr_insert 22 = .ok (.aload_n 0, 1) := by decide +kernel
theorem d_pr_insert_23 : decode b_pr_insert 23 = .ok (.getfield 42, 3) := by decide +kernel
theorem d_pr_insert_26 : decode b_pr_insert 26 = .ok (.aload_n 0, 1) := by decide +kernel
theorem d_pr_insert_27 : decode b_pr_insert 27 = .ok (.getfield 13, 3) := by decide +kernel
theorem d_pr_insert_30 : decode b_pr_insert 30 = .ok (.arraylength, 1) := by decide +kernel
theorem d_pr_insert_31 : decode b_pr_insert 31 = .ok (.if_icmp .ne 7, 3) := by decide +kernel
theorem d_pr_insert_34 : decode b_pr_insert 34 = .ok (.aload_n 0, 1) := by decide +kernel
theorem d_pr_insert_35 : decode b_pr_insert 35 = .ok (.invokevirtual 51, 3) := by decide +kernel
theorem d_pr_insert_38 : decode b_pr_insert 38 = .ok (.aload_n 0, 1) := by decide +kernel
theorem d_pr_insert_39 : decode b_pr_insert 39 = .ok (.getfield 42, 3) := by decide +kernel
theorem d_pr_insert_42 : decode b_pr_insert 42 = .ok (.istore_n 3, 1) := by decide +kernel
theorem d_pr_insert_43 : decode b_pr_insert 43 = .ok (.aload_n 0, 1) := by decide +kernel
theorem d_pr_insert_44 : decode b_pr_insert 44 = .ok (.dup, 1) := by decide +kernel
theorem d_pr_insert_45 : decode b_pr_insert 45 = .ok (.getfield 42, 3) := by decide +kernel
theorem d_pr_insert_48 : decode b_pr_insert 48 = .ok (.iconst 1, 1) := by decide +kernel
theorem d_pr_insert_49 : decode b_pr_insert 49 = .ok (.iadd, 1) := by decide +kernel
theorem d_pr_insert_50 : decode b_pr_insert 50 = .ok (.putfield 42, 3) := by decide +kernel
theorem d_pr_insert_53 : decode b_pr_insert 53 = .ok (.aload_n 0, 1) := by decide +kernel
theorem d_pr_insert_54 : decode b_pr_insert 54 = .ok (.getfield 13, 3) := by decide +kernel
theorem d_pr_insert_57 : decode b_pr_insert 57 = .ok (.iload_n 3, 1) := by decide +kernel
theorem d_pr_insert_58 : decode b_pr_insert 58 = .ok (.iload_n 1, 1) := by decide +kernel
theorem d_pr_insert_59 : decode b_pr_insert 59 = .ok (.iastore, 1) := by decide +kernel
theorem d_pr_insert_60 : decode b_pr_insert 60 = .ok (.aload_n 0, 1) := by decide +kernel
theorem d_pr_insert_61 : decode b_pr_insert 61 = .ok (.getfield 16, 3) := by decide +kernel
theorem d_pr_insert_64 : decode b_pr_insert 64 = .ok (.iload_n 3, 1) := by decide +kernel
theorem d_pr_insert_65 : decode b_pr_insert 65 = .ok (.iload_n 2, 1) := by decide +kernel
theorem d_pr_insert_66 : decode b_pr_insert 66 = .ok (.iastore, 1) := by decide +kernel
theorem d_pr_insert_67 : decode b_pr_insert 67 = .ok (.aload_n 0, 1) := by decide +kernel
theorem d_pr_insert_68 : decode b_pr_insert 68 = .ok (.iload_n 1, 1) := by decide +kernel
theorem d_pr_insert_69 : decode b_pr_insert 69 = .ok (.invokevirtual 38, 3) := by decide +kernel
theorem d_pr_insert_72 : decode b_pr_insert 72 = .ok (.istore 4, 2) := by decide +kernel
theorem d_pr_insert_74 : decode b_pr_insert 74 = .ok (.aload_n 0, 1) := by decide +kernel
theorem d_pr_insert_75 : decode b_pr_insert 75 = .ok (.getfield 7, 3) := by decide +kernel
theorem d_pr_insert_78 : decode b_pr_insert 78 = .ok (.iload 4, 2) := by decide +kernel
theorem d_pr_insert_80 : decode b_pr_insert 80 = .ok (.aload_n 0, 1) := by decide +kernel
theorem d_pr_insert_81 : decode b_pr_insert 81 = .ok (.getfield 7, 3) := by decide +kernel
theorem d_pr_insert_84 : decode b_pr_insert 84 = .ok (.iload 4, 2) := by decide +kernel
theorem d_pr_insert_86 : decode b_pr_insert 86 = .ok (.iconst 1, 1) := by decide +kernel
theorem d_pr_insert_87 : decode b_pr_insert 87 = .ok (.iadd, 1) := by decide +kernel
theorem d_pr_insert_88 : decode b_pr_insert 88 = .ok (.aload_n 0, 1) := by decide +kernel
theorem d_pr_insert_89 : decode b_pr_insert 89 = .ok (.getfield 35, 3) := by decide +kernel
theorem d_pr_insert_92 : decode b_pr_insert 92 = .ok (.iload 4, 2) := by decide +kernel
theorem d_pr_insert_94 : decode b_pr_insert 94 = .ok (.isub, 1) := by decide +kernel
theorem d_pr_insert_95 : decode b_pr_insert 95 = .ok (.invokestatic 54, 3) := by decide +kernel
theorem d_pr_insert_98 : decode b_pr_insert 98 = .ok (.aload_n 0, 1) := by decide +kernel
theorem d_pr_insert_99 : decode b_pr_insert 99 = .ok (.getfield 7, 3) := by decide +kernel
theorem d_pr_insert_102 : decode b_pr_insert 102 = .ok (.iload 4, 2) := by decide +kernel
theorem d_pr_insert_104 : decode b_pr_insert 104 = .ok (.iload_n 3, 1) := by decide +kernel
theorem d_pr_insert_105 : decode b_pr_insert 105 = .ok (.iastore, 1) := by decide +kernel
theorem d_pr_insert_106 : decode b_pr_insert 106 = .ok (.aload_n 0, 1) := by decide +kernel
theorem d_pr_insert_107 : decode b_pr_insert 107 = .ok (.dup, 1) := by decide +kernel
theorem d_pr_insert_108 : decode b_pr_insert 108 = .ok (.getfield 35, 3) := by decide +kernel
theorem d_pr_insert_111 : decode b_pr_insert 111 = .ok (.iconst 1, 1) := by decide +kernel
theorem d_pr_insert_112 : decode b_pr_insert 112 = .ok (.iadd, 1) := by decide +kernel
theorem d_pr_insert_113 : decode b_pr_insert 113 = .ok (.putfield 35, 3) := by decide +kernel
theorem d_pr_insert_116 : decode b_pr_insert 116 = .ok (.aload_n 0, 1) := by decide +kernel
theorem d_pr_insert_117 : decode b_pr_insert 117 = .ok (.iload_n 3, 1) := by decide +kernel
theorem d_pr_insert_118 : decode b_pr_insert 118 = .ok (.invokevirtual 60, 3) := by decide +kernel
theorem d_pr_insert_121 : decode b_pr_insert 121 = .ok (.return_, 1) := by decide +kernel
theorem d_pr_grow_0 : decode b_pr_grow 0 = .ok (.iconst 2, 1) := by decide +kernel
theorem d_pr_grow_1 : decode b_pr_grow 1 = .ok (.aload_n 0, 1) := by decide +kernel
theorem d_pr_grow_2 : decode b_pr_grow 2 = .ok (.getfield 42, 3) := by decide +kernel
theorem d_pr_grow_5 : decode b_pr_grow 5 = .ok (.imul, 1) := by decide +kernel
theorem d_pr_grow_6 : decode b_pr_grow 6 = .ok (.istore_n 1, 1) := by decide +kernel
theorem d_pr_grow_7 : decode b_pr_grow 7 = .ok (.aload_n 0, 1) := by decide +kernel
theorem d_pr_grow_8 : decode b_pr_grow 8 = .ok (.aload_n 0, 1) := by decide +kernel
theorem d_pr_grow_9 : decode b_pr_grow 9 = .ok (.getfield 7, 3) := by decide +kernel
theorem d_pr_grow_12 : decode b_pr_grow 12 = .ok (.iload_n 1, 1) := by decide +kernel
theorem d_pr_grow_13 : decode b_pr_grow 13 = .ok (.invokestatic 45, 3) := by decide +kernel
theorem d_pr_grow_16 : decode b_pr_grow 16 = .ok (.putfield 7, 3) := by decide +kernel
theorem d_pr_grow_19 : decode b_pr_grow 19 = .ok (.aload_n 0, 1) := by decide +kernel
theorem d_pr_grow_20 : decode b_pr_grow 20 = .ok (.aload_n 0, 1) := by decide +kernel
theorem d_pr_grow_21 : decode b_pr_grow 21 = .ok (.getfield 13, 3) := by decide +kernel
theorem d_pr_grow_24 : decode b_pr_grow 24 = .ok (.iload_n 1, 1) := by decide +kernel
theorem d_pr_grow_25 : decode b_pr_grow 25 = .ok (.invokestatic 45, 3) := by decide +kernel
theorem d_pr_grow_28 : decode b_pr_grow 28 = .ok (.putfield 13, 3) := by decide +kernel
theorem d_pr_grow_31 : decode b_pr_grow 31 = .ok (.aload_n 0, 1) := by decide +kernel
theorem d_pr_grow_32 : decode b_pr_grow 32 = .ok (.aload_n 0, 1) := by decide +kernel
theorem d_pr_grow_33 : decode b_pr_grow 33 = .ok (.getfield 16, 3) := by decide +kernel
theorem d_pr_grow_36 : decode b_pr_grow 36 = .ok (.iload_n 1, 1) := by decide +kernel
theorem d_pr_grow_37 : decode b_pr_grow 37 = .ok (.invokestatic 45, 3) := by decide +kernel
theorem d_pr_grow_40 : decode b_pr_grow 40 = .ok (.putfield 16, 3) := by decide +kernel
theorem d_pr_grow_43 : decode b_pr_grow 43 = .ok (.aload_n 0, 1) := by decide +kernel
theorem d_pr_grow_44 : decode b_pr_grow 44 = .ok (.aload_n 0, 1) := by decide +kernel
theorem d_pr_grow_45 : decode b_pr_grow 45 = .ok (.getfield 19, 3) := by decide +kernel
theorem d_pr_grow_48 : decode b_pr_grow 48 = .ok (.iload_n 1, 1) := by decide +kernel
theorem d_pr_grow_49 : decode b_pr_grow 49 = .ok (.invokestatic 45, 3) := by decide +kernel
theorem d_pr_grow_52 : decode b_pr_grow 52 = .ok (.putfield 19, 3) := by decide +kernel
theorem d_pr_grow_55 : decode b_pr_grow 55 = .ok (.aload_n 0, 1) := by decide +kernel
theorem d_pr_grow_56 : decode b_pr_grow 56 = .ok (.aload_n 0, 1) := by decide +kernel
theorem d_pr_grow_57 : decode b_pr_grow 57 = .ok (.getfield 22, 3) := by decide +kernel
theorem d_pr_grow_60 : decode b_pr_grow 60 = .ok (.iload_n 1, 1) := by decide +kernel
theorem d_pr_grow_61 : decode b_pr_grow 61 = .ok (.invokestatic 45, 3) := by decide +kernel
theorem d_pr_grow_64 : decode b_pr_grow 64 = .ok (.putfield 22, 3) := by decide +kernel
theorem d_pr_grow_67 : decode b_pr_grow 67 = .ok (.return_, 1) := by decide +kernel
theorem d_pr_link_0 : decode b_pr_link 0 = .ok (.aload_n 0, 1) := by decide +kernel
theorem d_pr_link_1 : decode b_pr_link 1 = .ok (.getfield 19, 3) := by decide +kernel
theorem d_pr_link_4 : decode b_pr_link 4 = .ok (.iload_n 1, 1) := by decide +kernel
theorem d_pr_link_5 : decode b_pr_link 5 = .ok (.aload_n 0, 1) := by decide +kernel
theorem d_pr_link_6 : decode b_pr_link 6 = .ok (.getfield 32, 3) := by decide +kernel
theorem d_pr_link_9 : decode b_pr_link 9 = .ok (.iastore, 1) := by decide +kernel
theorem d_pr_link_10 : decode b_pr_link 10 = .ok (.aload_n 0, 1) := by decide +kernel
theorem d_pr_link_11 : decode b_pr_link 11 = .ok (.getfield 22, 3) := by decide +kernel
theorem d_pr_link_14 : decode b_pr_link 14 = .ok (.iload_n 1, 1) := by decide +kernel
theorem d_pr_link_15 : decode b_pr_link 15 = .ok (.iconst (-1), 1) := by decide +kernel
theorem d_pr_link_16 : decode b_pr_link 16 = .ok (.iastore, 1) := by decide +kernel
theorem d_pr_link_17 : decode b_pr_link 17 = .ok (.aload_n 0, 1) := by decide +kernel
theorem d_pr_link_18 : decode b_pr_link 18 = .ok (.getfield 32, 3) := by decide +kernel
theorem d_pr_link_21 : decode b_pr_link 21 = .ok (.ifCond .lt 16, 3) := by decide +kernel
theorem d_pr_link_24 : decode b_pr_link 24 = .ok (.aload_n 0, 1) := by decide +kernel
theorem d_pr_link_25 : decode b_pr_link 25 = .ok (.getfield 22, 3) := by decide +kernel
theorem d_pr_link_28 : decode b_pr_link 28 = .ok (.aload_n 0, 1) := by decide +kernel
theorem d_pr_link_29 : decode b_pr_link 29 = .ok (.getfield 32, 3) := by decide +kernel
theorem d_pr_link_32 : decode b_pr_link 32 = .ok (.iload_n 1, 1) := by decide +kernel
theorem d_pr_link_33 : decode b_pr_link 33 = .ok (.iastore, 1) := by decide +kernel
theorem d_pr_link_34 : decode b_pr_link 34 = .ok (.goto 8, 3) := by decide +kernel
theorem d_pr_link_37 : decode b_pr_link 37 = .ok (.aload_n 0, 1) := by decide +kernel
theorem d_pr_link_38 : decode b_pr_link 38 = .ok (.iload_n 1, 1) := by decide +kernel
theorem d_pr_link_39 : decode b_pr_link 39 = .ok (.putfield 29, 3) := by decide +kernel
theorem d_pr_link_42 : decode b_pr_link 42 = .ok (.aload_n 0, 1) := by decide +kernel
theorem d_pr_link_43 : decode b_pr_link 43 = .ok (.iload_n 1, 1) := by decide +kernel
theorem d_pr_link_44 : decode b_pr_link 44 = .ok (.putfield 32, 3) := by decide +kernel
theorem d_pr_link_47 : decode b_pr_link 47 = .ok (.return_, 1) := by decide +kernel
theorem d_pr_toLast_0 : decode b_pr_toLast 0 = .ok (.aload_n 0, 1) := by decide +kernel
theorem d_pr_toLast_1 : decode b_pr_toLast 1 = .ok (.iload_n 1, 1) := by decide +kernel
theorem d_pr_toLast_2 : decode b_pr_toLast 2 = .ok (.invokevirtual 64, 3) := by decide +kernel
theorem d_pr_toLast_5 : decode b_pr_toLast 5 = .ok (.aload_n 0, 1) := by decide +kernel
theorem d_pr_toLast_6 : decode b_pr_toLast 6 = .ok (.iload_n 1, 1) := by decide +kernel
theorem d_pr_toLast_7 : decode b_pr_toLast 7 = .ok (.invokevirtual 60, 3) := by decide +kernel
theorem d_pr_toLast_10 : decode b_pr_toLast 10 = .ok (.return_, 1) := by decide +kernel
theorem d_pr_unlink_0 : decode b_pr_unlink 0 = .ok (.aload_n 0, 1) := by decide +kernel
theorem d_pr_unlink_1 : decode b_pr_unlink 1 = .ok (.getfield 19, 3) := by decide +kernel
theorem d_pr_unlink_4 : decode b_pr_unlink 4 = .ok (.iload_n 1, 1) := by decide +kernel
theorem d_pr_unlink_5 : decode b_pr_unlink 5 = .ok (.iaload, 1) := by decide +kernel
theorem d_pr_unlink_6 : decode b_pr_unlink 6 = .ok (.ifCond .lt 23, 3) := by decide +kernel
theorem d_pr_unlink_9 : decode b_pr_unlink 9 = .ok (.aload_n 0, 1) := by decide +kernel
theorem d_pr_unlink_10 : decode b_pr_unlink 10 = .ok (.getfield 22, 3) := by decide +kernel
theorem d_pr_unlink_13 : decode b_pr_unlink 13 = .ok (.aload_n 0, 1) := by decide +kernel
theorem d_pr_unlink_14 : decode b_pr_unlink 14 = .ok (.getfield 19, 3) := by decide +kernel
theorem d_pr_unlink_17 : decode b_pr_unlink 17 = .ok (.iload_n 1, 1) := by decide +kernel
theorem d_pr_unlink_18 : decode b_pr_unlink 18 = .ok (.iaload, 1) := by decide +kernel
theorem d_pr_unlink_19 : decode b_pr_unlink 19 = .ok (.aload_n 0, 1) := by decide +kernel
theorem d_pr_unlink_20 : decode b_pr_unlink 20 = .ok (.getfield 22, 3) := by decide +kernel
theorem d_pr_unlink_23 : decode b_pr_unlink 23 = .ok (.iload_n 1, 1) := by decide +kernel
theorem d_pr_unlink_24 : decode b_pr_unlink 24 = .ok (.iaload, 1) := by decide +kernel
theorem d_pr_unlink_25 : decode b_pr_unlink 25 = .ok (.iastore, 1) := by decide +kernel
theorem d_pr_unlink_26 : decode b_pr_unlink 26 = .ok (.goto 13, 3) := by decide +kernel
theorem d_pr_unlink_29 : decode b_pr_unlink 29 = .ok (.aload_n 0, 1) := by decide +kernel
theorem d_pr_unlink_30 : decode b_pr_unlink 30 = .ok (.aload_n 0, 1) := by decide +kernel
theorem d_pr_unlink_31 : decode b_pr_unlink 31 = .ok (.getfield 22, 3) := by decide +kernel
theorem d_pr_unlink_34 : decode b_pr_unlink 34 = .ok (.iload_n 1, 1) := by decide +kernel
theorem d_pr_unlink_35 : decode b_pr_unlink 35 = .ok (.iaload, 1) := by decide +kernel
theorem d_pr_unlink_36 : decode b_pr_unlink 36 = .ok (.putfield 29, 3) := by decide +kernel
theorem d_pr_unlink_39 : decode b_pr_unlink 39 = .ok (.aload_n 0, 1) := by decide +kernel
theorem d_pr_unlink_40 : decode b_pr_unlink 40 = .ok (.getfield 22, 3) := by decide +kernel
theorem d_pr_unlink_43 : decode b_pr_unlink 43 = .ok (.iload_n 1, 1) := by decide +kernel
theorem d_pr_unlink_44 : decode b_pr_unlink 44 = .ok (.iaload, 1) := by decide +kernel
theorem d_pr_unlink_45 : decode b_pr_unlink 45 = .ok (.ifCond .lt 23, 3) := by decide +kernel
theorem d_pr_unlink_48 : decode b_pr_unlink 48 = .ok (.aload_n 0, 1) := by decide +kernel
theorem d_pr_unlink_49 : decode b_pr_unlink 49 = .ok (.getfield 19, 3) := by decide +kernel
theorem d_pr_unlink_52 : decode b_pr_unlink 52 = .ok (.aload_n 0, 1) := by decide +kernel
theorem d_pr_unlink_53 : decode b_pr_unlink 53 = .ok (.getfield 22, 3) := by decide +kernel
theorem d_pr_unlink_56 : decode b_pr_unlink 56 = .ok (.iload_n 1, 1) := by decide +kernel
theorem d_pr_unlink_57 : decode b_pr_unlink 57 = .ok (.iaload, 1) := by decide +kernel
theorem d_pr_unlink_58 : decode b_pr_unlink 58 = .ok (.aload_n 0, 1) := by decide +kernel
theorem d_pr_unlink_59 : decode b_pr_unlink 59 = .ok (.getfield 19, 3) := by decide +kernel
theorem d_pr_unlink_62 : decode b_pr_unlink 62 = .ok (.iload_n 1, 1) := by decide +kernel
theorem d_pr_unlink_63 : decode b_pr_unlink 63 = .ok (.iaload, 1) := by decide +kernel
theorem d_pr_unlink_64 : decode b_pr_unlink 64 = .ok (.iastore, 1) := by decide +kernel
theorem d_pr_unlink_65 : decode b_pr_unlink 65 = .ok (.goto 13, 3) := by decide +kernel
theorem d_pr_unlink_68 : decode b_pr_unlink 68 = .ok (.aload_n 0, 1) := by decide +kernel
theorem d_pr_unlink_69 : decode b_pr_unlink 69 = .ok (.aload_n 0, 1) := by decide +kernel
theorem d_pr_unlink_70 : decode b_pr_unlink 70 = .ok (.getfield 19, 3) := by decide +kernel
theorem d_pr_unlink_73 : decode b_pr_unlink 73 = .ok (.iload_n 1, 1) := by decide +kernel
theorem d_pr_unlink_74 : decode b_pr_unlink 74 = .ok (.iaload, 1) := by decide +kernel
theorem d_pr_unlink_75 : decode b_pr_unlink 75 = .ok (.putfield 32, 3) := by decide +kernel
theorem d_pr_unlink_78 : decode b_pr_unlink 78 = .ok (.return_, 1) := by decide +kernel
theorem d_pr_delete_0 : decode b_pr_delete 0 = .ok (.aload_n 0, 1) := by decide +kernel
theorem d_pr_delete_1 : decode b_pr_delete 1 = .ok (.aload_n 0, 1) := by decide +kernel
theorem d_pr_delete_2 : decode b_pr_delete 2 = .ok (.getfield 13, 3) := by decide +kernel
theorem d_pr_delete_5 : decode b_pr_delete 5 = .ok (.iload_n 1, 1) := by decide +kernel
theorem d_pr_delete_6 : decode b_pr_delete 6 = .ok (.iaload, 1) := by decide +kernel
theorem d_pr_delete_7 : decode b_pr_delete 7 = .ok (.invokevirtual 38, 3) := by decide +kernel
theorem d_pr_delete_10 : decode b_pr_delete 10 = .ok (.istore_n 2, 1) := by decide +kernel
theorem d_pr_delete_11 : decode b_pr_delete 11 = .ok (.aload_n 0, 1) := by decide +kernel
theorem d_pr_delete_12 : decode b_pr_delete 12 = .ok (.dup, 1) := by decide +kernel
theorem d_pr_delete_13 : decode b_pr_delete 13 = .ok (.getfield 35, 3) := by decide +kernel
theorem d_pr_delete_16 : decode b_pr_delete 16 = .ok (.iconst 1, 1) := by decide +kernel
theorem d_pr_delete_17 : decode b_pr_delete 17 = .ok (.isub, 1) := by decide +kernel
theorem d_pr_delete_18 : decode b_pr_delete 18 = .ok (.putfield 35, 3) := by decide +kernel
theorem d_pr_delete_21 : decode b_pr_delete 21 = .ok (.aload_n 0, 1) := by decide +kernel
theorem d_pr_delete_22 : decode b_pr_delete 22 = .ok (.getfield 7, 3) := by decide +kernel
theorem d_pr_delete_25 : decode b_pr_delete 25 = .ok (.iload_n 2, 1) := by decide +kernel
theorem d_pr_delete_26 : decode b_pr_delete 26 = .ok (.iconst 1, 1) := by decide +kernel
theorem d_pr_delete_27 : decode b_pr_delete 27 = .ok (.iadd, 1) := by decide +kernel
theorem d_pr_delete_28 : decode b_pr_delete 28 = .ok (.aload_n 0, 1) := by decide +kernel
theorem d_pr_delete_29 : decode b_pr_delete 29 = .ok (.getfield 7, 3) := by decide +kernel
theorem d_pr_delete_32 : decode b_pr_delete 32 = .ok (.iload_n 2, 1) := by decide +kernel
theorem d_pr_delete_33 : decode b_pr_delete 33 = .ok (.aload_n 0, 1) := by decide +kernel
theorem d_pr_delete_34 : decode b_pr_delete 34 = .ok (.getfield 35, 3) := by decide +kernel
theorem d_pr_delete_37 : decode b_pr_delete 37 = .ok (.iload_n 2, 1) := by decide +kernel
theorem d_pr_delete_38 : decode b_pr_delete 38 = .ok (.isub, 1) := by decide +kernel
theorem d_pr_delete_39 : decode b_pr_delete 39 = .ok (.invokestatic 54, 3) := by decide +kernel
theorem d_pr_delete_42 : decode b_pr_delete 42 = .ok (.aload_n 0, 1) := by decide +kernel
theorem d_pr_delete_43 : decode b_pr_delete 43 = .ok (.iload_n 1, 1) := by decide +kernel
theorem d_pr_delete_44 : decode b_pr_delete 44 = .ok (.invokevirtual 64, 3) := by decide +kernel
theorem d_pr_delete_47 : decode b_pr_delete 47 = .ok (.aload_n 0, 1) := by decide +kernel
theorem d_pr_delete_48 : decode b_pr_delete 48 = .ok (.getfield 22, 3) := by decide +kernel
theorem d_pr_delete_51 : decode b_pr_delete 51 = .ok (.iload_n 1, 1) := by decide +kernel
theorem d_pr_delete_52 : decode b_pr_delete 52 = .ok (.aload_n 0, 1) := by decide +kernel
theorem d_pr_delete_53 : decode b_pr_delete 53 = .ok (.getfield 25, 3) := by decide +kernel
theorem d_pr_delete_56 : decode b_pr_delete 56 = .ok (.iastore, 1) := by decide +kernel
theorem d_pr_delete_57 : decode b_pr_delete 57 = .ok (.aload_n 0, 1) := by decide +kernel
theorem d_pr_delete_58 : decode b_pr_delete 58 = .ok (.iload_n 1, 1) := by decide +kernel
theorem d_pr_delete_59 : decode b_pr_delete 59 = .ok (.putfield 25, 3) := by decide +kernel
theorem d_pr_delete_62 : decode b_pr_delete 62 = .ok (.return_, 1) := by decide +kernel
theorem d_pr_clear_0 : decode b_pr_clear 0 = .ok (.aload_n 0, 1) := by decide +kernel
theorem d_pr_clear_1 : decode b_pr_clear 1 = .ok (.iconst 0, 1) := by decide +kernel
theorem d_pr_clear_2 : decode b_pr_clear 2 = .ok (.putfield 35, 3) := by decide +kernel
theorem d_pr_clear_5 : decode b_pr_clear 5 = .ok (.aload_n 0, 1) := by decide +kernel
theorem d_pr_clear_6 : decode b_pr_clear 6 = .ok (.iconst (-1), 1) := by decide +kernel
theorem d_pr_clear_7 : decode b_pr_clear 7 = .ok (.putfield 25, 3) := by decide +kernel
theorem d_pr_clear_10 : decode b_pr_clear 10 = .ok (.aload_n 0, 1) := by decide +kernel
theorem d_pr_clear_11 : decode b_pr_clear 11 = .ok (.iconst 0, 1) := by decide +kernel
theorem d_pr_clear_12 : decode b_pr_clear 12 = .ok (.putfield 42, 3) := by decide +kernel
theorem d_pr_clear_15 : decode b_pr_clear 15 = .ok (.aload_n 0, 1) := by decide +kernel
theorem d_pr_clear_16 : decode b_pr_clear 16 = .ok (.iconst (-1), 1) := by decide +kernel
theorem d_pr_clear_17 : decode b_pr_clear 17 = .ok (.putfield 29, 3) := by decide +kernel
theorem d_pr_clear_20 : decode b_pr_clear 20 = .ok (.aload_n 0, 1) := by decide +kernel
theorem d_pr_clear_21 : decode b_pr_clear 21 = .ok (.iconst (-1), 1) := by decide +kernel
theorem d_pr_clear_22 : decode b_pr_clear 22 = .ok (.putfield 32, 3) := by decide +kernel
theorem d_pr_clear_25 : decode b_pr_clear 25 = .ok (.return_, 1) := by decide +kernel
end
section
theorem d_md_init_0 : decode b_md_init 0 = .ok (.aload_n 0, 1) := by decide +kernel
theorem d_md_init_1 : decode b_md_init 1 = .ok (.invokespecial 3, 3) := by decide +kernel
theorem d_md_init_4 : decode b_md_init 4 = .ok (.aload_n 0, 1) := by decide +kernel
theorem d_md_init_5 : decode b_md_init 5 = .ok (.iconst 3, 1) := by decide +kernel
theorem d_md_init_6 : decode b_md_init 6 = .ok (.anewarray 9, 3) := by decide +kernel
theorem d_md_init_9 : decode b_md_init 9 = .ok (.dup, 1) := by decide +kernel
theorem d_md_init_10 : decode b_md_init 10 = .ok (.iconst 0, 1) := by decide +kernel
theorem d_md_init_11 : decode b_md_init 11 = .ok (.new 9, 3) := by decide +kernel
theorem d_md_init_14 : decode b_md_init 14 = .ok (.dup, 1) := by decide +kernel
theorem d_md_init_15 : decode b_md_init 15 = .ok (.invokespecial 11, 3) := by decide +kernel
theorem d_md_init_18 : decode b_md_init 18 = .ok (.aastore, 1) := by decide +kernel
theorem d_md_init_19 : decode b_md_init 19 = .ok (.dup, 1) := by decide +kernel
theorem d_md_init_20 : decode b_md_init 20 = .ok (.iconst 1, 1) := by decide +kernel
theorem d_md_init_21 : decode b_md_init 21 = .ok (.new 9, 3) := by decide +kernel
theorem d_md_init_24 : decode b_md_init 24 = .ok (.dup, 1) := by decide +kernel
theorem d_md_init_25 : decode b_md_init 25 = .ok (.invokespecial 11, 3) := by decide +kernel
theorem d_md_init_28 : decode b_md_init 28 = .ok (.aastore, 1) := by decide +kernel
theorem d_md_init_29 : decode b_md_init 29 = .ok (.dup, 1) := by decide +kernel
theorem d_md_init_30 : decode b_md_init 30 = .ok (.iconst 2, 1) := by decide +kernel
theorem d_md_init_31 : decode b_md_init 31 = .ok (.new 9, 3) := by decide +kernel
theorem d_md_init_34 : decode b_md_init 34 = .ok (.dup, 1) := by decide +kernel
theorem d_md_init_35 : decode b_md_init 35 = .ok (.invokespecial 11, 3) := by decide +kernel
theorem d_md_init_38 : decode b_md_init 38 = .ok (.aastore, 1) := by decide +kernel
theorem d_md_init_39 : decode b_md_init 39 = .ok (.putfield 12, 3) := by decide +kernel
theorem d_md_init_42 : decode b_md_init 42 = .ok (.return_, 1) := by decide +kernel
theorem d_md_put_0 : decode b_md_put 0 = .ok (.iload_n 1, 1) := by decide +kernel
theorem d_md_put_1 : decode b_md_put 1 = .ok (.invokestatic 20, 3) := by decide +kernel
theorem d_md_put_4 : decode b_md_put 4 = .ok (.ifCond .ne 7, 3) := by decide +kernel
theorem d_md_put_7 : decode b_md_put 7 = .ok (.ldc2_w 24, 3) := by decide +kernel
theorem d_md_put_10 : decode b_md_put 10 = .ok (.lreturn, 1) := by decide +kernel
theorem d_md_put_11 : decode b_md_put 11 = .ok (.aload_n 0, 1) := by decide +kernel
theorem d_md_put_12 : decode b_md_put 12 = .ok (.getfield 12, 3) := by decide +kernel
theorem d_md_put_15 : decode b_md_put 15 = .ok (.iload_n 1, 1) := by decide +kernel
theorem d_md_put_16 : decode b_md_put 16 = .ok (.aaload, 1) := by decide +kernel
theorem d_md_put_17 : decode b_md_put 17 = .ok (.iload_n 2, 1) := by decide +kernel
theorem d_md_put_18 : decode b_md_put 18 = .ok (.invokevirtual 26, 3) := by decide +kernel
theorem d_md_put_21 : decode b_md_put 21 = .ok (.istore 4, 2) := by decide +kernel
theorem d_md_put_23 : decode b_md_put 23 = .ok (.iload 4, 2) := by decide +kernel
theorem d_md_put_25 : decode b_md_put 25 = .ok (.ifCond .ge 18, 3) := by decide +kernel
theorem d_md_put_28 : decode b_md_put 28 = .ok (.aload_n 0, 1) := by decide +kernel
theorem d_md_put_29 : decode b_md_put 29 = .ok (.getfield 12, 3) := by decide +kernel
theorem d_md_put_32 : decode b_md_put 32 = .ok (.iload_n 1, 1) := by decide +kernel
theorem d_md_put_33 : decode b_md_put 33 = .ok (.aaload, 1) := by decide +kernel
theorem d_md_put_34 : decode b_md_put 34 = .ok (.iload_n 2, 1) := by decide +kernel
theorem d_md_put_35 : decode b_md_put 35 = .ok (.iload_n 3, 1) := by decide +kernel
theorem d_md_put_36 : decode b_md_put 36 = .ok (.invokevirtual 30, 3) := by decide +kernel
theorem d_md_put_39 : decode b_md_put 39 = .ok (.ldc2_w 34, 3) := by decide +kernel
theorem d_md_put_42 : decode b_md_put 42 = .ok (.lreturn, 1) := by decide +kernel
theorem d_md_put_43 : decode b_md_put 43 = .ok (.aload_n 0, 1) := by decide +kernel
theorem d_md_put_44 : decode b_md_put 44 = .ok (.getfield 12, 3) := by decide +kernel
theorem d_md_put_47 : decode b_md_put 47 = .ok (.iload_n 1, 1) := by decide +kernel
theorem d_md_put_48 : decode b_md_put 48 = .ok (.aaload, 1) := by decide +kernel
theorem d_md_put_49 : decode b_md_put 49 = .ok (.getfield 36, 3) := by decide +kernel
theorem d_md_put_52 : decode b_md_put 52 = .ok (.iload 4, 2) := by decide +kernel
theorem d_md_put_54 : decode b_md_put 54 = .ok (.iaload, 1) := by decide +kernel
theorem d_md_put_55 : decode b_md_put 55 = .ok (.istore 5, 2) := by decide +kernel
theorem d_md_put_57 : decode b_md_put 57 = .ok (.aload_n 0, 1) := by decide +kernel
theorem d_md_put_58 : decode b_md_put 58 = .ok (.getfield 12, 3) := by decide +kernel
theorem d_md_put_61 : decode b_md_put 61 = .ok (.iload_n 1, 1) := by decide +kernel
theorem d_md_put_62 : decode b_md_put 62 = .ok (.aaload, 1) := by decide +kernel
theorem d_md_put_63 : decode b_md_put 63 = .ok (.getfield 36, 3) := by decide +kernel
theorem d_md_put_66 : decode b_md_put 66 = .ok (.iload 4, 2) := by decide +kernel
theorem d_md_put_68 : decode b_md_put 68 = .ok (.iload_n 3, 1) := by decide +kernel
theorem d_md_put_69 : decode b_md_put 69 = .ok (.iastore, 1) := by decide +kernel
theorem d_md_put_70 : decode b_md_put 70 = .ok (.aload_n 0, 1) := by decide +kernel
theorem d_md_put_71 : decode b_md_put 71 = .ok (.iload_n 1, 1) := by decide +kernel
theorem d_md_put_72 : decode b_md_put 72 = .ok (.iload 4, 2) := by decide +kernel
theorem d_md_put_74 : decode b_md_put 74 = .ok (.invokevirtual 40, 3) := by decide +kernel
theorem d_md_put_77 : decode b_md_put 77 = .ok (.iload 5, 2) := by decide +kernel
theorem d_md_put_79 : decode b_md_put 79 = .ok (.i2l, 1) := by decide +kernel
theorem d_md_put_80 : decode b_md_put 80 = .ok (.lreturn, 1) := by decide +kernel
theorem d_md_isMap_0 : decode b_md_isMap 0 = .ok (.iload_n 0, 1) := by decide +kernel
theorem d_md_isMap_1 : decode b_md_isMap 1 = .ok (.ifCond .lt 12, 3) := by decide +kernel
theorem d_md_isMap_4 : decode b_md_isMap 4 = .ok (.iload_n 0, 1) := by decide +kernel
theorem d_md_isMap_5 : decode b_md_isMap 5 = .ok (.iconst 2, 1) := by decide +kernel
theorem d_md_isMap_6 : decode b_md_isMap 6 = .ok (.if_icmp .gt 7, 3) := by decide +kernel
theorem d_md_isMap_9 : decode b_md_isMap 9 = .ok (.iconst 1, 1) := by decide +kernel
theorem d_md_isMap_10 : decode b_md_isMap 10 = .ok (.goto 4, 3) := by decide +kernel
theorem d_md_isMap_13 : decode b_md_isMap 13 = .ok (.iconst 0, 1) := by decide +kernel
theorem d_md_isMap_14 : decode b_md_isMap 14 = .ok (.ireturn, 1) := by decide +kernel
theorem d_md_use_0 : decode b_md_use 0 = .ok (.iload_n 1, 1) := by decide +kernel
theorem d_md_use_1 : decode b_md_use 1 = .ok (.iconst 2, 1) := by decide +kernel
theorem d_md_use_2 : decode b_md_use 2 = .ok (.if_icmp .ne 13, 3) := by decide +kernel
theorem d_md_use_5 : decode b_md_use 5 = .ok (.aload_n 0, 1) := by decide +kernel
theorem d_md_use_6 : decode b_md_use 6 = .ok (.getfield 12, 3) := by decide +kernel
theorem d_md_use_9 : decode b_md_use 9 = .ok (.iconst 2, 1) := by decide +kernel
theorem d_md_use_10 : decode b_md_use 10 = .ok (.aaload, 1) := by decide +kernel
theorem d_md_use_11 : decode b_md_use 11 = .ok (.iload_n 2, 1) := by decide +kernel
theorem d_md_use_12 : decode b_md_use 12 = .ok (.invokevirtual 16, 3) := by decide +kernel
theorem d_md_use_15 : decode b_md_use 15 = .ok (.return_, 1) := by decide +kernel
theorem d_md_add_0 : decode b_md_add 0 = .ok (.iload_n 1, 1) := by decide +kernel
theorem d_md_add_1 : decode b_md_add 1 = .ok (.invokestatic 20, 3) := by decide +kernel
theorem d_md_add_4 : decode b_md_add 4 = .ok (.ifCond .ne 7, 3) := by decide +kernel
theorem d_md_add_7 : decode b_md_add 7 = .ok (.ldc2_w 24, 3) := by decide +kernel
theorem d_md_add_10 : decode b_md_add 10 = .ok (.lreturn, 1) := by decide +kernel
theorem d_md_add_11 : decode b_md_add 11 = .ok (.aload_n 0, 1) := by decide +kernel
theorem d_md_add_12 : decode b_md_add 12 = .ok (.getfield 12, 3) := by decide +kernel
theorem d_md_add_15 : decode b_md_add 15 = .ok (.iload_n 1, 1) := by decide +kernel
theorem d_md_add_16 : decode b_md_add 16 = .ok (.aaload, 1) := by decide +kernel
theorem d_md_add_17 : decode b_md_add 17 = .ok (.iload_n 2, 1) := by decide +kernel
theorem d_md_add_18 : decode b_md_add 18 = .ok (.invokevirtual 26, 3) := by decide +kernel
theorem d_md_add_21 : decode b_md_add 21 = .ok (.istore 4, 2) := by decide +kernel
theorem d_md_add_23 : decode b_md_add 23 = .ok (.iload 4, 2) := by decide +kernel
theorem d_md_add_25 : decode b_md_add 25 = .ok (.ifCond .ge 18, 3) := by decide +kernel
theorem d_md_add_28 : decode b_md_add 28 = .ok (.aload_n 0, 1) := by decide +kernel
theorem d_md_add_29 : decode b_md_add 29 = .ok (.getfield 12, 3) := by decide +kernel
theorem d_md_add_32 : decode b_md_add 32 = .ok (.iload_n 1, 1) := by decide +kernel
theorem d_md_add_33 : decode b_md_add 33 = .ok (.aaload, 1) := by decide +kernel
theorem d_md_add_34 : decode b_md_add 34 = .ok (.iload_n 2, 1) := by decide +kernel
theorem d_md_add_35 : decode b_md_add 35 = .ok (.iload_n 3, 1) := by decide +kernel
theorem d_md_add_36 : decode b_md_add 36 = .ok (.invokevirtual 30, 3) := by decide +kernel
theorem d_md_add_39 : decode b_md_add 39 = .ok (.ldc2_w 34, 3) := by decide +kernel
theorem d_md_add_42 : decode b_md_add 42 = .ok (.lreturn, 1) := by decide +kernel
theorem d_md_add_43 : decode b_md_add 43 = .ok (.aload_n 0, 1) := by decide +kernel
theorem d_md_add_44 : decode b_md_add 44 = .ok (.iload_n 1, 1) := by decide +kernel
theorem d_md_add_45 : decode b_md_add 45 = .ok (.iload 4, 2) := by decide +kernel
theorem d_md_add_47 : decode b_md_add 47 = .ok (.invokevirtual 40, 3) := by decide +kernel
theorem d_md_add_50 : decode b_md_add 50 = .ok (.aload_n 0, 1) := by decide +kernel
theorem d_md_add_51 : decode b_md_add 51 = .ok (.getfield 12, 3) := by decide +kernel
theorem d_md_add_54 : decode b_md_add 54 = .ok (.iload_n 1, 1) := by decide +kernel
theorem d_md_add_55 : decode b_md_add 55 = .ok (.aaload, 1) := by decide +kernel
theorem d_md_add_56 : decode b_md_add 56 = .ok (.getfield 36, 3) := by decide +kernel
theorem d_md_add_59 : decode b_md_add 59 = .ok (.iload 4, 2) := by decide +kernel
theorem d_md_add_61 : decode b_md_add 61 = .ok (.iaload, 1) := by decide +kernel
theorem d_md_add_62 : decode b_md_add 62 = .ok (.i2l, 1) := by decide +kernel
theorem d_md_add_63 : decode b_md_add 63 = .ok (.lreturn, 1) := by decide +kernel
theorem d_md_get_0 : decode b_md_get 0 = .ok (.iload_n 1, 1) := by decide +kernel
theorem d_md_get_1 : decode b_md_get 1 = .ok (.invokestatic 20, 3) := by decide +kernel
theorem d_md_get_4 : decode b_md_get 4 = .ok (.ifCond .ne 7, 3) := by decide +kernel
theorem d_md_get_7 : decode b_md_get 7 = .ok (.ldc2_w 24, 3) := by decide +kernel
theorem d_md_get_10 : decode b_md_get 10 = .ok (.lreturn, 1) := by decide +kernel
theorem d_md_get_11 : decode b_md_get 11 = .ok (.aload_n 0, 1) := by decide +kernel
theorem d_md_get_12 : decode b_md_get 12 = .ok (.getfield 12, 3) := by decide +kernel
theorem d_md_get_15 : decode b_md_get 15 = .ok (.iload_n 1, 1) := by decide +kernel
theorem d_md_get_16 : decode b_md_get 16 = .ok (.aaload, 1) := by decide +kernel
theorem d_md_get_17 : decode b_md_get 17 = .ok (.iload_n 2, 1) := by decide +kernel
theorem d_md_get_18 : decode b_md_get 18 = .ok (.invokevirtual 26, 3) := by decide +kernel
theorem d_md_get_21 : decode b_md_get 21 = .ok (.istore_n 3, 1) := by decide +kernel
theorem d_md_get_22 : decode b_md_get 22 = .ok (.iload_n 3, 1) := by decide +kernel
theorem d_md_get_23 : decode b_md_get 23 = .ok (.ifCond .ge 7, 3) := by decide +kernel
theorem d_md_get_26 : decode b_md_get 26 = .ok (.ldc2_w 34, 3) := by decide +kernel
theorem d_md_get_29 : decode b_md_get 29 = .ok (.lreturn, 1) := by decide +kernel
theorem d_md_get_30 : decode b_md_get 30 = .ok (.aload_n 0, 1) := by decide +kernel
theorem d_md_get_31 : decode b_md_get 31 = .ok (.iload_n 1, 1) := by decide +kernel
theorem d_md_get_32 : decode b_md_get 32 = .ok (.iload_n 3, 1) := by decide +kernel
theorem d_md_get_33 : decode b_md_get 33 = .ok (.invokevirtual 40, 3) := by decide +kernel
theorem d_md_get_36 : decode b_md_get 36 = .ok (.aload_n 0, 1) := by decide +kernel
theorem d_md_get_37 : decode b_md_get 37 = .ok (.getfield 12, 3) := by decide +kernel
theorem d_md_get_40 : decode b_md_get 40 = .ok (.iload_n 1, 1) := by decide +kernel
theorem d_md_get_41 : decode b_md_get 41 = .ok (.aaload, 1) := by decide +kernel
theorem d_md_get_42 : decode b_md_get 42 = .ok (.getfield 36, 3) := by decide +kernel
theorem d_md_get_45 : decode b_md_get 45 = .ok (.iload_n 3, 1) := by decide +kernel
theorem d_md_get_46 : decode b_md_get 46 = .ok (.iaload, 1) := by decide +kernel
theorem d_md_get_47 : decode b_md_get 47 = .ok (.i2l, 1) := by decide +kernel
theorem d_md_get_48 : decode b_md_get 48 = .ok (.lreturn, 1) := by decide +kernel
theorem d_md_give_0 : decode b_md_give 0 = .ok (.aload_n 0, 1) := by decide +kernel
theorem d_md_give_1 : decode b_md_give 1 = .ok (.iload_n 1, 1) := by decide +kernel
theorem d_md_give_2 : decode b_md_give 2 = .ok (.iload_n 2, 1) := by decide +kernel
theorem d_md_give_3 : decode b_md_give 3 = .ok (.invokevirtual 43, 3) := by decide +kernel
theorem d_md_give_6 : decode b_md_give 6 = .ok (.lstore 4, 2) := by decide +kernel
theorem d_md_give_8 : decode b_md_give 8 = .ok (.lload 4, 2) := by decide +kernel
theorem d_md_give_10 : decode b_md_give 10 = .ok (.ldc2_w 34, 3) := by decide +kernel
theorem d_md_give_13 : decode b_md_give 13 = .ok (.lcmp, 1) := by decide +kernel
theorem d_md_give_14 : decode b_md_give 14 = .ok (.ifCond .ne 8, 3) := by decide +kernel
theorem d_md_give_17 : decode b_md_give 17 = .ok (.iload_n 3, 1) := by decide +kernel
theorem d_md_give_18 : decode b_md_give 18 = .ok (.i2l, 1) := by decide +kernel
theorem d_md_give_19 : decode b_md_give 19 = .ok (.goto 5, 3) := by decide +kernel
theorem d_md_give_22 : decode b_md_give 22 = .ok (.lload 4, 2) := by decide +kernel
theorem d_md_give_24 : decode b_md_give 24 = .ok (.lreturn, 1) := by decide +kernel
theorem d_md_remove_0 : decode b_md_remove 0 = .ok (.iload_n 1, 1) := by decide +kernel
theorem d_md_remove_1 : decode b_md_remove 1 = .ok (.invokestatic 20, 3) := by decide +kernel
theorem d_md_remove_4 : decode b_md_remove 4 = .ok (.ifCond .ne 7, 3) := by decide +kernel
theorem d_md_remove_7 : decode b_md_remove 7 = .ok (.ldc2_w 24, 3) := by decide +kernel
theorem d_md_remove_10 : decode b_md_remove 10 = .ok (.lreturn, 1) := by decide +kernel
theorem d_md_remove_11 : decode b_md_remove 11 = .ok (.aload_n 0, 1) := by decide +kernel
theorem d_md_remove_12 : decode b_md_remove 12 = .ok (.getfield 12, 3) := by decide +kernel
theorem d_md_remove_15 : decode b_md_remove 15 = .ok (.iload_n 1, 1) := by decide +kernel
theorem d_md_remove_16 : decode b_md_remove 16 = .ok (.aaload, 1) := by decide +kernel
theorem d_md_remove_17 : decode b_md_remove 17 = .ok (.iload_n 2, 1) := by decide +kernel
theorem d_md_remove_18 : decode b_md_remove 18 = .ok (.invokevirtual 26, 3) := by decide +kernel
theorem d_md_remove_21 : decode b_md_remove 21 = .ok (.istore_n 3, 1) := by decide +kernel
theorem d_md_remove_22 : decode b_md_remove 22 = .ok (.iload_n 3, 1) := by decide +kernel
theorem d_md_remove_23 : decode b_md_remove 23 = .ok (.ifCond .ge 7, 3) := by decide +kernel
theorem d_md_remove_26 : decode b_md_remove 26 = .ok (.ldc2_w 34, 3) := by decide +kernel
theorem d_md_remove_29 : decode b_md_remove 29 = .ok (.lreturn, 1) := by decide +kernel
theorem d_md_remove_30 : decode b_md_remove 30 = .ok (.aload_n 0, 1) := by decide +kernel
theorem d_md_remove_31 : decode b_md_remove 31 = .ok (.getfield 12, 3) := by decide +kernel
theorem d_md_remove_34 : decode b_md_remove 34 = .ok (.iload_n 1, 1) := by decide +kernel
theorem d_md_remove_35 : decode b_md_remove 35 = .ok (.aaload, 1) := by decide +kernel
theorem d_md_remove_36 : decode b_md_remove 36 = .ok (.getfield 36, 3) := by decide +kernel
theorem d_md_remove_39 : decode b_md_remove 39 = .ok (.iload_n 3, 1) := by decide +kernel
theorem d_md_remove_40 : decode b_md_remove 40 = .ok (.iaload, 1) := by decide +kernel
theorem d_md_remove_41 : decode b_md_remove 41 = .ok (.istore 4, 2) := by decide +kernel
theorem d_md_remove_43 : decode b_md_remove 43 = .ok (.aload_n 0, 1) := by decide +kernel
theorem d_md_remove_44 : decode b_md_remove 44 = .ok (.getfield 12, 3) := by decide +kernel
theorem d_md_remove_47 : decode b_md_remove 47 = .ok (.iload_n 1, 1) := by decide +kernel
theorem d_md_remove_48 : decode b_md_remove 48 = .ok (.aaload, 1) := by decide +kernel
theorem d_md_remove_49 : decode b_md_remove 49 = .ok (.iload_n 3, 1) := by decide +kernel
theorem d_md_remove_50 : decode b_md_remove 50 = .ok (.invokevirtual 47, 3) := by decide +kernel
theorem d_md_remove_53 : decode b_md_remove 53 = .ok (.iload 4, 2) := by decide +kernel
theorem d_md_remove_55 : decode b_md_remove 55 = .ok (.i2l, 1) := by decide +kernel
theorem d_md_remove_56 : decode b_md_remove 56 = .ok (.lreturn, 1) := by decide +kernel
theorem d_md_take_0 : decode b_md_take 0 = .ok (.iload_n 1, 1) := by decide +kernel
theorem d_md_take_1 : decode b_md_take 1 = .ok (.invokestatic 20, 3) := by decide +kernel
theorem d_md_take_4 : decode b_md_take 4 = .ok (.ifCond .eq 16, 3) := by decide +kernel
theorem d_md_take_7 : decode b_md_take 7 = .ok (.aload_n 0, 1) := by decide +kernel
theorem d_md_take_8 : decode b_md_take 8 = .ok (.getfield 12, 3) := by decide +kernel
theorem d_md_take_11 : decode b_md_take 11 = .ok (.iload_n 1, 1) := by decide +kernel
theorem d_md_take_12 : decode b_md_take 12 = .ok (.aaload, 1) := by decide +kernel
theorem d_md_take_13 : decode b_md_take 13 = .ok (.iload_n 2, 1) := by decide +kernel
theorem d_md_take_14 : decode b_md_take 14 = .ok (.invokevirtual 26, 3) := by decide +kernel
theorem d_md_take_17 : decode b_md_take 17 = .ok (.goto 4, 3) := by decide +kernel
theorem d_md_take_20 : decode b_md_take 20 = .ok (.iconst (-1), 1) := by decide +kernel
theorem d_md_take_21 : decode b_md_take 21 = .ok (.istore 4, 2) := by decide +kernel
theorem d_md_take_23 : decode b_md_take 23 = .ok (.iload 4, 2) := by decide +kernel
theorem d_md_take_25 : decode b_md_take 25 = .ok (.ifCond .lt 19, 3) := by decide +kernel
theorem d_md_take_28 : decode b_md_take 28 = .ok (.aload_n 0, 1) := by decide +kernel
theorem d_md_take_29 : decode b_md_take 29 = .ok (.getfield 12, 3) := by decide +kernel
theorem d_md_take_32 : decode b_md_take 32 = .ok (.iload_n 1, 1) := by decide +kernel
theorem d_md_take_33 : decode b_md_take 33 = .ok (.aaload, 1) := by decide +kernel
theorem d_md_take_34 : decode b_md_take 34 = .ok (.getfield 36, 3) := by decide +kernel
theorem d_md_take_37 : decode b_md_take 37 = .ok (.iload 4, 2) := by decide +kernel
theorem d_md_take_39 : decode b_md_take 39 = .ok (.iaload, 1) := by decide +kernel
theorem d_md_take_40 : decode b_md_take 40 = .ok (.iload_n 3, 1) := by decide +kernel
theorem d_md_take_41 : decode b_md_take 41 = .ok (.if_icmp .eq 5, 3) := by decide +kernel
theorem d_md_take_44 : decode b_md_take 44 = .ok (.iconst 0, 1) := by decide +kernel
theorem d_md_take_45 : decode b_md_take 45 = .ok (.ireturn, 1) := by decide +kernel
theorem d_md_take_46 : decode b_md_take 46 = .ok (.aload_n 0, 1) := by decide +kernel
theorem d_md_take_47 : decode b_md_take 47 = .ok (.getfield 12, 3) := by decide +kernel
theorem d_md_take_50 : decode b_md_take 50 = .ok (.iload_n 1, 1) := by decide +kernel
theorem d_md_take_51 : decode b_md_take 51 = .ok (.aaload, 1) := by decide +kernel
theorem d_md_take_52 : decode b_md_take 52 = .ok (.iload 4, 2) := by decide +kernel
theorem d_md_take_54 : decode b_md_take 54 = .ok (.invokevirtual 47, 3) := by decide +kernel
theorem d_md_take_57 : decode b_md_take 57 = .ok (.iconst 1, 1) := by decide +kernel
theorem d_md_take_58 : decode b_md_take 58 = .ok (.ireturn, 1) := by decide +kernel
theorem d_md_has_0 : decode b_md_has 0 = .ok (.iload_n 1, 1) := by decide +kernel
theorem d_md_has_1 : decode b_md_has 1 = .ok (.invokestatic 20, 3) := by decide +kernel
theorem d_md_has_4 : decode b_md_has 4 = .ok (.ifCond .eq 12, 3) := by decide +kernel
theorem d_md_has_7 : decode b_md_has 7 = .ok (.iload_n 2, 1) := by decide +kernel
theorem d_md_has_8 : decode b_md_has 8 = .ok (.ifCond .eq 10, 3) := by decide +kernel
theorem d_md_has_11 : decode b_md_has 11 = .ok (.iload_n 2, 1) := by decide +kernel
theorem d_md_has_12 : decode b_md_has 12 = .ok (.iconst 1, 1) := by decide +kernel
theorem d_md_has_13 : decode b_md_has 13 = .ok (.if_icmp .eq 5, 3) := by decide +kernel
theorem d_md_has_16 : decode b_md_has 16 = .ok (.iconst 0, 1) := by decide +kernel
theorem d_md_has_17 : decode b_md_has 17 = .ok (.ireturn, 1) := by decide +kernel
theorem d_md_has_18 : decode b_md_has 18 = .ok (.iload_n 2, 1) := by decide +kernel
theorem d_md_has_19 : decode b_md_has 19 = .ok (.ifCond .ne 22, 3) := by decide +kernel
theorem d_md_has_22 : decode b_md_has 22 = .ok (.aload_n 0, 1) := by decide +kernel
theorem d_md_has_23 : decode b_md_has 23 = .ok (.getfield 12, 3) := by decide +kernel
theorem d_md_has_26 : decode b_md_has 26 = .ok (.iload_n 1, 1) := by decide +kernel
theorem d_md_has_27 : decode b_md_has 27 = .ok (.aaload, 1) := by decide +kernel
theorem d_md_has_28 : decode b_md_has 28 = .ok (.iload_n 3, 1) := by decide +kernel
theorem d_md_has_29 : decode b_md_has 29 = .ok (.invokevirtual 26, 3) := by decide +kernel
theorem d_md_has_32 : decode b_md_has 32 = .ok (.ifCond .lt 7, 3) := by decide +kernel
theorem d_md_has_35 : decode b_md_has 35 = .ok (.iconst 1, 1) := by decide +kernel
theorem d_md_has_36 : decode b_md_has 36 = .ok (.goto 4, 3) := by decide +kernel
theorem d_md_has_39 : decode b_md_has 39 = .ok (.iconst 0, 1) := by decide +kernel
theorem d_md_has_40 : decode b_md_has 40 = .ok (.ireturn, 1) := by decide +kernel
theorem d_md_has_41 : decode b_md_has 41 = .ok (.iconst 0, 1) := by decide +kernel
theorem d_md_has_42 : decode b_md_has 42 = .ok (.istore 4, 2) := by decide +kernel
theorem d_md_has_44 : decode b_md_has 44 = .ok (.iload 4, 2) := by decide +kernel
theorem d_md_has_46 : decode b_md_has 46 = .ok (.aload_n 0, 1) := by decide +kernel
theorem d_md_has_47 : decode b_md_has 47 = .ok (.getfield 12, 3) := by decide +kernel
theorem d_md_has_50 : decode b_md_has 50 = .ok (.iload_n 1, 1) := by decide +kernel
theorem d_md_has_51 : decode b_md_has 51 = .ok (.aaload, 1) := by decide +kernel
theorem d_md_has_52 : decode b_md_has 52 = .ok (.getfield 50, 3) := by decide +kernel
theorem d_md_has_55 : decode b_md_has 55 = .ok (.if_icmp .ge 37, 3) := by decide +kernel
theorem d_md_has_58 : decode b_md_has 58 = .ok (.aload_n 0, 1) := by decide +kernel
theorem d_md_has_59 : decode b_md_has 59 = .ok (.getfield 12, 3) := by decide +kernel
theorem d_md_has_62 : decode b_md_has 62 = .ok (.iload_n 1, 1) := by decide +kernel
theorem d_md_has_63 : decode b_md_has 63 = .ok (.aaload, 1) := by decide +kernel
theorem d_md_has_64 : decode b_md_has 64 = .ok (.getfield 36, 3) := by decide +kernel
theorem d_md_has_67 : decode b_md_has 67 = .ok (.aload_n 0, 1) := by decide +kernel
theorem d_md_has_68 : decode b_md_has 68 = .ok (.getfield 12, 3) := by decide +kernel
theorem d_md_has_71 : decode b_md_has 71 = .ok (.iload_n 1, 1) := by decide +kernel
theorem d_md_has_72 : decode b_md_has 72 = .ok (.aaload, 1) := by decide +kernel
theorem d_md_has_73 : decode b_md_has 73 = .ok (.getfield 54, 3) := by decide +kernel
theorem d_md_has_76 : decode b_md_has 76 = .ok (.iload 4, 2) := by decide +kernel
theorem d_md_has_78 : decode b_md_has 78 = .ok (.iaload, 1) := by decide +kernel
theorem d_md_has_79 : decode b_md_has 79 = .ok (.iaload, 1) := by decide +kernel
theorem d_md_has_80 : decode b_md_has 80 = .ok (.iload_n 3, 1) := by decide +kernel
theorem d_md_has_81 : decode b_md_has 81 = .ok (.if_icmp .ne 5, 3) := by decide +kernel
theorem d_md_has_84 : decode b_md_has 84 = .ok (.iconst 1, 1) := by decide +kernel
theorem d_md_has_85 : decode b_md_has 85 = .ok (.ireturn, 1) := by decide +kernel
theorem d_md_has_86 : decode b_md_has 86 = .ok (.iinc 4 1, 3) := by decide +kernel
theorem d_md_has_89 : decode b_md_has 89 = .ok (.goto (-45), 3) := by decide +kernel
theorem d_md_has_92 : decode b_md_has 92 = .ok (.iconst 0, 1) := by decide +kernel
theorem d_md_has_93 : decode b_md_has 93 = .ok (.ireturn, 1) := by decide +kernel
theorem d_md_size_0 : decode b_md_size 0 = .ok (.iload_n 1, 1) := by decide +kernel
theorem d_md_size_1 : decode b_md_size 1 = .ok (.invokestatic 20, 3) := by decide +kernel
theorem d_md_size_4 : decode b_md_size 4 = .ok (.ifCond .eq 15, 3) := by decide +kernel
theorem d_md_size_7 : decode b_md_size 7 = .ok (.aload_n 0, 1) := by decide +kernel
theorem d_md_size_8 : decode b_md_size 8 = .ok (.getfield 12, 3) := by decide +kernel
theorem d_md_size_11 : decode b_md_size 11 = .ok (.iload_n 1, 1) := by decide +kernel
theorem d_md_size_12 : decode b_md_size 12 = .ok (.aaload, 1) := by decide +kernel
theorem d_md_size_13 : decode b_md_size 13 = .ok (.getfield 50, 3) := by decide +kernel
theorem d_md_size_16 : decode b_md_size 16 = .ok (.goto 4, 3) := by decide +kernel
theorem d_md_size_19 : decode b_md_size 19 = .ok (.iconst (-1), 1) := by decide +kernel
theorem d_md_size_20 : decode b_md_size 20 = .ok (.ireturn, 1) := by decide +kernel
theorem d_md_clear_0 : decode b_md_clear 0 = .ok (.iload_n 1, 1) := by decide +kernel
theorem d_md_clear_1 : decode b_md_clear 1 = .ok (.invokestatic 20, 3) := by decide +kernel
theorem d_md_clear_4 : decode b_md_clear 4 = .ok (.ifCond .ne 5, 3) := by decide +kernel
theorem d_md_clear_7 : decode b_md_clear 7 = .ok (.iconst (-1), 1) := by decide +kernel
theorem d_md_clear_8 : decode b_md_clear 8 = .ok (.ireturn, 1) := by decide +kernel
theorem d_md_clear_9 : decode b_md_clear 9 = .ok (.aload_n 0, 1) := by decide +kernel
theorem d_md_clear_10 : decode b_md_clear 10 = .ok (.getfield 12, 3) := by decide +kernel
theorem d_md_clear_13 : decode b_md_clear 13 = .ok (.iload_n 1, 1) := by decide +kernel
theorem d_md_clear_14 : decode b_md_clear 14 = .ok (.aaload, 1) := by decide +kernel
theorem d_md_clear_15 : decode b_md_clear 15 = .ok (.getfield 50, 3) := by decide +kernel
theorem d_md_clear_18 : decode b_md_clear 18 = .ok (.istore_n 2, 1) := by decide +kernel
theorem d_md_clear_19 : decode b_md_clear 19 = .ok (.aload_n 0, 1) := by decide +kernel
theorem d_md_clear_20 : decode b_md_clear 20 = .ok (.getfield 12, 3) := by decide +kernel
theorem d_md_clear_23 : decode b_md_clear 23 = .ok (.iload_n 1, 1) := by decide +kernel
theorem d_md_clear_24 : decode b_md_clear 24 = .ok (.aaload, 1) := by decide +kernel
theorem d_md_clear_25 : decode b_md_clear 25 = .ok (.invokevirtual 57, 3) := by decide +kernel
theorem d_md_clear_28 : decode b_md_clear 28 = .ok (.iload_n 2, 1) := by decide +kernel
theorem d_md_clear_29 : decode b_md_clear 29 = .ok (.ireturn, 1) := by decide +kernel
theorem d_md_pour_0 : decode b_md_pour 0 = .ok (.iload_n 1, 1) := by decide +kernel
theorem d_md_pour_1 : decode b_md_pour 1 = .ok (.invokestatic 20, 3) := by decide +kernel
theorem d_md_pour_4 : decode b_md_pour 4 = .ok (.ifCond .eq 40, 3) := by decide +kernel
theorem d_md_pour_7 : decode b_md_pour 7 = .ok (.iload_n 2, 1) := by decide +kernel
theorem d_md_pour_8 : decode b_md_pour 8 = .ok (.invokestatic 20, 3) := by decide +kernel
theorem d_md_pour_11 : decode b_md_pour 11 = .ok (.ifCond .eq 33, 3) := by decide +kernel
theorem d_md_pour_14 : decode b_md_pour 14 = .ok (.iload_n 1, 1) := by decide +kernel
theorem d_md_pour_15 : decode b_md_pour 15 = .ok (.iload_n 2, 1) := by decide +kernel
theorem d_md_pour_16 : decode b_md_pour 16 = .ok (.if_icmp .eq 28, 3) := by decide +kernel
theorem d_md_pour_19 : decode b_md_pour 19 = .ok (.aload_n 0, 1) := by decide +kernel
theorem d_md_pour_20 : decode b_md_pour 20 = .ok (.getfield 12, 3) := by decide +kernel
theorem d_md_pour_23 : decode b_md_pour 23 = .ok (.iload_n 1, 1) := by decide +kernel
theorem d_md_pour_24 : decode b_md_pour 24 = .ok (.aaload, 1) := by decide +kernel
theorem d_md_pour_25 : decode b_md_pour 25 = .ok (.getfield 50, 3) := by decide +kernel
theorem d_md_pour_28 : decode b_md_pour 28 = .ok (.aload_n 0, 1) := by decide +kernel
theorem d_md_pour_29 : decode b_md_pour 29 = .ok (.getfield 12, 3) := by decide +kernel
theorem d_md_pour_32 : decode b_md_pour 32 = .ok (.iload_n 2, 1) := by decide +kernel
theorem d_md_pour_33 : decode b_md_pour 33 = .ok (.aaload, 1) := by decide +kernel
theorem d_md_pour_34 : decode b_md_pour 34 = .ok (.getfield 50, 3) := by decide +kernel
theorem d_md_pour_37 : decode b_md_pour 37 = .ok (.iadd, 1) := by decide +kernel
theorem d_md_pour_38 : decode b_md_pour 38 = .ok (.sipush 1400, 3) := by decide +kernel
theorem d_md_pour_41 : decode b_md_pour 41 = .ok (.if_icmp .le 5, 3) := by decide +kernel
theorem d_md_pour_44 : decode b_md_pour 44 = .ok (.iconst (-1), 1) := by decide +kernel
theorem d_md_pour_45 : decode b_md_pour 45 = .ok (.ireturn, 1) := by decide +kernel
theorem d_md_pour_46 : decode b_md_pour 46 = .ok (.iload_n 1, 1) := by decide +kernel
theorem d_md_pour_47 : decode b_md_pour 47 = .ok (.ifCond .ne 66, 3) := by decide +kernel
theorem d_md_pour_50 : decode b_md_pour 50 = .ok (.iload_n 2, 1) := by decide +kernel
theorem d_md_pour_51 : decode b_md_pour 51 = .ok (.iconst 1, 1) := by decide +kernel
theorem d_md_pour_52 : decode b_md_pour 52 = .ok (.if_icmp .eq 5, 3) := by decide +kernel
theorem d_md_pour_55 : decode b_md_pour 55 = .ok (.iconst (-1), 1) := by decide +kernel
theorem d_md_pour_56 : decode b_md_pour 56 = .ok (.ireturn, 1) := by decide +kernel
theorem d_md_pour_57 : decode b_md_pour 57 = .ok (.iconst 0, 1) := by decide +kernel
theorem d_md_pour_58 : decode b_md_pour 58 = .ok (.istore_n 3, 1) := by decide +kernel
theorem d_md_pour_59 : decode b_md_pour 59 = .ok (.iload_n 3, 1) := by decide +kernel
theorem d_md_pour_60 : decode b_md_pour 60 = .ok (.aload_n 0, 1) := by decide +kernel
theorem d_md_pour_61 : decode b_md_pour 61 = .ok (.getfield 12, 3) := by decide +kernel
theorem d_md_pour_64 : decode b_md_pour 64 = .ok (.iconst 0, 1) := by decide +kernel
theorem d_md_pour_65 : decode b_md_pour 65 = .ok (.aaload, 1) := by decide +kernel
theorem d_md_pour_66 : decode b_md_pour 66 = .ok (.getfield 50, 3) := by decide +kernel
theorem d_md_pour_69 : decode b_md_pour 69 = .ok (.if_icmp .ge 44, 3) := by decide +kernel
theorem d_md_pour_72 : decode b_md_pour 72 = .ok (.aload_n 0, 1) := by decide +kernel
theorem d_md_pour_73 : decode b_md_pour 73 = .ok (.getfield 12, 3) := by decide +kernel
theorem d_md_pour_76 : decode b_md_pour 76 = .ok (.iconst 1, 1) := by decide +kernel
theorem d_md_pour_77 : decode b_md_pour 77 = .ok (.aaload, 1) := by decide +kernel
theorem d_md_pour_78 : decode b_md_pour 78 = .ok (.aload_n 0, 1) := by decide +kernel
theorem d_md_pour_79 : decode b_md_pour 79 = .ok (.getfield 12, 3) := by decide +kernel
theorem d_md_pour_82 : decode b_md_pour 82 = .ok (.iconst 0, 1) := by decide +kernel
theorem d_md_pour_83 : decode b_md_pour 83 = .ok (.aaload, 1) := by decide +kernel
theorem d_md_pour_84 : decode b_md_pour 84 = .ok (.getfield 60, 3) := by decide +kernel
theorem d_md_pour_87 : decode b_md_pour 87 = .ok (.aload_n 0, 1) := by decide +kernel
theorem d_md_pour_88 : decode b_md_pour 88 = .ok (.getfield 12, 3) := by decide +kernel
theorem d_md_pour_91 : decode b_md_pour 91 = .ok (.iconst 0, 1) := by decide +kernel
theorem d_md_pour_92 : decode b_md_pour 92 = .ok (.aaload, 1) := by decide +kernel
theorem d_md_pour_93 : decode b_md_pour 93 = .ok (.getfield 54, 3) := by decide +kernel
theorem d_md_pour_96 : decode b_md_pour 96 = .ok (.iload_n 3, 1) := by decide +kernel
theorem d_md_pour_97 : decode b_md_pour 97 = .ok (.iaload, 1) := by decide +kernel
theorem d_md_pour_98 : decode b_md_pour 98 = .ok (.iaload, 1) := by decide +kernel
theorem d_md_pour_99 : decode b_md_pour 99 = .ok (.invokevirtual 26, 3) := by decide +kernel
theorem d_md_pour_102 : decode b_md_pour 102 = .ok (.ifCond .ge 5, 3) := by decide +kernel
theorem d_md_pour_105 : decode b_md_pour 105 = .ok (.iconst (-1), 1) := by decide +kernel
theorem d_md_pour_106 : decode b_md_pour 106 = .ok (.ireturn, 1) := by decide +kernel
theorem d_md_pour_107 : decode b_md_pour 107 = .ok (.iinc 3 1, 3) := by decide +kernel
theorem d_md_pour_110 : decode b_md_pour 110 = .ok (.goto (-51), 3) := by decide +kernel
theorem d_md_pour_113 : decode b_md_pour 113 = .ok (.aload_n 0, 1) := by decide +kernel
theorem d_md_pour_114 : decode b_md_pour 114 = .ok (.getfield 12, 3) := by decide +kernel
theorem d_md_pour_117 : decode b_md_pour 117 = .ok (.iload_n 1, 1) := by decide +kernel
theorem d_md_pour_118 : decode b_md_pour 118 = .ok (.aaload, 1) := by decide +kernel
theorem d_md_pour_119 : decode b_md_pour 119 = .ok (.getfield 63, 3) := by decide +kernel
theorem d_md_pour_122 : decode b_md_pour 122 = .ok (.istore_n 3, 1) := by decide +kernel
theorem d_md_pour_123 : decode b_md_pour 123 = .ok (.iload_n 3, 1) := by decide +kernel
theorem d_md_pour_124 : decode b_md_pour 124 = .ok (.ifCond .lt 46, 3) := by decide +kernel
theorem d_md_pour_127 : decode b_md_pour 127 = .ok (.aload_n 0, 1) := by decide +kernel
theorem d_md_pour_128 : decode b_md_pour 128 = .ok (.iload_n 2, 1) := by decide +kernel
theorem d_md_pour_129 : decode b_md_pour 129 = .ok (.aload_n 0, 1) := by decide +kernel
theorem d_md_pour_130 : decode b_md_pour 130 = .ok (.getfield 12, 3) := by decide +kernel
theorem d_md_pour_133 : decode b_md_pour 133 = .ok (.iload_n 1, 1) := by decide +kernel
theorem d_md_pour_134 : decode b_md_pour 134 = .ok (.aaload, 1) := by decide +kernel
theorem d_md_pour_135 : decode b_md_pour 135 = .ok (.getfield 60, 3) := by decide +kernel
theorem d_md_pour_138 : decode b_md_pour 138 = .ok (.iload_n 3, 1) := by decide +kernel
theorem d_md_pour_139 : decode b_md_pour 139 = .ok (.iaload, 1) := by decide +kernel
theorem d_md_pour_140 : decode b_md_pour 140 = .ok (.aload_n 0, 1) := by decide +kernel
theorem d_md_pour_141 : decode b_md_pour 141 = .ok (.getfield 12, 3) := by decide +kernel
theorem d_md_pour_144 : decode b_md_pour 144 = .ok (.iload_n 1, 1) := by decide +kernel
theorem d_md_pour_145 : decode b_md_pour 145 = .ok (.aaload, 1) := by decide +kernel
theorem d_md_pour_146 : decode b_md_pour 146 = .ok (.getfield 36, 3) := by decide +kernel
theorem d_md_pour_149 : decode b_md_pour 149 = .ok (.iload_n 3, 1) := by decide +kernel
theorem d_md_pour_150 : decode b_md_pour 150 = .ok (.iaload, 1) := by decide +kernel
theorem d_md_pour_151 : decode b_md_pour 151 = .ok (.invokevirtual 66, 3) := by decide +kernel
theorem d_md_pour_154 : decode b_md_pour 154 = .ok (.pop2, 1) := by decide +kernel
theorem d_md_pour_155 : decode b_md_pour 155 = .ok (.aload_n 0, 1) := by decide +kernel
theorem d_md_pour_156 : decode b_md_pour 156 = .ok (.getfield 12, 3) := by decide +kernel
theorem d_md_pour_159 : decode b_md_pour 159 = .ok (.iload_n 1, 1) := by decide +kernel
theorem d_md_pour_160 : decode b_md_pour 160 = .ok (.aaload, 1) := by decide +kernel
theorem d_md_pour_161 : decode b_md_pour 161 = .ok (.getfield 70, 3) := by decide +kernel
theorem d_md_pour_164 : decode b_md_pour 164 = .ok (.iload_n 3, 1) := by decide +kernel
theorem d_md_pour_165 : decode b_md_pour 165 = .ok (.iaload, 1) := by decide +kernel
theorem d_md_pour_166 : decode b_md_pour 166 = .ok (.istore_n 3, 1) := by decide +kernel
theorem d_md_pour_167 : decode b_md_pour 167 = .ok (.goto (-44), 3) := by decide +kernel
theorem d_md_pour_170 : decode b_md_pour 170 = .ok (.aload_n 0, 1) := by decide +kernel
theorem d_md_pour_171 : decode b_md_pour 171 = .ok (.getfield 12, 3) := by decide +kernel
theorem d_md_pour_174 : decode b_md_pour 174 = .ok (.iload_n 2, 1) := by decide +kernel
theorem d_md_pour_175 : decode b_md_pour 175 = .ok (.aaload, 1) := by decide +kernel
theorem d_md_pour_176 : decode b_md_pour 176 = .ok (.getfield 50, 3) := by decide +kernel
theorem d_md_pour_179 : decode b_md_pour 179 = .ok (.ireturn, 1) := by decide +kernel
theorem d_md_entry_0 : decode b_md_entry 0 = .ok (.iload_n 1, 1) := by decide +kernel
theorem d_md_entry_1 : decode b_md_entry 1 = .ok (.iconst 1, 1) := by decide +kernel
theorem d_md_entry_2 : decode b_md_entry 2 = .ok (.if_icmp .eq 8, 3) := by decide +kernel
theorem d_md_entry_5 : decode b_md_entry 5 = .ok (.iload_n 1, 1) := by decide +kernel
theorem d_md_entry_6 : decode b_md_entry 6 = .ok (.iconst 2, 1) := by decide +kernel
theorem d_md_entry_7 : decode b_md_entry 7 = .ok (.if_icmp .ne 12, 3) := by decide +kernel
theorem d_md_entry_10 : decode b_md_entry 10 = .ok (.iload_n 3, 1) := by decide +kernel
theorem d_md_entry_11 : decode b_md_entry 11 = .ok (.ifCond .eq 12, 3) := by decide +kernel
theorem d_md_entry_14 : decode b_md_entry 14 = .ok (.iload_n 3, 1) := by decide +kernel
theorem d_md_entry_15 : decode b_md_entry 15 = .ok (.iconst 1, 1) := by decide +kernel
theorem d_md_entry_16 : decode b_md_entry 16 = .ok (.if_icmp .eq 7, 3) := by decide +kernel
theorem d_md_entry_19 : decode b_md_entry 19 = .ok (.ldc2_w 24, 3) := by decide +kernel
theorem d_md_entry_22 : decode b_md_entry 22 = .ok (.lreturn, 1) := by decide +kernel
theorem d_md_entry_23 : decode b_md_entry 23 = .ok (.iload_n 2, 1) := by decide +kernel
theorem d_md_entry_24 : decode b_md_entry 24 = .ok (.ifCond .lt 16, 3) := by decide +kernel
theorem d_md_entry_27 : decode b_md_entry 27 = .ok (.iload_n 2, 1) := by decide +kernel
theorem d_md_entry_28 : decode b_md_entry 28 = .ok (.aload_n 0, 1) := by decide +kernel
theorem d_md_entry_29 : decode b_md_entry 29 = .ok (.getfield 12, 3) := by decide +kernel
theorem d_md_entry_32 : decode b_md_entry 32 = .ok (.iload_n 1, 1) := by decide +kernel
theorem d_md_entry_33 : decode b_md_entry 33 = .ok (.aaload, 1) := by decide +kernel
theorem d_md_entry_34 : decode b_md_entry 34 = .ok (.getfield 50, 3) := by decide +kernel
theorem d_md_entry_37 : decode b_md_entry 37 = .ok (.if_icmp .lt 7, 3) := by decide +kernel
theorem d_md_entry_40 : decode b_md_entry 40 = .ok (.ldc2_w 34, 3) := by decide +kernel
theorem d_md_entry_43 : decode b_md_entry 43 = .ok (.lreturn, 1) := by decide +kernel
theorem d_md_entry_44 : decode b_md_entry 44 = .ok (.aload_n 0, 1) := by decide +kernel
theorem d_md_entry_45 : decode b_md_entry 45 = .ok (.getfield 12, 3) := by decide +kernel
theorem d_md_entry_48 : decode b_md_entry 48 = .ok (.iload_n 1, 1) := by decide +kernel
theorem d_md_entry_49 : decode b_md_entry 49 = .ok (.aaload, 1) := by decide +kernel
theorem d_md_entry_50 : decode b_md_entry 50 = .ok (.getfield 63, 3) := by decide +kernel
theorem d_md_entry_53 : decode b_md_entry 53 = .ok (.istore 4, 2) := by decide +kernel
theorem d_md_entry_55 : decode b_md_entry 55 = .ok (.iconst 0, 1) := by decide +kernel
theorem d_md_entry_56 : decode b_md_entry 56 = .ok (.istore 5, 2) := by decide +kernel
theorem d_md_entry_58 : decode b_md_entry 58 = .ok (.iload 5, 2) := by decide +kernel
theorem d_md_entry_60 : decode b_md_entry 60 = .ok (.iload_n 2, 1) := by decide +kernel
theorem d_md_entry_61 : decode b_md_entry 61 = .ok (.if_icmp .ge 23, 3) := by decide +kernel
theorem d_md_entry_64 : decode b_md_entry 64 = .ok (.aload_n 0, 1) := by decide +kernel
theorem d_md_entry_65 : decode b_md_entry 65 = .ok (.getfield 12, 3) := by decide +kernel
theorem d_md_entry_68 : decode b_md_entry 68 = .ok (.iload_n 1, 1) := by decide +kernel
theorem d_md_entry_69 : decode b_md_entry 69 = .ok (.aaload, 1) := by decide +kernel
theorem d_md_entry_70 : decode b_md_entry 70 = .ok (.getfield 70, 3) := by decide +kernel
theorem d_md_entry_73 : decode b_md_entry 73 = .ok (.iload 4, 2) := by decide +kernel
theorem d_md_entry_75 : decode b_md_entry 75 = .ok (.iaload, 1) := by decide +kernel
theorem d_md_entry_76 : decode b_md_entry 76 = .ok (.istore 4, 2) := by decide +kernel
theorem d_md_entry_78 : decode b_md_entry 78 = .ok (.iinc 5 1, 3) := by decide +kernel
theorem d_md_entry_81 : decode b_md_entry 81 = .ok (.goto (-23), 3) := by decide +kernel
theorem d_md_entry_84 : decode b_md_entry 84 = .ok (.iload_n 3, 1) := by decide +kernel
theorem d_md_entry_85 : decode b_md_entry 85 = .ok (.ifCond .ne 19, 3) := by decide +kernel
theorem d_md_entry_88 : decode b_md_entry 88 = .ok (.aload_n 0, 1) := by decide +kernel
theorem d_md_entry_89 : decode b_md_entry 89 = .ok (.getfield 12, 3) := by decide +kernel
theorem d_md_entry_92 : decode b_md_entry 92 = .ok (.iload_n 1, 1) := by decide +kernel
theorem d_md_entry_93 : decode b_md_entry 93 = .ok (.aaload, 1) := by decide +kernel
theorem d_md_entry_94 : decode b_md_entry 94 = .ok (.getfield 60, 3) := by decide +kernel
theorem d_md_entry_97 : decode b_md_entry 97 = .ok (.iload 4, 2) := by decide +kernel
theorem d_md_entry_99 : decode b_md_entry 99 = .ok (.iaload, 1) := by decide +kernel
theorem d_md_entry_100 : decode b_md_entry 100 = .ok (.i2l, 1) := by decide +kernel
theorem d_md_entry_101 : decode b_md_entry 101 = .ok (.goto 16, 3) := by decide +kernel
theorem d_md_entry_104 : decode b_md_entry 104 = .ok (.aload_n 0, 1) := by decide +kernel
theorem d_md_entry_105 : decode b_md_entry 105 = .ok (.getfield 12, 3) := by decide +kernel
theorem d_md_entry_108 : decode b_md_entry 108 = .ok (.iload_n 1, 1) := by decide +kernel
theorem d_md_entry_109 : decode b_md_entry 109 = .ok (.aaload, 1) := by decide +kernel
theorem d_md_entry_110 : decode b_md_entry 110 = .ok (.getfield 36, 3) := by decide +kernel
theorem d_md_entry_113 : decode b_md_entry 113 = .ok (.iload 4, 2) := by decide +kernel
theorem d_md_entry_115 : decode b_md_entry 115 = .ok (.iaload, 1) := by decide +kernel
theorem d_md_entry_116 : decode b_md_entry 116 = .ok (.i2l, 1) := by decide +kernel
theorem d_md_entry_117 : decode b_md_entry 117 = .ok (.lreturn, 1) := by decide +kernel
theorem d_md_sum_0 : decode b_md_sum 0 = .ok (.iload_n 1, 1) := by decide +kernel
theorem d_md_sum_1 : decode b_md_sum 1 = .ok (.invokestatic 20, 3) := by decide +kernel
theorem d_md_sum_4 : decode b_md_sum 4 = .ok (.ifCond .ne 7, 3) := by decide +kernel
theorem d_md_sum_7 : decode b_md_sum 7 = .ok (.ldc2_w 24, 3) := by decide +kernel
theorem d_md_sum_10 : decode b_md_sum 10 = .ok (.lreturn, 1) := by decide +kernel
theorem d_md_sum_11 : decode b_md_sum 11 = .ok (.lconst 0, 1) := by decide +kernel
theorem d_md_sum_12 : decode b_md_sum 12 = .ok (.lstore_n 2, 1) := by decide +kernel
theorem d_md_sum_13 : decode b_md_sum 13 = .ok (.iconst 0, 1) := by decide +kernel
theorem d_md_sum_14 : decode b_md_sum 14 = .ok (.istore 4, 2) := by decide +kernel
theorem d_md_sum_16 : decode b_md_sum 16 = .ok (.iload 4, 2) := by decide +kernel
theorem d_md_sum_18 : decode b_md_sum 18 = .ok (.aload_n 0, 1) := by decide +kernel
theorem d_md_sum_19 : decode b_md_sum 19 = .ok (.getfield 12, 3) := by decide +kernel
theorem d_md_sum_22 : decode b_md_sum 22 = .ok (.iload_n 1, 1) := by decide +kernel
theorem d_md_sum_23 : decode b_md_sum 23 = .ok (.aaload, 1) := by decide +kernel
theorem d_md_sum_24 : decode b_md_sum 24 = .ok (.getfield 50, 3) := by decide +kernel
theorem d_md_sum_27 : decode b_md_sum 27 = .ok (.if_icmp .ge 63, 3) := by decide +kernel
theorem d_md_sum_30 : decode b_md_sum 30 = .ok (.lload_n 2, 1) := by decide +kernel
theorem d_md_sum_31 : decode b_md_sum 31 = .ok (.ldc2_w 73, 3) := by decide +kernel
theorem d_md_sum_34 : decode b_md_sum 34 = .ok (.aload_n 0, 1) := by decide +kernel
theorem d_md_sum_35 : decode b_md_sum 35 = .ok (.getfield 12, 3) := by decide +kernel
theorem d_md_sum_38 : decode b_md_sum 38 = .ok (.iload_n 1, 1) := by decide +kernel
theorem d_md_sum_39 : decode b_md_sum 39 = .ok (.aaload, 1) := by decide +kernel
theorem d_md_sum_40 : decode b_md_sum 40 = .ok (.getfield 60, 3) := by decide +kernel
theorem d_md_sum_43 : decode b_md_sum 43 = .ok (.aload_n 0, 1) := by decide +kernel
theorem d_md_sum_44 : decode b_md_sum 44 = .ok (.getfield 12, 3) := by decide +kernel
theorem d_md_sum_47 : decode b_md_sum 47 = .ok (.iload_n 1, 1) := by decide +kernel
theorem d_md_sum_48 : decode b_md_sum 48 = .ok (.aaload, 1) := by decide +kernel
theorem d_md_sum_49 : decode b_md_sum 49 = .ok (.getfield 54, 3) := by decide +kernel
theorem d_md_sum_52 : decode b_md_sum 52 = .ok (.iload 4, 2) := by decide +kernel
theorem d_md_sum_54 : decode b_md_sum 54 = .ok (.iaload, 1) := by decide +kernel
theorem d_md_sum_55 : decode b_md_sum 55 = .ok (.iaload, 1) := by decide +kernel
theorem d_md_sum_56 : decode b_md_sum 56 = .ok (.i2l, 1) := by decide +kernel
theorem d_md_sum_57 : decode b_md_sum 57 = .ok (.lmul, 1) := by decide +kernel
theorem d_md_sum_58 : decode b_md_sum 58 = .ok (.aload_n 0, 1) := by decide +kernel
theorem d_md_sum_59 : decode b_md_sum 59 = .ok (.getfield 12, 3) := by decide +kernel
theorem d_md_sum_62 : decode b_md_sum 62 = .ok (.iload_n 1, 1) := by decide +kernel
theorem d_md_sum_63 : decode b_md_sum 63 = .ok (.aaload, 1) := by decide +kernel
theorem d_md_sum_64 : decode b_md_sum 64 = .ok (.getfield 36, 3) := by decide +kernel
theorem d_md_sum_67 : decode b_md_sum 67 = .ok (.aload_n 0, 1) := by decide +kernel
theorem d_md_sum_68 : decode b_md_sum 68 = .ok (.getfield 12, 3) := by decide +kernel
theorem d_md_sum_71 : decode b_md_sum 71 = .ok (.iload_n 1, 1) := by decide +kernel
theorem d_md_sum_72 : decode b_md_sum 72 = .ok (.aaload, 1) := by decide +kernel
theorem d_md_sum_73 : decode b_md_sum 73 = .ok (.getfield 54, 3) := by decide +kernel
theorem d_md_sum_76 : decode b_md_sum 76 = .ok (.iload 4, 2) := by decide +kernel
theorem d_md_sum_78 : decode b_md_sum 78 = .ok (.iaload, 1) := by decide +kernel
theorem d_md_sum_79 : decode b_md_sum 79 = .ok (.iaload, 1) := by decide +kernel
theorem d_md_sum_80 : decode b_md_sum 80 = .ok (.i2l, 1) := by decide +kernel
theorem d_md_sum_81 : decode b_md_sum 81 = .ok (.ladd, 1) := by decide +kernel
theorem d_md_sum_82 : decode b_md_sum 82 = .ok (.ladd, 1) := by decide +kernel
theorem d_md_sum_83 : decode b_md_sum 83 = .ok (.lstore_n 2, 1) := by decide +kernel
theorem d_md_sum_84 : decode b_md_sum 84 = .ok (.iinc 4 1, 3) := by decide +kernel
theorem d_md_sum_87 : decode b_md_sum 87 = .ok (.goto (-71), 3) := by decide +kernel
theorem d_md_sum_90 : decode b_md_sum 90 = .ok (.lload_n 2, 1) := by decide +kernel
theorem d_md_sum_91 : decode b_md_sum 91 = .ok (.lreturn, 1) := by decide +kernel
theorem d_md_sweep_0 : decode b_md_sweep 0 = .ok (.iload_n 1, 1) := by decide +kernel
theorem d_md_sweep_1 : decode b_md_sweep 1 = .ok (.invokestatic 20, 3) := by decide +kernel
theorem d_md_sweep_4 : decode b_md_sweep 4 = .ok (.ifCond .eq 8, 3) := by decide +kernel
theorem d_md_sweep_7 : decode b_md_sweep 7 = .ok (.iload_n 2, 1) := by decide +kernel
theorem d_md_sweep_8 : decode b_md_sweep 8 = .ok (.iconst 1, 1) := by decide +kernel
theorem d_md_sweep_9 : decode b_md_sweep 9 = .ok (.if_icmp .ge 5, 3) := by decide +kernel
theorem d_md_sweep_12 : decode b_md_sweep 12 = .ok (.iconst (-1), 1) := by decide +kernel
theorem d_md_sweep_13 : decode b_md_sweep 13 = .ok (.ireturn, 1) := by decide +kernel
theorem d_md_sweep_14 : decode b_md_sweep 14 = .ok (.iconst 0, 1) := by decide +kernel
theorem d_md_sweep_15 : decode b_md_sweep 15 = .ok (.istore 4, 2) := by decide +kernel
theorem d_md_sweep_17 : decode b_md_sweep 17 = .ok (.aload_n 0, 1) := by decide +kernel
theorem d_md_sweep_18 : decode b_md_sweep 18 = .ok (.getfield 12, 3) := by decide +kernel
theorem d_md_sweep_21 : decode b_md_sweep 21 = .ok (.iload_n 1, 1) := by decide +kernel
theorem d_md_sweep_22 : decode b_md_sweep 22 = .ok (.aaload, 1) := by decide +kernel
theorem d_md_sweep_23 : decode b_md_sweep 23 = .ok (.getfield 50, 3) := by decide +kernel
theorem d_md_sweep_26 : decode b_md_sweep 26 = .ok (.iconst 1, 1) := by decide +kernel
theorem d_md_sweep_27 : decode b_md_sweep 27 = .ok (.isub, 1) := by decide +kernel
theorem d_md_sweep_28 : decode b_md_sweep 28 = .ok (.istore 5, 2) := by decide +kernel
theorem d_md_sweep_30 : decode b_md_sweep 30 = .ok (.iload 5, 2) := by decide +kernel
theorem d_md_sweep_32 : decode b_md_sweep 32 = .ok (.ifCond .lt 60, 3) := by decide +kernel
theorem d_md_sweep_35 : decode b_md_sweep 35 = .ok (.aload_n 0, 1) := by decide +kernel
theorem d_md_sweep_36 : decode b_md_sweep 36 = .ok (.getfield 12, 3) := by decide +kernel
theorem d_md_sweep_39 : decode b_md_sweep 39 = .ok (.iload_n 1, 1) := by decide +kernel
theorem d_md_sweep_40 : decode b_md_sweep 40 = .ok (.aaload, 1) := by decide +kernel
theorem d_md_sweep_41 : decode b_md_sweep 41 = .ok (.getfield 54, 3) := by decide +kernel
theorem d_md_sweep_44 : decode b_md_sweep 44 = .ok (.iload 5, 2) := by decide +kernel
theorem d_md_sweep_46 : decode b_md_sweep 46 = .ok (.iaload, 1) := by decide +kernel
theorem d_md_sweep_47 : decode b_md_sweep 47 = .ok (.istore 6, 2) := by decide +kernel
theorem d_md_sweep_49 : decode b_md_sweep 49 = .ok (.aload_n 0, 1) := by decide +kernel
theorem d_md_sweep_50 : decode b_md_sweep 50 = .ok (.getfield 12, 3) := by decide +kernel
theorem d_md_sweep_53 : decode b_md_sweep 53 = .ok (.iload_n 1, 1) := by decide +kernel
theorem d_md_sweep_54 : decode b_md_sweep 54 = .ok (.aaload, 1) := by decide +kernel
theorem d_md_sweep_55 : decode b_md_sweep 55 = .ok (.getfield 60, 3) := by decide +kernel
theorem d_md_sweep_58 : decode b_md_sweep 58 = .ok (.iload 6, 2) := by decide +kernel
theorem d_md_sweep_60 : decode b_md_sweep 60 = .ok (.iaload, 1) := by decide +kernel
theorem d_md_sweep_61 : decode b_md_sweep 61 = .ok (.iload_n 2, 1) := by decide +kernel
theorem d_md_sweep_62 : decode b_md_sweep 62 = .ok (.invokestatic 75, 3) := by decide +kernel
theorem d_md_sweep_65 : decode b_md_sweep 65 = .ok (.iload_n 3, 1) := by decide +kernel
theorem d_md_sweep_66 : decode b_md_sweep 66 = .ok (.if_icmp .eq 6, 3) := by decide +kernel
theorem d_md_sweep_69 : decode b_md_sweep 69 = .ok (.goto 17, 3) := by decide +kernel
theorem d_md_sweep_72 : decode b_md_sweep 72 = .ok (.aload_n 0, 1) := by decide +kernel
theorem d_md_sweep_73 : decode b_md_sweep 73 = .ok (.getfield 12, 3) := by decide +kernel
theorem d_md_sweep_76 : decode b_md_sweep 76 = .ok (.iload_n 1, 1) := by decide +kernel
theorem d_md_sweep_77 : decode b_md_sweep 77 = .ok (.aaload, 1) := by decide +kernel
theorem d_md_sweep_78 : decode b_md_sweep 78 = .ok (.iload 6, 2) := by decide +kernel
theorem d_md_sweep_80 : decode b_md_sweep 80 = .ok (.invokevirtual 47, 3) := by decide +kernel
theorem d_md_sweep_83 : decode b_md_sweep 83 = .ok (.iinc 4 1, 3) := by decide +kernel
theorem d_md_sweep_86 : decode b_md_sweep 86 = .ok (.iinc 5 (-1), 3) := by decide +kernel
theorem d_md_sweep_89 : decode b_md_sweep 89 = .ok (.goto (-59), 3) := by decide +kernel
theorem d_md_sweep_92 : decode b_md_sweep 92 = .ok (.iload 4, 2) := by decide +kernel
theorem d_md_sweep_94 : decode b_md_sweep 94 = .ok (.ireturn, 1) := by decide +kernel
theorem d_md_raise_0 : decode b_md_raise 0 = .ok (.iload_n 1, 1) := by decide +kernel
theorem d_md_raise_1 : decode b_md_raise 1 = .ok (.invokestatic 20, 3) := by decide +kernel
theorem d_md_raise_4 : decode b_md_raise 4 = .ok (.ifCond .ne 5, 3) := by decide +kernel
theorem d_md_raise_7 : decode b_md_raise 7 = .ok (.iconst (-1), 1) := by decide +kernel
theorem d_md_raise_8 : decode b_md_raise 8 = .ok (.ireturn, 1) := by decide +kernel
theorem d_md_raise_9 : decode b_md_raise 9 = .ok (.iconst 0, 1) := by decide +kernel
theorem d_md_raise_10 : decode b_md_raise 10 = .ok (.istore_n 3, 1) := by decide +kernel
theorem d_md_raise_11 : decode b_md_raise 11 = .ok (.iload_n 3, 1) := by decide +kernel
theorem d_md_raise_12 : decode b_md_raise 12 = .ok (.aload_n 0, 1) := by decide +kernel
theorem d_md_raise_13 : decode b_md_raise 13 = .ok (.getfield 12, 3) := by decide +kernel
theorem d_md_raise_16 : decode b_md_raise 16 = .ok (.iload_n 1, 1) := by decide +kernel
theorem d_md_raise_17 : decode b_md_raise 17 = .ok (.aaload, 1) := by decide +kernel
theorem d_md_raise_18 : decode b_md_raise 18 = .ok (.getfield 50, 3) := by decide +kernel
theorem d_md_raise_21 : decode b_md_raise 21 = .ok (.if_icmp .ge 34, 3) := by decide +kernel
theorem d_md_raise_24 : decode b_md_raise 24 = .ok (.aload_n 0, 1) := by decide +kernel
theorem d_md_raise_25 : decode b_md_raise 25 = .ok (.getfield 12, 3) := by decide +kernel
theorem d_md_raise_28 : decode b_md_raise 28 = .ok (.iload_n 1, 1) := by decide +kernel
theorem d_md_raise_29 : decode b_md_raise 29 = .ok (.aaload, 1) := by decide +kernel
theorem d_md_raise_30 : decode b_md_raise 30 = .ok (.getfield 36, 3) := by decide +kernel
theorem d_md_raise_33 : decode b_md_raise 33 = .ok (.aload_n 0, 1) := by decide +kernel
theorem d_md_raise_34 : decode b_md_raise 34 = .ok (.getfield 12, 3) := by decide +kernel
theorem d_md_raise_37 : decode b_md_raise 37 = .ok (.iload_n 1, 1) := by decide +kernel
theorem d_md_raise_38 : decode b_md_raise 38 = .ok (.aaload, 1) := by decide +kernel
theorem d_md_raise_39 : decode b_md_raise 39 = .ok (.getfield 54, 3) := by decide +kernel
theorem d_md_raise_42 : decode b_md_raise 42 = .ok (.iload_n 3, 1) := by decide +kernel
theorem d_md_raise_43 : decode b_md_raise 43 = .ok (.iaload, 1) := by decide +kernel
theorem d_md_raise_44 : decode b_md_raise 44 = .ok (.dup2, 1) := by decide +kernel
theorem d_md_raise_45 : decode b_md_raise 45 = .ok (.iaload, 1) := by decide +kernel
theorem d_md_raise_46 : decode b_md_raise 46 = .ok (.iload_n 2, 1) := by decide +kernel
theorem d_md_raise_47 : decode b_md_raise 47 = .ok (.iadd, 1) := by decide +kernel
theorem d_md_raise_48 : decode b_md_raise 48 = .ok (.iastore, 1) := by decide +kernel
theorem d_md_raise_49 : decode b_md_raise 49 = .ok (.iinc 3 1, 3) := by decide +kernel
theorem d_md_raise_52 : decode b_md_raise 52 = .ok (.goto (-41), 3) := by decide +kernel
theorem d_md_raise_55 : decode b_md_raise 55 = .ok (.aload_n 0, 1) := by decide +kernel
theorem d_md_raise_56 : decode b_md_raise 56 = .ok (.getfield 12, 3) := by decide +kernel
theorem d_md_raise_59 : decode b_md_raise 59 = .ok (.iload_n 1, 1) := by decide +kernel
theorem d_md_raise_60 : decode b_md_raise 60 = .ok (.aaload, 1) := by decide +kernel
theorem d_md_raise_61 : decode b_md_raise 61 = .ok (.getfield 50, 3) := by decide +kernel
theorem d_md_raise_64 : decode b_md_raise 64 = .ok (.ireturn, 1) := by decide +kernel
theorem d_md_same_0 : decode b_md_same 0 = .ok (.iload_n 1, 1) := by decide +kernel
theorem d_md_same_1 : decode b_md_same 1 = .ok (.invokestatic 20, 3) := by decide +kernel
theorem d_md_same_4 : decode b_md_same 4 = .ok (.ifCond .eq 31, 3) := by decide +kernel
theorem d_md_same_7 : decode b_md_same 7 = .ok (.iload_n 2, 1) := by decide +kernel
theorem d_md_same_8 : decode b_md_same 8 = .ok (.invokestatic 20, 3) := by decide +kernel
theorem d_md_same_11 : decode b_md_same 11 = .ok (.ifCond .eq 24, 3) := by decide +kernel
theorem d_md_same_14 : decode b_md_same 14 = .ok (.aload_n 0, 1) := by decide +kernel
theorem d_md_same_15 : decode b_md_same 15 = .ok (.getfield 12, 3) := by decide +kernel
theorem d_md_same_18 : decode b_md_same 18 = .ok (.iload_n 1, 1) := by decide +kernel
theorem d_md_same_19 : decode b_md_same 19 = .ok (.aaload, 1) := by decide +kernel
theorem d_md_same_20 : decode b_md_same 20 = .ok (.getfield 50, 3) := by decide +kernel
theorem d_md_same_23 : decode b_md_same 23 = .ok (.aload_n 0, 1) := by decide +kernel
theorem d_md_same_24 : decode b_md_same 24 = .ok (.getfield 12, 3) := by decide +kernel
theorem d_md_same_27 : decode b_md_same 27 = .ok (.iload_n 2, 1) := by decide +kernel
theorem d_md_same_28 : decode b_md_same 28 = .ok (.aaload, 1) := by decide +kernel
theorem d_md_same_29 : decode b_md_same 29 = .ok (.getfield 50, 3) := by decide +kernel
theorem d_md_same_32 : decode b_md_same 32 = .ok (.if_icmp .eq 5, 3) := by decide +kernel
theorem d_md_same_35 : decode b_md_same 35 = .ok (.iconst 0, 1) := by decide +kernel
theorem d_md_same_36 : decode b_md_same 36 = .ok (.ireturn, 1) := by decide +kernel
theorem d_md_same_37 : decode b_md_same 37 = .ok (.iconst 0, 1) := by decide +kernel
theorem d_md_same_38 : decode b_md_same 38 = .ok (.istore_n 3, 1) := by decide +kernel
theorem d_md_same_39 : decode b_md_same 39 = .ok (.iload_n 3, 1) := by decide +kernel
theorem d_md_same_40 : decode b_md_same 40 = .ok (.aload_n 0, 1) := by decide +kernel
theorem d_md_same_41 : decode b_md_same 41 = .ok (.getfield 12, 3) := by decide +kernel
theorem d_md_same_44 : decode b_md_same 44 = .ok (.iload_n 1, 1) := by decide +kernel
theorem d_md_same_45 : decode b_md_same 45 = .ok (.aaload, 1) := by decide +kernel
theorem d_md_same_46 : decode b_md_same 46 = .ok (.getfield 50, 3) := by decide +kernel
theorem d_md_same_49 : decode b_md_same 49 = .ok (.if_icmp .ge 91, 3) := by decide +kernel
theorem d_md_same_52 : decode b_md_same 52 = .ok (.aload_n 0, 1) := by decide +kernel
theorem d_md_same_53 : decode b_md_same 53 = .ok (.getfield 12, 3) := by decide +kernel
theorem d_md_same_56 : decode b_md_same 56 = .ok (.iload_n 1, 1) := by decide +kernel
theorem d_md_same_57 : decode b_md_same 57 = .ok (.aaload, 1) := by decide +kernel
theorem d_md_same_58 : decode b_md_same 58 = .ok (.getfield 54, 3) := by decide +kernel
theorem d_md_same_61 : decode b_md_same 61 = .ok (.iload_n 3, 1) := by decide +kernel
theorem d_md_same_62 : decode b_md_same 62 = .ok (.iaload, 1) := by decide +kernel
theorem d_md_same_63 : decode b_md_same 63 = .ok (.istore 4, 2) := by decide +kernel
theorem d_md_same_65 : decode b_md_same 65 = .ok (.aload_n 0, 1) := by decide +kernel
theorem d_md_same_66 : decode b_md_same 66 = .ok (.getfield 12, 3) := by decide +kernel
theorem d_md_same_69 : decode b_md_same 69 = .ok (.iload_n 2, 1) := by decide +kernel
theorem d_md_same_70 : decode b_md_same 70 = .ok (.aaload, 1) := by decide +kernel
theorem d_md_same_71 : decode b_md_same 71 = .ok (.getfield 54, 3) := by decide +kernel
theorem d_md_same_74 : decode b_md_same 74 = .ok (.iload_n 3, 1) := by decide +kernel
theorem d_md_same_75 : decode b_md_same 75 = .ok (.iaload, 1) := by decide +kernel
theorem d_md_same_76 : decode b_md_same 76 = .ok (.istore 5, 2) := by decide +kernel
theorem d_md_same_78 : decode b_md_same 78 = .ok (.aload_n 0, 1) := by decide +kernel
theorem d_md_same_79 : decode b_md_same 79 = .ok (.getfield 12, 3) := by decide +kernel
theorem d_md_same_82 : decode b_md_same 82 = .ok (.iload_n 1, 1) := by decide +kernel
theorem d_md_same_83 : decode b_md_same 83 = .ok (.aaload, 1) := by decide +kernel
theorem d_md_same_84 : decode b_md_same 84 = .ok (.getfield 60, 3) := by decide +kernel
theorem d_md_same_87 : decode b_md_same 87 = .ok (.iload 4, 2) := by decide +kernel
theorem d_md_same_89 : decode b_md_same 89 = .ok (.iaload, 1) := by decide +kernel
theorem d_md_same_90 : decode b_md_same 90 = .ok (.aload_n 0, 1) := by decide +kernel
theorem d_md_same_91 : decode b_md_same 91 = .ok (.getfield 12, 3) := by decide +kernel
theorem d_md_same_94 : decode b_md_same 94 = .ok (.iload_n 2, 1) := by decide +kernel
theorem d_md_same_95 : decode b_md_same 95 = .ok (.aaload, 1) := by decide +kernel
theorem d_md_same_96 : decode b_md_same 96 = .ok (.getfield 60, 3) := by decide +kernel
theorem d_md_same_99 : decode b_md_same 99 = .ok (.iload 5, 2) := by decide +kernel
theorem d_md_same_101 : decode b_md_same 101 = .ok (.iaload, 1) := by decide +kernel
theorem d_md_same_102 : decode b_md_same 102 = .ok (.if_icmp .ne 30, 3) := by decide +kernel
theorem d_md_same_105 : decode b_md_same 105 = .ok (.aload_n 0, 1) := by decide +kernel
theorem d_md_same_106 : decode b_md_same 106 = .ok (.getfield 12, 3) := by decide +kernel
theorem d_md_same_109 : decode b_md_same 109 = .ok (.iload_n 1, 1) := by decide +kernel
theorem d_md_same_110 : decode b_md_same 110 = .ok (.aaload, 1) := by decide +kernel
theorem d_md_same_111 : decode b_md_same 111 = .ok (.getfield 36, 3) := by decide +kernel
theorem d_md_same_114 : decode b_md_same 114 = .ok (.iload 4, 2) := by decide +kernel
theorem d_md_same_116 : decode b_md_same 116 = .ok (.iaload, 1) := by decide +kernel
theorem d_md_same_117 : decode b_md_same 117 = .ok (.aload_n 0, 1) := by decide +kernel
theorem d_md_same_118 : decode b_md_same 118 = .ok (.getfield 12, 3) := by decide +kernel
theorem d_md_same_121 : decode b_md_same 121 = .ok (.iload_n 2, 1) := by decide +kernel
theorem d_md_same_122 : decode b_md_same 122 = .ok (.aaload, 1) := by decide +kernel
theorem d_md_same_123 : decode b_md_same 123 = .ok (.getfield 36, 3) := by decide +kernel
theorem d_md_same_126 : decode b_md_same 126 = .ok (.iload 5, 2) := by decide +kernel
theorem d_md_same_128 : decode b_md_same 128 = .ok (.iaload, 1) := by decide +kernel
theorem d_md_same_129 : decode b_md_same 129 = .ok (.if_icmp .eq 5, 3) := by decide +kernel
theorem d_md_same_132 : decode b_md_same 132 = .ok (.iconst 0, 1) := by decide +kernel
theorem d_md_same_133 : decode b_md_same 133 = .ok (.ireturn, 1) := by decide +kernel
theorem d_md_same_134 : decode b_md_same 134 = .ok (.iinc 3 1, 3) := by decide +kernel
theorem d_md_same_137 : decode b_md_same 137 = .ok (.goto (-98), 3) := by decide +kernel
theorem d_md_same_140 : decode b_md_same 140 = .ok (.iconst 1, 1) := by decide +kernel
theorem d_md_same_141 : decode b_md_same 141 = .ok (.ireturn, 1) := by decide +kernel
theorem d_md_fill_0 : decode b_md_fill 0 = .ok (.iload_n 1, 1) := by decide +kernel
theorem d_md_fill_1 : decode b_md_fill 1 = .ok (.invokestatic 20, 3) := by decide +kernel
theorem d_md_fill_4 : decode b_md_fill 4 = .ok (.ifCond .eq 32, 3) := by decide +kernel
theorem d_md_fill_7 : decode b_md_fill 7 = .ok (.iload 4, 2) := by decide +kernel
theorem d_md_fill_9 : decode b_md_fill 9 = .ok (.iconst 1, 1) := by decide +kernel
theorem d_md_fill_10 : decode b_md_fill 10 = .ok (.if_icmp .lt 26, 3) := by decide +kernel
theorem d_md_fill_13 : decode b_md_fill 13 = .ok (.iload 4, 2) := by decide +kernel
theorem d_md_fill_15 : decode b_md_fill 15 = .ok (.sipush 400, 3) := by decide +kernel
theorem d_md_fill_18 : decode b_md_fill 18 = .ok (.if_icmp .gt 18, 3) := by decide +kernel
theorem d_md_fill_21 : decode b_md_fill 21 = .ok (.aload_n 0, 1) := by decide +kernel
theorem d_md_fill_22 : decode b_md_fill 22 = .ok (.getfield 12, 3) := by decide +kernel
theorem d_md_fill_25 : decode b_md_fill 25 = .ok (.iload_n 1, 1) := by decide +kernel
theorem d_md_fill_26 : decode b_md_fill 26 = .ok (.aaload, 1) := by decide +kernel
theorem d_md_fill_27 : decode b_md_fill 27 = .ok (.getfield 50, 3) := by decide +kernel
theorem d_md_fill_30 : decode b_md_fill 30 = .ok (.sipush 1000, 3) := by decide +kernel
theorem d_md_fill_33 : decode b_md_fill 33 = .ok (.if_icmp .le 5, 3) := by decide +kernel
theorem d_md_fill_36 : decode b_md_fill 36 = .ok (.iconst (-1), 1) := by decide +kernel
theorem d_md_fill_37 : decode b_md_fill 37 = .ok (.ireturn, 1) := by decide +kernel
theorem d_md_fill_38 : decode b_md_fill 38 = .ok (.iconst 0, 1) := by decide +kernel
theorem d_md_fill_39 : decode b_md_fill 39 = .ok (.istore 5, 2) := by decide +kernel
theorem d_md_fill_41 : decode b_md_fill 41 = .ok (.iload 5, 2) := by decide +kernel
theorem d_md_fill_43 : decode b_md_fill 43 = .ok (.iload 4, 2) := by decide +kernel
theorem d_md_fill_45 : decode b_md_fill 45 = .ok (.if_icmp .ge 23, 3) := by decide +kernel
theorem d_md_fill_48 : decode b_md_fill 48 = .ok (.aload_n 0, 1) := by decide +kernel
theorem d_md_fill_49 : decode b_md_fill 49 = .ok (.iload_n 1, 1) := by decide +kernel
theorem d_md_fill_50 : decode b_md_fill 50 = .ok (.iload_n 2, 1) := by decide +kernel
theorem d_md_fill_51 : decode b_md_fill 51 = .ok (.iload 5, 2) := by decide +kernel
theorem d_md_fill_53 : decode b_md_fill 53 = .ok (.iload_n 3, 1) := by decide +kernel
theorem d_md_fill_54 : decode b_md_fill 54 = .ok (.imul, 1) := by decide +kernel
theorem d_md_fill_55 : decode b_md_fill 55 = .ok (.iadd, 1) := by decide +kernel
theorem d_md_fill_56 : decode b_md_fill 56 = .ok (.iload 5, 2) := by decide +kernel
theorem d_md_fill_58 : decode b_md_fill 58 = .ok (.invokevirtual 66, 3) := by decide +kernel
theorem d_md_fill_61 : decode b_md_fill 61 = .ok (.pop2, 1) := by decide +kernel
theorem d_md_fill_62 : decode b_md_fill 62 = .ok (.iinc 5 1, 3) := by decide +kernel
theorem d_md_fill_65 : decode b_md_fill 65 = .ok (.goto (-24), 3) := by decide +kernel
theorem d_md_fill_68 : decode b_md_fill 68 = .ok (.aload_n 0, 1) := by decide +kernel
theorem d_md_fill_69 : decode b_md_fill 69 = .ok (.getfield 12, 3) := by decide +kernel
theorem d_md_fill_72 : decode b_md_fill 72 = .ok (.iload_n 1, 1) := by decide +kernel
theorem d_md_fill_73 : decode b_md_fill 73 = .ok (.aaload, 1) := by decide +kernel
theorem d_md_fill_74 : decode b_md_fill 74 = .ok (.getfield 50, 3) := by decide +kernel
theorem d_md_fill_77 : decode b_md_fill 77 = .ok (.ireturn, 1) := by decide +kernel
end
section
theorem d_lw_0 : decode code 0 = .ok (.new 7, 3) := by decide +kernel
theorem d_lw_3 : decode code 3 = .ok (.dup, 1) := by decide +kernel
theorem d_lw_4 : decode code 4 = .ok (.invokespecial 9, 3) := by decide +kernel
theorem d_lw_7 : decode code 7 = .ok (.astore_n 1, 1) := by decide +kernel
theorem d_lw_8 : decode code 8 = .ok (.new 10, 3) := by decide +kernel
theorem d_lw_11 : decode code 11 = .ok (.dup, 1) := by decide +kernel
theorem d_lw_12 : decode code 12 = .ok (.invokespecial 12, 3) := by decide +kernel
theorem d_lw_15 : decode code 15 = .ok (.astore_n 2, 1) := by decide +kernel
theorem d_lw_16 : decode code 16 = .ok (.iconst 0, 1) := by decide +kernel
theorem d_lw_17 : decode code 17 = .ok (.istore_n 3, 1) := by decide +kernel
theorem d_lw_18 : decode code 18 = .ok (.iload_n 3, 1) := by decide +kernel
theorem d_lw_19 : decode code 19 = .ok (.aload_n 0, 1) := by decide +kernel
theorem d_lw_20 : decode code 20 = .ok (.arraylength, 1) := by decide +kernel
theorem d_lw_21 : decode code 21 = .ok (.iconst 5, 1) := by decide +kernel
theorem d_lw_22 : decode code 22 = .ok (.isub, 1) := by decide +kernel
theorem d_lw_23 : decode code 23 = .ok (.if_icmp .gt 690, 3) := by decide +kernel
theorem d_lw_26 : decode code 26 = .ok (.aload_n 0, 1) := by decide +kernel
theorem d_lw_27 : decode code 27 = .ok (.iload_n 3, 1) := by decide +kernel
theorem d_lw_28 : decode code 28 = .ok (.iaload, 1) := by decide +kernel
theorem d_lw_29 : decode code 29 = .ok (.bipush 15, 2) := by decide +kernel
theorem d_lw_31 : decode code 31 = .ok (.iand, 1) := by decide +kernel
theorem d_lw_32 : decode code 32 = .ok (.tableswitch 675 0 15 #[80, 124, 168, 202, 246, 280, 323, 366, 389, 412, 445, 489, 513, 556, 589, 622], 80) := by decide +kernel
theorem d_lw_112 : decode code 112 = .ok (.aload_n 1, 1) := by decide +kernel
theorem d_lw_113 : decode code 113 = .ok (.aload_n 0, 1) := by decide +kernel
theorem d_lw_114 : decode code 114 = .ok (.iload_n 3, 1) := by decide +kernel
theorem d_lw_115 : decode code 115 = .ok (.iconst 1, 1) := by decide +kernel
theorem d_lw_116 : decode code 116 = .ok (.iadd, 1) := by decide +kernel
theorem d_lw_117 : decode code 117 = .ok (.iaload, 1) := by decide +kernel
theorem d_lw_118 : decode code 118 = .ok (.aload_n 0, 1) := by decide +kernel
theorem d_lw_119 : decode code 119 = .ok (.iload_n 3, 1) := by decide +kernel
theorem d_lw_120 : decode code 120 = .ok (.iconst 2, 1) := by decide +kernel
theorem d_lw_121 : decode code 121 = .ok (.iadd, 1) := by decide +kernel
theorem d_lw_122 : decode code 122 = .ok (.iaload, 1) := by decide +kernel
theorem d_lw_123 : decode code 123 = .ok (.aload_n 0, 1) := by decide +kernel
theorem d_lw_124 : decode code 124 = .ok (.iload_n 3, 1) := by decide +kernel
theorem d_lw_125 : decode code 125 = .ok (.iconst 3, 1) := by decide +kernel
theorem d_lw_126 : decode code 126 = .ok (.iadd, 1) := by decide +kernel
theorem d_lw_127 : decode code 127 = .ok (.iaload, 1) := by decide +kernel
theorem d_lw_128 : decode code 128 = .ok (.invokevirtual 13, 3) := by decide +kernel
theorem d_lw_131 : decode code 131 = .ok (.aload_n 2, 1) := by decide +kernel
theorem d_lw_132 : decode code 132 = .ok (.aload_n 0, 1) := by decide +kernel
theorem d_lw_133 : decode code 133 = .ok (.iload_n 3, 1) := by decide +kernel
theorem d_lw_134 : decode code 134 = .ok (.iconst 1, 1) := by decide +kernel
theorem d_lw_135 : decode code 135 = .ok (.iadd, 1) := by decide +kernel
theorem d_lw_136 : decode code 136 = .ok (.iaload, 1) := by decide +kernel
theorem d_lw_137 : decode code 137 = .ok (.aload_n 0, 1) := by decide +kernel
theorem d_lw_138 : decode code 138 = .ok (.iload_n 3, 1) := by decide +kernel
theorem d_lw_139 : decode code 139 = .ok (.iconst 2, 1) := by decide +kernel
theorem d_lw_140 : decode code 140 = .ok (.iadd, 1) := by decide +kernel
theorem d_lw_141 : decode code 141 = .ok (.iaload, 1) := by decide +kernel
theorem d_lw_142 : decode code 142 = .ok (.aload_n 0, 1) := by decide +kernel
theorem d_lw_143 : decode code 143 = .ok (.iload_n 3, 1) := by decide +kernel
theorem d_lw_144 : decode code 144 = .ok (.iconst 3, 1) := by decide +kernel
theorem d_lw_145 : decode code 145 = .ok (.iadd, 1) := by decide +kernel
theorem d_lw_146 : decode code 146 = .ok (.iaload, 1) := by decide +kernel
theorem d_lw_147 : decode code 147 = .ok (.invokevirtual 17, 3) := by decide +kernel
theorem d_lw_150 : decode code 150 = .ok (.lcmp, 1) := by decide +kernel
theorem d_lw_151 : decode code 151 = .ok (.ifCond .eq 556, 3) := by decide +kernel
theorem d_lw_154 : decode code 154 = .ok (.iconst 0, 1) := by decide +kernel
theorem d_lw_155 : decode code 155 = .ok (.ireturn, 1) := by decide +kernel
theorem d_lw_156 : decode code 156 = .ok (.aload_n 1, 1) := by decide +kernel
theorem d_lw_157 : decode code 157 = .ok (.aload_n 0, 1) := by decide +kernel
theorem d_lw_158 : decode code 158 = .ok (.iload_n 3, 1) := by decide +kernel
theorem d_lw_159 : decode code 159 = .ok (.iconst 1, 1) := by decide +kernel
theorem d_lw_160 : decode code 160 = .ok (.iadd, 1) := by decide +kernel
theorem d_lw_161 : decode code 161 = .ok (.iaload, 1) := by decide +kernel
theorem d_lw_162 : decode code 162 = .ok (.aload_n 0, 1) := by decide +kernel
theorem d_lw_163 : decode code 163 = .ok (.iload_n 3, 1) := by decide +kernel
theorem d_lw_164 : decode code 164 = .ok (.iconst 2, 1) := by decide +kernel
theorem d_lw_165 : decode code 165 = .ok (.iadd, 1) := by decide +kernel
theorem d_lw_166 : decode code 166 = .ok (.iaload, 1) := by decide +kernel
theorem d_lw_167 : decode code 167 = .ok (.aload_n 0, 1) := by decide +kernel
theorem d_lw_168 : decode code 168 = .ok (.iload_n 3, 1) := by decide +kernel
theorem d_lw_169 : decode code 169 = .ok (.iconst 3, 1) := by decide +kernel
theorem d_lw_170 : decode code 170 = .ok (.iadd, 1) := by decide +kernel
theorem d_lw_171 : decode code 171 = .ok (.iaload, 1) := by decide +kernel
theorem d_lw_172 : decode code 172 = .ok (.invokevirtual 18, 3) := by decide +kernel
theorem d_lw_175 : decode code 175 = .ok (.aload_n 2, 1) := by decide +kernel
theorem d_lw_176 : decode code 176 = .ok (.aload_n 0, 1) := by decide +kernel
theorem d_lw_177 : decode code 177 = .ok (.iload_n 3, 1) := by decide +kernel
theorem d_lw_178 : decode code 178 = .ok (.iconst 1, 1) := by decide +kernel
theorem d_lw_179 : decode code 179 = .ok (.iadd, 1) := by decide +kernel
theorem d_lw_180 : decode code 180 = .ok (.iaload, 1) := by decide +kernel
theorem d_lw_181 : decode code 181 = .ok (.aload_n 0, 1) := by decide +kernel
theorem d_lw_182 : decode code 182 = .ok (.iload_n 3, 1) := by decide +kernel
theorem d_lw_183 : decode code 183 = .ok (.iconst 2, 1) := by decide +kernel
theorem d_lw_184 : decode code 184 = .ok (.iadd, 1) := by decide +kernel
theorem d_lw_185 : decode code 185 = .ok (.iaload, 1) := by decide +kernel
theorem d_lw_186 : decode code 186 = .ok (.aload_n 0, 1) := by decide +kernel
theorem d_lw_187 : decode code 187 = .ok (.iload_n 3, 1) := by decide +kernel
theorem d_lw_188 : decode code 188 = .ok (.iconst 3, 1) := by decide +kernel
theorem d_lw_189 : decode code 189 = .ok (.iadd, 1) := by decide +kernel
theorem d_lw_190 : decode code 190 = .ok (.iaload, 1) := by decide +kernel
theorem d_lw_191 : decode code 191 = .ok (.invokevirtual 21, 3) := by decide +kernel
theorem d_lw_194 : decode code 194 = .ok (.lcmp, 1) := by decide +kernel
theorem d_lw_195 : decode code 195 = .ok (.ifCond .eq 512, 3) := by decide +kernel
theorem d_lw_198 : decode code 198 = .ok (.iconst 0, 1) := by decide +kernel
theorem d_lw_199 : decode code 199 = .ok (.ireturn, 1) := by decide +kernel
theorem d_lw_200 : decode code 200 = .ok (.aload_n 1, 1) := by decide +kernel
theorem d_lw_201 : decode code 201 = .ok (.aload_n 0, 1) := by decide +kernel
theorem d_lw_202 : decode code 202 = .ok (.iload_n 3, 1) := by decide +kernel
theorem d_lw_203 : decode code 203 = .ok (.iconst 1, 1) := by decide +kernel
theorem d_lw_204 : decode code 204 = .ok (.iadd, 1) := by decide +kernel
theorem d_lw_205 : decode code 205 = .ok (.iaload, 1) := by decide +kernel
theorem d_lw_206 : decode code 206 = .ok (.aload_n 0, 1) := by decide +kernel
theorem d_lw_207 : decode code 207 = .ok (.iload_n 3, 1) := by decide +kernel
theorem d_lw_208 : decode code 208 = .ok (.iconst 2, 1) := by decide +kernel
theorem d_lw_209 : decode code 209 = .ok (.iadd, 1) := by decide +kernel
theorem d_lw_210 : decode code 210 = .ok (.iaload, 1) := by decide +kernel
theorem d_lw_211 : decode code 211 = .ok (.invokevirtual 22, 3) := by decide +kernel
theorem d_lw_214 : decode code 214 = .ok (.aload_n 2, 1) := by decide +kernel
theorem d_lw_215 : decode code 215 = .ok (.aload_n 0, 1) := by decide +kernel
theorem d_lw_216 : decode code 216 = .ok (.iload_n 3, 1) := by decide +kernel
theorem d_lw_217 : decode code 217 = .ok (.iconst 1, 1) := by decide +kernel
theorem d_lw_218 : decode code 218 = .ok (.iadd, 1) := by decide +kernel
theorem d_lw_219 : decode code 219 = .ok (.iaload, 1) := by decide +kernel
theorem d_lw_220 : decode code 220 = .ok (.aload_n 0, 1) := by decide +kernel
theorem d_lw_221 : decode code 221 = .ok (.iload_n 3, 1) := by decide +kernel
theorem d_lw_222 : decode code 222 = .ok (.iconst 2, 1) := by decide +kernel
theorem d_lw_223 : decode code 223 = .ok (.iadd, 1) := by decide +kernel
theorem d_lw_224 : decode code 224 = .ok (.iaload, 1) := by decide +kernel
theorem d_lw_225 : decode code 225 = .ok (.invokevirtual 26, 3) := by decide +kernel
theorem d_lw_228 : decode code 228 = .ok (.lcmp, 1) := by decide +kernel
theorem d_lw_229 : decode code 229 = .ok (.ifCond .eq 478, 3) := by decide +kernel
theorem d_lw_232 : decode code 232 = .ok (.iconst 0, 1) := by decide +kernel
theorem d_lw_233 : decode code 233 = .ok (.ireturn, 1) := by decide +kernel
theorem d_lw_234 : decode code 234 = .ok (.aload_n 1, 1) := by decide +kernel
theorem d_lw_235 : decode code 235 = .ok (.aload_n 0, 1) := by decide +kernel
theorem d_lw_236 : decode code 236 = .ok (.iload_n 3, 1) := by decide +kernel
theorem d_lw_237 : decode code 237 = .ok (.iconst 1, 1) := by decide +kernel
theorem d_lw_238 : decode code 238 = .ok (.iadd, 1) := by decide +kernel
theorem d_lw_239 : decode code 239 = .ok (.iaload, 1) := by decide +kernel
theorem d_lw_240 : decode code 240 = .ok (.aload_n 0, 1) := by decide +kernel
theorem d_lw_241 : decode code 241 = .ok (.iload_n 3, 1) := by decide +kernel
theorem d_lw_242 : decode code 242 = .ok (.iconst 2, 1) := by decide +kernel
theorem d_lw_243 : decode code 243 = .ok (.iadd, 1) := by decide +kernel
theorem d_lw_244 : decode code 244 = .ok (.iaload, 1) := by decide +kernel
theorem d_lw_245 : decode code 245 = .ok (.aload_n 0, 1) := by decide +kernel
theorem d_lw_246 : decode code 246 = .ok (.iload_n 3, 1) := by decide +kernel
theorem d_lw_247 : decode code 247 = .ok (.iconst 3, 1) := by decide +kernel
theorem d_lw_248 : decode code 248 = .ok (.iadd, 1) := by decide +kernel
theorem d_lw_249 : decode code 249 = .ok (.iaload, 1) := by decide +kernel
theorem d_lw_250 : decode code 250 = .ok (.invokevirtual 27, 3) := by decide +kernel
theorem d_lw_253 : decode code 253 = .ok (.aload_n 2, 1) := by decide +kernel
theorem d_lw_254 : decode code 254 = .ok (.aload_n 0, 1) := by decide +kernel
theorem d_lw_255 : decode code 255 = .ok (.iload_n 3, 1) := by decide +kernel
theorem d_lw_256 : decode code 256 = .ok (.iconst 1, 1) := by decide +kernel
theorem d_lw_257 : decode code 257 = .ok (.iadd, 1) := by decide +kernel
theorem d_lw_258 : decode code 258 = .ok (.iaload, 1) := by decide +kernel
theorem d_lw_259 : decode code 259 = .ok (.aload_n 0, 1) := by decide +kernel
theorem d_lw_260 : decode code 260 = .ok (.iload_n 3, 1) := by decide +kernel
theorem d_lw_261 : decode code 261 = .ok (.iconst 2, 1) := by decide +kernel
theorem d_lw_262 : decode code 262 = .ok (.iadd, 1) := by decide +kernel
theorem d_lw_263 : decode code 263 = .ok (.iaload, 1) := by decide +kernel
theorem d_lw_264 : decode code 264 = .ok (.aload_n 0, 1) := by decide +kernel
theorem d_lw_265 : decode code 265 = .ok (.iload_n 3, 1) := by decide +kernel
theorem d_lw_266 : decode code 266 = .ok (.iconst 3, 1) := by decide +kernel
theorem d_lw_267 : decode code 267 = .ok (.iadd, 1) := by decide +kernel
theorem d_lw_268 : decode code 268 = .ok (.iaload, 1) := by decide +kernel
theorem d_lw_269 : decode code 269 = .ok (.invokevirtual 30, 3) := by decide +kernel
theorem d_lw_272 : decode code 272 = .ok (.lcmp, 1) := by decide +kernel
theorem d_lw_273 : decode code 273 = .ok (.ifCond .eq 434, 3) := by decide +kernel
theorem d_lw_276 : decode code 276 = .ok (.iconst 0, 1) := by decide +kernel
theorem d_lw_277 : decode code 277 = .ok (.ireturn, 1) := by decide +kernel
theorem d_lw_278 : decode code 278 = .ok (.aload_n 1, 1) := by decide +kernel
theorem d_lw_279 : decode code 279 = .ok (.aload_n 0, 1) := by decide +kernel
theorem d_lw_280 : decode code 280 = .ok (.iload_n 3, 1) := by decide +kernel
theorem d_lw_281 : decode code 281 = .ok (.iconst 1, 1) := by decide +kernel
theorem d_lw_282 : decode code 282 = .ok (.iadd, 1) := by decide +kernel
theorem d_lw_283 : decode code 283 = .ok (.iaload, 1) := by decide +kernel
theorem d_lw_284 : decode code 284 = .ok (.aload_n 0, 1) := by decide +kernel
theorem d_lw_285 : decode code 285 = .ok (.iload_n 3, 1) := by decide +kernel
theorem d_lw_286 : decode code 286 = .ok (.iconst 2, 1) := by decide +kernel
theorem d_lw_287 : decode code 287 = .ok (.iadd, 1) := by decide +kernel
theorem d_lw_288 : decode code 288 = .ok (.iaload, 1) := by decide +kernel
theorem d_lw_289 : decode code 289 = .ok (.invokevirtual 31, 3) := by decide +kernel
theorem d_lw_292 : decode code 292 = .ok (.aload_n 2, 1) := by decide +kernel
theorem d_lw_293 : decode code 293 = .ok (.aload_n 0, 1) := by decide +kernel
theorem d_lw_294 : decode code 294 = .ok (.iload_n 3, 1) := by decide +kernel
theorem d_lw_295 : decode code 295 = .ok (.iconst 1, 1) := by decide +kernel
theorem d_lw_296 : decode code 296 = .ok (.iadd, 1) := by decide +kernel
theorem d_lw_297 : decode code 297 = .ok (.iaload, 1) := by decide +kernel
theorem d_lw_298 : decode code 298 = .ok (.aload_n 0, 1) := by decide +kernel
theorem d_lw_299 : decode code 299 = .ok (.iload_n 3, 1) := by decide +kernel
theorem d_lw_300 : decode code 300 = .ok (.iconst 2, 1) := by decide +kernel
theorem d_lw_301 : decode code 301 = .ok (.iadd, 1) := by decide +kernel
theorem d_lw_302 : decode code 302 = .ok (.iaload, 1) := by decide +kernel
theorem d_lw_303 : decode code 303 = .ok (.invokevirtual 34, 3) := by decide +kernel
theorem d_lw_306 : decode code 306 = .ok (.lcmp, 1) := by decide +kernel
theorem d_lw_307 : decode code 307 = .ok (.ifCond .eq 400, 3) := by decide +kernel
theorem d_lw_310 : decode code 310 = .ok (.iconst 0, 1) := by decide +kernel
theorem d_lw_311 : decode code 311 = .ok (.ireturn, 1) := by decide +kernel
theorem d_lw_312 : decode code 312 = .ok (.aload_n 1, 1) := by decide +kernel
theorem d_lw_313 : decode code 313 = .ok (.aload_n 0, 1) := by decide +kernel
theorem d_lw_314 : decode code 314 = .ok (.iload_n 3, 1) := by decide +kernel
theorem d_lw_315 : decode code 315 = .ok (.iconst 1, 1) := by decide +kernel
theorem d_lw_316 : decode code 316 = .ok (.iadd, 1) := by decide +kernel
theorem d_lw_317 : decode code 317 = .ok (.iaload, 1) := by decide +kernel
theorem d_lw_318 : decode code 318 = .ok (.aload_n 0, 1) := by decide +kernel
theorem d_lw_319 : decode code 319 = .ok (.iload_n 3, 1) := by decide +kernel
theorem d_lw_320 : decode code 320 = .ok (.iconst 2, 1) := by decide +kernel
theorem d_lw_321 : decode code 321 = .ok (.iadd, 1) := by decide +kernel
theorem d_lw_322 : decode code 322 = .ok (.iaload, 1) := by decide +kernel
theorem d_lw_323 : decode code 323 = .ok (.aload_n 0, 1) := by decide +kernel
theorem d_lw_324 : decode code 324 = .ok (.iload_n 3, 1) := by decide +kernel
theorem d_lw_325 : decode code 325 = .ok (.iconst 3, 1) := by decide +kernel
theorem d_lw_326 : decode code 326 = .ok (.iadd, 1) := by decide +kernel
theorem d_lw_327 : decode code 327 = .ok (.iaload, 1) := by decide +kernel
theorem d_lw_328 : decode code 328 = .ok (.invokevirtual 35, 3) := by decide +kernel
theorem d_lw_331 : decode code 331 = .ok (.aload_n 2, 1) := by decide +kernel
theorem d_lw_332 : decode code 332 = .ok (.aload_n 0, 1) := by decide +kernel
theorem d_lw_333 : decode code 333 = .ok (.iload_n 3, 1) := by decide +kernel
theorem d_lw_334 : decode code 334 = .ok (.iconst 1, 1) := by decide +kernel
theorem d_lw_335 : decode code 335 = .ok (.iadd, 1) := by decide +kernel
theorem d_lw_336 : decode code 336 = .ok (.iaload, 1) := by decide +kernel
theorem d_lw_337 : decode code 337 = .ok (.aload_n 0, 1) := by decide +kernel
theorem d_lw_338 : decode code 338 = .ok (.iload_n 3, 1) := by decide +kernel
theorem d_lw_339 : decode code 339 = .ok (.iconst 2, 1) := by decide +kernel
theorem d_lw_340 : decode code 340 = .ok (.iadd, 1) := by decide +kernel
theorem d_lw_341 : decode code 341 = .ok (.iaload, 1) := by decide +kernel
theorem d_lw_342 : decode code 342 = .ok (.aload_n 0, 1) := by decide +kernel
theorem d_lw_343 : decode code 343 = .ok (.iload_n 3, 1) := by decide +kernel
theorem d_lw_344 : decode code 344 = .ok (.iconst 3, 1) := by decide +kernel
theorem d_lw_345 : decode code 345 = .ok (.iadd, 1) := by decide +kernel
theorem d_lw_346 : decode code 346 = .ok (.iaload, 1) := by decide +kernel
theorem d_lw_347 : decode code 347 = .ok (.invokevirtual 39, 3) := by decide +kernel
theorem d_lw_350 : decode code 350 = .ok (.if_icmp .eq 357, 3) := by decide +kernel
theorem d_lw_353 : decode code 353 = .ok (.iconst 0, 1) := by decide +kernel
theorem d_lw_354 : decode code 354 = .ok (.ireturn, 1) := by decide +kernel
theorem d_lw_355 : decode code 355 = .ok (.aload_n 1, 1) := by decide +kernel
theorem d_lw_356 : decode code 356 = .ok (.aload_n 0, 1) := by decide +kernel
theorem d_lw_357 : decode code 357 = .ok (.iload_n 3, 1) := by decide +kernel
theorem d_lw_358 : decode code 358 = .ok (.iconst 1, 1) := by decide +kernel
theorem d_lw_359 : decode code 359 = .ok (.iadd, 1) := by decide +kernel
theorem d_lw_360 : decode code 360 = .ok (.iaload, 1) := by decide +kernel
theorem d_lw_361 : decode code 361 = .ok (.aload_n 0, 1) := by decide +kernel
theorem d_lw_362 : decode code 362 = .ok (.iload_n 3, 1) := by decide +kernel
theorem d_lw_363 : decode code 363 = .ok (.iconst 2, 1) := by decide +kernel
theorem d_lw_364 : decode code 364 = .ok (.iadd, 1) := by decide +kernel
theorem d_lw_365 : decode code 365 = .ok (.iaload, 1) := by decide +kernel
theorem d_lw_366 : decode code 366 = .ok (.aload_n 0, 1) := by decide +kernel
theorem d_lw_367 : decode code 367 = .ok (.iload_n 3, 1) := by decide +kernel
theorem d_lw_368 : decode code 368 = .ok (.iconst 3, 1) := by decide +kernel
theorem d_lw_369 : decode code 369 = .ok (.iadd, 1) := by decide +kernel
theorem d_lw_370 : decode code 370 = .ok (.iaload, 1) := by decide +kernel
theorem d_lw_371 : decode code 371 = .ok (.invokevirtual 40, 3) := by decide +kernel
theorem d_lw_374 : decode code 374 = .ok (.aload_n 2, 1) := by decide +kernel
theorem d_lw_375 : decode code 375 = .ok (.aload_n 0, 1) := by decide +kernel
theorem d_lw_376 : decode code 376 = .ok (.iload_n 3, 1) := by decide +kernel
theorem d_lw_377 : decode code 377 = .ok (.iconst 1, 1) := by decide +kernel
theorem d_lw_378 : decode code 378 = .ok (.iadd, 1) := by decide +kernel
theorem d_lw_379 : decode code 379 = .ok (.iaload, 1) := by decide +kernel
theorem d_lw_380 : decode code 380 = .ok (.aload_n 0, 1) := by decide +kernel
theorem d_lw_381 : decode code 381 = .ok (.iload_n 3, 1) := by decide +kernel
theorem d_lw_382 : decode code 382 = .ok (.iconst 2, 1) := by decide +kernel
theorem d_lw_383 : decode code 383 = .ok (.iadd, 1) := by decide +kernel
theorem d_lw_384 : decode code 384 = .ok (.iaload, 1) := by decide +kernel
theorem d_lw_385 : decode code 385 = .ok (.aload_n 0, 1) := by decide +kernel
theorem d_lw_386 : decode code 386 = .ok (.iload_n 3, 1) := by decide +kernel
theorem d_lw_387 : decode code 387 = .ok (.iconst 3, 1) := by decide +kernel
theorem d_lw_388 : decode code 388 = .ok (.iadd, 1) := by decide +kernel
theorem d_lw_389 : decode code 389 = .ok (.iaload, 1) := by decide +kernel
theorem d_lw_390 : decode code 390 = .ok (.invokevirtual 43, 3) := by decide +kernel
theorem d_lw_393 : decode code 393 = .ok (.if_icmp .eq 314, 3) := by decide +kernel
theorem d_lw_396 : decode code 396 = .ok (.iconst 0, 1) := by decide +kernel
theorem d_lw_397 : decode code 397 = .ok (.ireturn, 1) := by decide +kernel
theorem d_lw_398 : decode code 398 = .ok (.aload_n 1, 1) := by decide +kernel
theorem d_lw_399 : decode code 399 = .ok (.aload_n 0, 1) := by decide +kernel
theorem d_lw_400 : decode code 400 = .ok (.iload_n 3, 1) := by decide +kernel
theorem d_lw_401 : decode code 401 = .ok (.iconst 1, 1) := by decide +kernel
theorem d_lw_402 : decode code 402 = .ok (.iadd, 1) := by decide +kernel
theorem d_lw_403 : decode code 403 = .ok (.iaload, 1) := by decide +kernel
theorem d_lw_404 : decode code 404 = .ok (.invokevirtual 44, 3) := by decide +kernel
theorem d_lw_407 : decode code 407 = .ok (.aload_n 2, 1) := by decide +kernel
theorem d_lw_408 : decode code 408 = .ok (.aload_n 0, 1) := by decide +kernel
theorem d_lw_409 : decode code 409 = .ok (.iload_n 3, 1) := by decide +kernel
theorem d_lw_410 : decode code 410 = .ok (.iconst 1, 1) := by decide +kernel
theorem d_lw_411 : decode code 411 = .ok (.iadd, 1) := by decide +kernel
theorem d_lw_412 : decode code 412 = .ok (.iaload, 1) := by decide +kernel
theorem d_lw_413 : decode code 413 = .ok (.invokevirtual 48, 3) := by decide +kernel
theorem d_lw_416 : decode code 416 = .ok (.if_icmp .eq 291, 3) := by decide +kernel
theorem d_lw_419 : decode code 419 = .ok (.iconst 0, 1) := by decide +kernel
theorem d_lw_420 : decode code 420 = .ok (.ireturn, 1) := by decide +kernel
theorem d_lw_421 : decode code 421 = .ok (.aload_n 1, 1) := by decide +kernel
theorem d_lw_422 : decode code 422 = .ok (.aload_n 0, 1) := by decide +kernel
theorem d_lw_423 : decode code 423 = .ok (.iload_n 3, 1) := by decide +kernel
theorem d_lw_424 : decode code 424 = .ok (.iconst 1, 1) := by decide +kernel
theorem d_lw_425 : decode code 425 = .ok (.iadd, 1) := by decide +kernel
theorem d_lw_426 : decode code 426 = .ok (.iaload, 1) := by decide +kernel
theorem d_lw_427 : decode code 427 = .ok (.invokevirtual 49, 3) := by decide +kernel
theorem d_lw_430 : decode code 430 = .ok (.aload_n 2, 1) := by decide +kernel
theorem d_lw_431 : decode code 431 = .ok (.aload_n 0, 1) := by decide +kernel
theorem d_lw_432 : decode code 432 = .ok (.iload_n 3, 1) := by decide +kernel
theorem d_lw_433 : decode code 433 = .ok (.iconst 1, 1) := by decide +kernel
theorem d_lw_434 : decode code 434 = .ok (.iadd, 1) := by decide +kernel
theorem d_lw_435 : decode code 435 = .ok (.iaload, 1) := by decide +kernel
theorem d_lw_436 : decode code 436 = .ok (.invokevirtual 52, 3) := by decide +kernel
theorem d_lw_439 : decode code 439 = .ok (.if_icmp .eq 268, 3) := by decide +kernel
theorem d_lw_442 : decode code 442 = .ok (.iconst 0, 1) := by decide +kernel
theorem d_lw_443 : decode code 443 = .ok (.ireturn, 1) := by decide +kernel
theorem d_lw_444 : decode code 444 = .ok (.aload_n 1, 1) := by decide +kernel
theorem d_lw_445 : decode code 445 = .ok (.aload_n 0, 1) := by decide +kernel
theorem d_lw_446 : decode code 446 = .ok (.iload_n 3, 1) := by decide +kernel
theorem d_lw_447 : decode code 447 = .ok (.iconst 1, 1) := by decide +kernel
theorem d_lw_448 : decode code 448 = .ok (.iadd, 1) := by decide +kernel
theorem d_lw_449 : decode code 449 = .ok (.iaload, 1) := by decide +kernel
theorem d_lw_450 : decode code 450 = .ok (.aload_n 0, 1) := by decide +kernel
theorem d_lw_451 : decode code 451 = .ok (.iload_n 3, 1) := by decide +kernel
theorem d_lw_452 : decode code 452 = .ok (.iconst 2, 1) := by decide +kernel
theorem d_lw_453 : decode code 453 = .ok (.iadd, 1) := by decide +kernel
theorem d_lw_454 : decode code 454 = .ok (.iaload, 1) := by decide +kernel
theorem d_lw_455 : decode code 455 = .ok (.invokevirtual 53, 3) := by decide +kernel
theorem d_lw_458 : decode code 458 = .ok (.aload_n 2, 1) := by decide +kernel
theorem d_lw_459 : decode code 459 = .ok (.aload_n 0, 1) := by decide +kernel
theorem d_lw_460 : decode code 460 = .ok (.iload_n 3, 1) := by decide +kernel
theorem d_lw_461 : decode code 461 = .ok (.iconst 1, 1) := by decide +kernel
theorem d_lw_462 : decode code 462 = .ok (.iadd, 1) := by decide +kernel
theorem d_lw_463 : decode code 463 = .ok (.iaload, 1) := by decide +kernel
theorem d_lw_464 : decode code 464 = .ok (.aload_n 0, 1) := by decide +kernel
theorem d_lw_465 : decode code 465 = .ok (.iload_n 3, 1) := by decide +kernel
theorem d_lw_466 : decode code 466 = .ok (.iconst 2, 1) := by decide +kernel
theorem d_lw_467 : decode code 467 = .ok (.iadd, 1) := by decide +kernel
theorem d_lw_468 : decode code 468 = .ok (.iaload, 1) := by decide +kernel
theorem d_lw_469 : decode code 469 = .ok (.invokevirtual 57, 3) := by decide +kernel
theorem d_lw_472 : decode code 472 = .ok (.if_icmp .eq 235, 3) := by decide +kernel
theorem d_lw_475 : decode code 475 = .ok (.iconst 0, 1) := by decide +kernel
theorem d_lw_476 : decode code 476 = .ok (.ireturn, 1) := by decide +kernel
theorem d_lw_477 : decode code 477 = .ok (.aload_n 1, 1) := by decide +kernel
theorem d_lw_478 : decode code 478 = .ok (.aload_n 0, 1) := by decide +kernel
theorem d_lw_479 : decode code 479 = .ok (.iload_n 3, 1) := by decide +kernel
theorem d_lw_480 : decode code 480 = .ok (.iconst 1, 1) := by decide +kernel
theorem d_lw_481 : decode code 481 = .ok (.iadd, 1) := by decide +kernel
theorem d_lw_482 : decode code 482 = .ok (.iaload, 1) := by decide +kernel
theorem d_lw_483 : decode code 483 = .ok (.aload_n 0, 1) := by decide +kernel
theorem d_lw_484 : decode code 484 = .ok (.iload_n 3, 1) := by decide +kernel
theorem d_lw_485 : decode code 485 = .ok (.iconst 2, 1) := by decide +kernel
theorem d_lw_486 : decode code 486 = .ok (.iadd, 1) := by decide +kernel
theorem d_lw_487 : decode code 487 = .ok (.iaload, 1) := by decide +kernel
theorem d_lw_488 : decode code 488 = .ok (.aload_n 0, 1) := by decide +kernel
theorem d_lw_489 : decode code 489 = .ok (.iload_n 3, 1) := by decide +kernel
theorem d_lw_490 : decode code 490 = .ok (.iconst 3, 1) := by decide +kernel
theorem d_lw_491 : decode code 491 = .ok (.iadd, 1) := by decide +kernel
theorem d_lw_492 : decode code 492 = .ok (.iaload, 1) := by decide +kernel
theorem d_lw_493 : decode code 493 = .ok (.invokevirtual 58, 3) := by decide +kernel
theorem d_lw_496 : decode code 496 = .ok (.aload_n 2, 1) := by decide +kernel
theorem d_lw_497 : decode code 497 = .ok (.aload_n 0, 1) := by decide +kernel
theorem d_lw_498 : decode code 498 = .ok (.iload_n 3, 1) := by decide +kernel
theorem d_lw_499 : decode code 499 = .ok (.iconst 1, 1) := by decide +kernel
theorem d_lw_500 : decode code 500 = .ok (.iadd, 1) := by decide +kernel
theorem d_lw_501 : decode code 501 = .ok (.iaload, 1) := by decide +kernel
theorem d_lw_502 : decode code 502 = .ok (.aload_n 0, 1) := by decide +kernel
theorem d_lw_503 : decode code 503 = .ok (.iload_n 3, 1) := by decide +kernel
theorem d_lw_504 : decode code 504 = .ok (.iconst 2, 1) := by decide +kernel
theorem d_lw_505 : decode code 505 = .ok (.iadd, 1) := by decide +kernel
theorem d_lw_506 : decode code 506 = .ok (.iaload, 1) := by decide +kernel
theorem d_lw_507 : decode code 507 = .ok (.aload_n 0, 1) := by decide +kernel
theorem d_lw_508 : decode code 508 = .ok (.iload_n 3, 1) := by decide +kernel
theorem d_lw_509 : decode code 509 = .ok (.iconst 3, 1) := by decide +kernel
theorem d_lw_510 : decode code 510 = .ok (.iadd, 1) := by decide +kernel
theorem d_lw_511 : decode code 511 = .ok (.iaload, 1) := by decide +kernel
theorem d_lw_512 : decode code 512 = .ok (.invokevirtual 61, 3) := by decide +kernel
theorem d_lw_515 : decode code 515 = .ok (.lcmp, 1) := by decide +kernel
theorem d_lw_516 : decode code 516 = .ok (.ifCond .eq 191, 3) := by decide +kernel
theorem d_lw_519 : decode code 519 = .ok (.iconst 0, 1) := by decide +kernel
theorem d_lw_520 : decode code 520 = .ok (.ireturn, 1) := by decide +kernel
theorem d_lw_521 : decode code 521 = .ok (.aload_n 1, 1) := by decide +kernel
theorem d_lw_522 : decode code 522 = .ok (.aload_n 0, 1) := by decide +kernel
theorem d_lw_523 : decode code 523 = .ok (.iload_n 3, 1) := by decide +kernel
theorem d_lw_524 : decode code 524 = .ok (.iconst 1, 1) := by decide +kernel
theorem d_lw_525 : decode code 525 = .ok (.iadd, 1) := by decide +kernel
theorem d_lw_526 : decode code 526 = .ok (.iaload, 1) := by decide +kernel
theorem d_lw_527 : decode code 527 = .ok (.invokevirtual 62, 3) := by decide +kernel
theorem d_lw_530 : decode code 530 = .ok (.aload_n 2, 1) := by decide +kernel
theorem d_lw_531 : decode code 531 = .ok (.aload_n 0, 1) := by decide +kernel
theorem d_lw_532 : decode code 532 = .ok (.iload_n 3, 1) := by decide +kernel
theorem d_lw_533 : decode code 533 = .ok (.iconst 1, 1) := by decide +kernel
theorem d_lw_534 : decode code 534 = .ok (.iadd, 1) := by decide +kernel
theorem d_lw_535 : decode code 535 = .ok (.iaload, 1) := by decide +kernel
theorem d_lw_536 : decode code 536 = .ok (.invokevirtual 66, 3) := by decide +kernel
theorem d_lw_539 : decode code 539 = .ok (.lcmp, 1) := by decide +kernel
theorem d_lw_540 : decode code 540 = .ok (.ifCond .eq 167, 3) := by decide +kernel
theorem d_lw_543 : decode code 543 = .ok (.iconst 0, 1) := by decide +kernel
theorem d_lw_544 : decode code 544 = .ok (.ireturn, 1) := by decide +kernel
theorem d_lw_545 : decode code 545 = .ok (.aload_n 1, 1) := by decide +kernel
theorem d_lw_546 : decode code 546 = .ok (.aload_n 0, 1) := by decide +kernel
theorem d_lw_547 : decode code 547 = .ok (.iload_n 3, 1) := by decide +kernel
theorem d_lw_548 : decode code 548 = .ok (.iconst 1, 1) := by decide +kernel
theorem d_lw_549 : decode code 549 = .ok (.iadd, 1) := by decide +kernel
theorem d_lw_550 : decode code 550 = .ok (.iaload, 1) := by decide +kernel
theorem d_lw_551 : decode code 551 = .ok (.aload_n 0, 1) := by decide +kernel
theorem d_lw_552 : decode code 552 = .ok (.iload_n 3, 1) := by decide +kernel
theorem d_lw_553 : decode code 553 = .ok (.iconst 2, 1) := by decide +kernel
theorem d_lw_554 : decode code 554 = .ok (.iadd, 1) := by decide +kernel
theorem d_lw_555 : decode code 555 = .ok (.iaload, 1) := by decide +kernel
theorem d_lw_556 : decode code 556 = .ok (.aload_n 0, 1) := by decide +kernel
theorem d_lw_557 : decode code 557 = .ok (.iload_n 3, 1) := by decide +kernel
theorem d_lw_558 : decode code 558 = .ok (.iconst 3, 1) := by decide +kernel
theorem d_lw_559 : decode code 559 = .ok (.iadd, 1) := by decide +kernel
theorem d_lw_560 : decode code 560 = .ok (.iaload, 1) := by decide +kernel
theorem d_lw_561 : decode code 561 = .ok (.invokevirtual 67, 3) := by decide +kernel
theorem d_lw_564 : decode code 564 = .ok (.aload_n 2, 1) := by decide +kernel
theorem d_lw_565 : decode code 565 = .ok (.aload_n 0, 1) := by decide +kernel
theorem d_lw_566 : decode code 566 = .ok (.iload_n 3, 1) := by decide +kernel
theorem d_lw_567 : decode code 567 = .ok (.iconst 1, 1) := by decide +kernel
theorem d_lw_568 : decode code 568 = .ok (.iadd, 1) := by decide +kernel
theorem d_lw_569 : decode code 569 = .ok (.iaload, 1) := by decide +kernel
theorem d_lw_570 : decode code 570 = .ok (.aload_n 0, 1) := by decide +kernel
theorem d_lw_571 : decode code 571 = .ok (.iload_n 3, 1) := by decide +kernel
theorem d_lw_572 : decode code 572 = .ok (.iconst 2, 1) := by decide +kernel
theorem d_lw_573 : decode code 573 = .ok (.iadd, 1) := by decide +kernel
theorem d_lw_574 : decode code 574 = .ok (.iaload, 1) := by decide +kernel
theorem d_lw_575 : decode code 575 = .ok (.aload_n 0, 1) := by decide +kernel
theorem d_lw_576 : decode code 576 = .ok (.iload_n 3, 1) := by decide +kernel
theorem d_lw_577 : decode code 577 = .ok (.iconst 3, 1) := by decide +kernel
theorem d_lw_578 : decode code 578 = .ok (.iadd, 1) := by decide +kernel
theorem d_lw_579 : decode code 579 = .ok (.iaload, 1) := by decide +kernel
theorem d_lw_580 : decode code 580 = .ok (.invokevirtual 71, 3) := by decide +kernel
theorem d_lw_583 : decode code 583 = .ok (.if_icmp .eq 124, 3) := by decide +kernel
theorem d_lw_586 : decode code 586 = .ok (.iconst 0, 1) := by decide +kernel
theorem d_lw_587 : decode code 587 = .ok (.ireturn, 1) := by decide +kernel
theorem d_lw_588 : decode code 588 = .ok (.aload_n 1, 1) := by decide +kernel
theorem d_lw_589 : decode code 589 = .ok (.aload_n 0, 1) := by decide +kernel
theorem d_lw_590 : decode code 590 = .ok (.iload_n 3, 1) := by decide +kernel
theorem d_lw_591 : decode code 591 = .ok (.iconst 1, 1) := by decide +kernel
theorem d_lw_592 : decode code 592 = .ok (.iadd, 1) := by decide +kernel
theorem d_lw_593 : decode code 593 = .ok (.iaload, 1) := by decide +kernel
theorem d_lw_594 : decode code 594 = .ok (.aload_n 0, 1) := by decide +kernel
theorem d_lw_595 : decode code 595 = .ok (.iload_n 3, 1) := by decide +kernel
theorem d_lw_596 : decode code 596 = .ok (.iconst 2, 1) := by decide +kernel
theorem d_lw_597 : decode code 597 = .ok (.iadd, 1) := by decide +kernel
theorem d_lw_598 : decode code 598 = .ok (.iaload, 1) := by decide +kernel
theorem d_lw_599 : decode code 599 = .ok (.invokevirtual 72, 3) := by decide +kernel
theorem d_lw_602 : decode code 602 = .ok (.aload_n 2, 1) := by decide +kernel
theorem d_lw_603 : decode code 603 = .ok (.aload_n 0, 1) := by decide +kernel
theorem d_lw_604 : decode code 604 = .ok (.iload_n 3, 1) := by decide +kernel
theorem d_lw_605 : decode code 605 = .ok (.iconst 1, 1) := by decide +kernel
theorem d_lw_606 : decode code 606 = .ok (.iadd, 1) := by decide +kernel
theorem d_lw_607 : decode code 607 = .ok (.iaload, 1) := by decide +kernel
theorem d_lw_608 : decode code 608 = .ok (.aload_n 0, 1) := by decide +kernel
theorem d_lw_609 : decode code 609 = .ok (.iload_n 3, 1) := by decide +kernel
theorem d_lw_610 : decode code 610 = .ok (.iconst 2, 1) := by decide +kernel
theorem d_lw_611 : decode code 611 = .ok (.iadd, 1) := by decide +kernel
theorem d_lw_612 : decode code 612 = .ok (.iaload, 1) := by decide +kernel
theorem d_lw_613 : decode code 613 = .ok (.invokevirtual 75, 3) := by decide +kernel
theorem d_lw_616 : decode code 616 = .ok (.if_icmp .eq 91, 3) := by decide +kernel
theorem d_lw_619 : decode code 619 = .ok (.iconst 0, 1) := by decide +kernel
theorem d_lw_620 : decode code 620 = .ok (.ireturn, 1) := by decide +kernel
theorem d_lw_621 : decode code 621 = .ok (.aload_n 1, 1) := by decide +kernel
theorem d_lw_622 : decode code 622 = .ok (.aload_n 0, 1) := by decide +kernel
theorem d_lw_623 : decode code 623 = .ok (.iload_n 3, 1) := by decide +kernel
theorem d_lw_624 : decode code 624 = .ok (.iconst 1, 1) := by decide +kernel
theorem d_lw_625 : decode code 625 = .ok (.iadd, 1) := by decide +kernel
theorem d_lw_626 : decode code 626 = .ok (.iaload, 1) := by decide +kernel
theorem d_lw_627 : decode code 627 = .ok (.aload_n 0, 1) := by decide +kernel
theorem d_lw_628 : decode code 628 = .ok (.iload_n 3, 1) := by decide +kernel
theorem d_lw_629 : decode code 629 = .ok (.iconst 2, 1) := by decide +kernel
theorem d_lw_630 : decode code 630 = .ok (.iadd, 1) := by decide +kernel
theorem d_lw_631 : decode code 631 = .ok (.iaload, 1) := by decide +kernel
theorem d_lw_632 : decode code 632 = .ok (.invokevirtual 76, 3) := by decide +kernel
theorem d_lw_635 : decode code 635 = .ok (.aload_n 2, 1) := by decide +kernel
theorem d_lw_636 : decode code 636 = .ok (.aload_n 0, 1) := by decide +kernel
theorem d_lw_637 : decode code 637 = .ok (.iload_n 3, 1) := by decide +kernel
theorem d_lw_638 : decode code 638 = .ok (.iconst 1, 1) := by decide +kernel
theorem d_lw_639 : decode code 639 = .ok (.iadd, 1) := by decide +kernel
theorem d_lw_640 : decode code 640 = .ok (.iaload, 1) := by decide +kernel
theorem d_lw_641 : decode code 641 = .ok (.aload_n 0, 1) := by decide +kernel
theorem d_lw_642 : decode code 642 = .ok (.iload_n 3, 1) := by decide +kernel
theorem d_lw_643 : decode code 643 = .ok (.iconst 2, 1) := by decide +kernel
theorem d_lw_644 : decode code 644 = .ok (.iadd, 1) := by decide +kernel
theorem d_lw_645 : decode code 645 = .ok (.iaload, 1) := by decide +kernel
theorem d_lw_646 : decode code 646 = .ok (.invokevirtual 80, 3) := by decide +kernel
theorem d_lw_649 : decode code 649 = .ok (.if_icmp .eq 58, 3) := by decide +kernel
theorem d_lw_652 : decode code 652 = .ok (.iconst 0, 1) := by decide +kernel
theorem d_lw_653 : decode code 653 = .ok (.ireturn, 1) := by decide +kernel
theorem d_lw_654 : decode code 654 = .ok (.aload_n 1, 1) := by decide +kernel
theorem d_lw_655 : decode code 655 = .ok (.aload_n 0, 1) := by decide +kernel
theorem d_lw_656 : decode code 656 = .ok (.iload_n 3, 1) := by decide +kernel
theorem d_lw_657 : decode code 657 = .ok (.iconst 1, 1) := by decide +kernel
theorem d_lw_658 : decode code 658 = .ok (.iadd, 1) := by decide +kernel
theorem d_lw_659 : decode code 659 = .ok (.iaload, 1) := by decide +kernel
theorem d_lw_660 : decode code 660 = .ok (.aload_n 0, 1) := by decide +kernel
theorem d_lw_661 : decode code 661 = .ok (.iload_n 3, 1) := by decide +kernel
theorem d_lw_662 : decode code 662 = .ok (.iconst 2, 1) := by decide +kernel
theorem d_lw_663 : decode code 663 = .ok (.iadd, 1) := by decide +kernel
theorem d_lw_664 : decode code 664 = .ok (.iaload, 1) := by decide +kernel
theorem d_lw_665 : decode code 665 = .ok (.aload_n 0, 1) := by decide +kernel
theorem d_lw_666 : decode code 666 = .ok (.iload_n 3, 1) := by decide +kernel
theorem d_lw_667 : decode code 667 = .ok (.iconst 3, 1) := by decide +kernel
theorem d_lw_668 : decode code 668 = .ok (.iadd, 1) := by decide +kernel
theorem d_lw_669 : decode code 669 = .ok (.iaload, 1) := by decide +kernel
theorem d_lw_670 : decode code 670 = .ok (.aload_n 0, 1) := by decide +kernel
theorem d_lw_671 : decode code 671 = .ok (.iload_n 3, 1) := by decide +kernel
theorem d_lw_672 : decode code 672 = .ok (.iconst 4, 1) := by decide +kernel
theorem d_lw_673 : decode code 673 = .ok (.iadd, 1) := by decide +kernel
theorem d_lw_674 : decode code 674 = .ok (.iaload, 1) := by decide +kernel
theorem d_lw_675 : decode code 675 = .ok (.invokevirtual 81, 3) := by decide +kernel
theorem d_lw_678 : decode code 678 = .ok (.aload_n 2, 1) := by decide +kernel
theorem d_lw_679 : decode code 679 = .ok (.aload_n 0, 1) := by decide +kernel
theorem d_lw_680 : decode code 680 = .ok (.iload_n 3, 1) := by decide +kernel
theorem d_lw_681 : decode code 681 = .ok (.iconst 1, 1) := by decide +kernel
theorem d_lw_682 : decode code 682 = .ok (.iadd, 1) := by decide +kernel
theorem d_lw_683 : decode code 683 = .ok (.iaload, 1) := by decide +kernel
theorem d_lw_684 : decode code 684 = .ok (.aload_n 0, 1) := by decide +kernel
theorem d_lw_685 : decode code 685 = .ok (.iload_n 3, 1) := by decide +kernel
theorem d_lw_686 : decode code 686 = .ok (.iconst 2, 1) := by decide +kernel
theorem d_lw_687 : decode code 687 = .ok (.iadd, 1) := by decide +kernel
theorem d_lw_688 : decode code 688 = .ok (.iaload, 1) := by decide +kernel
theorem d_lw_689 : decode code 689 = .ok (.aload_n 0, 1) := by decide +kernel
theorem d_lw_690 : decode code 690 = .ok (.iload_n 3, 1) := by decide +kernel
theorem d_lw_691 : decode code 691 = .ok (.iconst 3, 1) := by decide +kernel
theorem d_lw_692 : decode code 692 = .ok (.iadd, 1) := by decide +kernel
theorem d_lw_693 : decode code 693 = .ok (.iaload, 1) := by decide +kernel
theorem d_lw_694 : decode code 694 = .ok (.aload_n 0, 1) := by decide +kernel
theorem d_lw_695 : decode code 695 = .ok (.iload_n 3, 1) := by decide +kernel
theorem d_lw_696 : decode code 696 = .ok (.iconst 4, 1) := by decide +kernel
theorem d_lw_697 : decode code 697 = .ok (.iadd, 1) := by decide +kernel
theorem d_lw_698 : decode code 698 = .ok (.iaload, 1) := by decide +kernel
theorem d_lw_699 : decode code 699 = .ok (.invokevirtual 85, 3) := by decide +kernel
theorem d_lw_702 : decode code 702 = .ok (.if_icmp .eq 5, 3) := by decide +kernel
theorem d_lw_705 : decode code 705 = .ok (.iconst 0, 1) := by decide +kernel
theorem d_lw_706 : decode code 706 = .ok (.ireturn, 1) := by decide +kernel
theorem d_lw_707 : decode code 707 = .ok (.iinc 3 5, 3) := by decide +kernel
theorem d_lw_710 : decode code 710 = .ok (.goto (-692), 3) := by decide +kernel
theorem d_lw_713 : decode code 713 = .ok (.iconst 1, 1) := by decide +kernel
theorem d_lw_714 : decode code 714 = .ok (.ireturn, 1) := by decide +kernel
end
section
-- A thin layer over the kit: contracts of one shape, their entry, their ends, their calls
abbrev cls : List vw_C := [(R_tb, F_tb, 10), (R_hh, F_hh, 1), (R_pr, F_pr, 10), (R_md, F_md, 1)]
abbrev ty3 (cI cT cP : ClassId) : List (ClassId × FieldType) := [(cI, .int), (cT, .object "HashHall$Table"), (cP, .object "HashHallModel$Pairs")]
abbrev ww (y : MethodName) (b : ByteArray) (n : Nat) (r : Option FieldType) : List Cond := Cond.code y b n r :: al
abbrev wA (D : va_G) (tys : List (ClassId × FieldType)) (sz : Nat) (ws : va_W) (U : State) : Prop := U.heap.size = sz ∧ va_P D cls ws U.heap ∧ va_K D cls tys U ∧ va_D (fun _ => True) ws
abbrev wB (D : va_G) (tys : List (ClassId × FieldType)) (A : Nat → Prop) (ws : va_W) (t : State) : Prop := va_P D cls ws t.heap ∧ va_K D cls tys t ∧ va_D A ws
/-- the end of a method: its answer and the world behind it -/
def cgQ {S : Type} (D : va_G) (tys : List (ClassId × FieldType)) (post : Option Value → S → Prop) (w' : S → va_W) (A : Nat → Prop) : Array Value → State → Outcome → State → Prop := fun _ st oc t => (∃ (v : Option Value) (u : S), oc = .returned v ∧ post v u ∧ wB D tys A (w' u) t) ∧ va_F A st t
/-- a method's contract: from the world ws, with the arguments av, it answers v and leaves the world w' u, post v u; mc cells of ms slots are new at most; d levels of calls -/
def Cg (l : Launch) (y : MethodName) (b : ByteArray) (n : Nat) (r : Option FieldType) (d mc ms : Nat) (D : va_G) (tys : List (ClassId × FieldType)) (av : List Value) (ws : va_W) {S : Type} (post : Option Value → S → Prop) (w' : S → va_W) : Prop :=
  ∀ sz : Nat, Met l y (ww y b n r) (rmL d mc ms) (va_Pc av (wA D tys sz ws)) (cgQ D tys post w' (va_A ws sz)) mc ms (va_A ws sz)
theorem cg_enterF {l : Launch} {y : MethodName} {b : ByteArray} {n : Nat} {r : Option FieldType} {d mc ms : Nat} {D : va_G} {tys : List (ClassId × FieldType)} {av : List Value} {ws : va_W} {S : Type} {post : Option Value → S → Prop} {w' : S → va_W} (hy : plainFor y = true) (hlen : (lg_sl av).length ≤ n)
    (body : ∀ (p : Program) (e : Env) (s : State) (m : MethodId) (below : List Frame) (meth : Method) (c : Code) (args : Array Value), p.tables.exec = Jvm.exec → c.code = b → meth.sig.returnType = r → meth.locks = false → c.maxLocals = n → s.vm.findClass y.cls = some m.cls → meth.name = y.name → (∀ w ∈ al, w.before args s = true) → ∀ (A : Nat → Prop), (∀ q : Nat, s.heap.size ≤ q → A q) → va_K D cls tys s → va_P D cls ws s.heap → va_D A ws → va_S A s.heap s.heap [] → ∀ ls : Array Slot, lv_has ls n (lv_args 0 av) → ∀ Q : State → Prop, Q = MQ below (cgQ D tys post w' A) args s mc ms A →
      W p l e (rmL d mc ms) s m args below meth c s.heap [] 0 0 Q (F0 m 0 ls [])) : Cg l y b n r d mc ms D tys av ws post w' := by
  intro sz
  refine MetFree.of_bodySF (code := b) (maxLocals := n) (ret := r) hy ?_ ?_
  · intro args s m h hn
    obtain ⟨meth, c, h1, h2, h3, h4, h5, h6, -, -⟩ := Cond.code_spec hn (atoms_spec (ws := ww y b n r) h _ List.mem_cons_self)
    exact ⟨meth, c, h1, h2, h3, h4, h5, h6⟩
  intro p e s m args below meth c s₁ B hml hv _
  have hh0 : s₁.heap = s.heap := by rw [B.state]; rfl
  have X0 := Stand.of_body B
  obtain ⟨rfl, hsz, hP, hK, hD0⟩ := hv
  have hts := atoms_spec (ws := ww y b n r) B.pre
  subst hsz
  have K0 := body p e s m below meth c _ B.exec B.bytes B.returns B.notSynchronized hml (findClass_of_methodNamed B.named) (name_of_methodNamed B.named B.method).1 (fun w h => hts w (List.mem_cons_of_mem _ h)) _ (fun q h => Or.inr h) hK hP hD0.self va_S.rf _ (lv_entry av hlen) _ rfl
  rw [← lg_entry_eq] at K0
  obtain ⟨t, a1, o, b1, b2, b3⟩ := K0 s₁ hh0 X0
  exact ⟨t, o, a1, b1, b2, ⟨b3.1, b3.2⟩⟩
theorem cg_enter {l : Launch} {y : MethodName} {b : ByteArray} {n : Nat} {r : Option FieldType} {d mc ms : Nat} {D : va_G} {tys : List (ClassId × FieldType)} {av : List Value} {ws : va_W} {S : Type} {post : Option Value → S → Prop} {w' : S → va_W} (hy : plainName y.cls = true) (hlen : (lg_sl av).length ≤ n)
    (body : ∀ (p : Program) (e : Env) (s : State) (m : MethodId) (below : List Frame) (meth : Method) (c : Code) (args : Array Value), p.tables.exec = Jvm.exec → c.code = b → meth.sig.returnType = r → meth.locks = false → c.maxLocals = n → s.vm.findClass y.cls = some m.cls → meth.name = y.name → (∀ w ∈ al, w.before args s = true) → ∀ (A : Nat → Prop), (∀ q : Nat, s.heap.size ≤ q → A q) → va_K D cls tys s → va_P D cls ws s.heap → va_D A ws → va_S A s.heap s.heap [] → ∀ ls : Array Slot, lv_has ls n (lv_args 0 av) → ∀ Q : State → Prop, Q = MQ below (cgQ D tys post w' A) args s mc ms A →
      W p l e (rmL d mc ms) s m args below meth c s.heap [] 0 0 Q (F0 m 0 ls [])) : Cg l y b n r d mc ms D tys av ws post w' :=
  cg_enterF (plainFor_of_name hy) hlen body
section LY
variable {p : Program} {l : Launch} {e : Env} {R : Room} {s : State} {m : MethodId} {args : Array Value} {below : List Frame} {meth : Method} {c : Code} {H H0 : Heap} {locs : List Loc} {cells slots : Nat} {Q : State → Prop}
variable {cc : ByteArray} {pc : Nat} {ls : Array Slot} {rest st0 : List Value} {D : va_G} {tys : List (ClassId × FieldType)} {A A0 : Nat → Prop} {ws W0 wr : va_W} {S : Type} {post : Option Value → S → Prop} {w' : S → va_W}
theorem cg_iret {u : S} {x : Int32} (hQ : Q = MQ below (cgQ D tys post w' A) args s cells slots A) (hx : p.tables.exec = Jvm.exec) (hb : c.code = cc) (hr : meth.sig.returnType = some .int) (hlk : meth.locks = false) (hK : va_K D cls tys s) (hP : va_P D cls (w' u) H) (hD : va_D A (w' u)) (hS : va_S A s.heap H locs) (hp : post (some (.int x)) u) (hdg : decode cc pc = .ok (.ireturn, 1)) :
    W p l e R s m args below meth c H locs cells slots Q (F0 m pc ls [.int x]) := by
  subst hQ
  exact W.iret hx hb hr (fun t ht hW => ⟨⟨_, u, rfl, hp, by rw [ht]; exact hP, va_K.moved hW.alike hK, hD⟩, hS.F ht⟩) hS.2.2 hdg hlk
theorem cg_zret {u : S} {x : Int32} (hQ : Q = MQ below (cgQ D tys post w' A) args s cells slots A) (hx : p.tables.exec = Jvm.exec) (hb : c.code = cc) (hr : meth.sig.returnType = some .boolean) (hlk : meth.locks = false) (hK : va_K D cls tys s) (hP : va_P D cls (w' u) H) (hD : va_D A (w' u)) (hS : va_S A s.heap H locs) (hn : narrow .boolean (.int x) = .int x) (hp : post (some (.int x)) u) (hdg : decode cc pc = .ok (.ireturn, 1)) :
    W p l e R s m args below meth c H locs cells slots Q (F0 m pc ls [.int x]) := by
  subst hQ
  exact W.zret hx hb hr hn (fun t ht hW => ⟨⟨_, u, rfl, hp, by rw [ht]; exact hP, va_K.moved hW.alike hK, hD⟩, hS.F ht⟩) hS.2.2 hdg hlk
theorem cg_lret {u : S} {x : Int64} (hQ : Q = MQ below (cgQ D tys post w' A) args s cells slots A) (hx : p.tables.exec = Jvm.exec) (hb : c.code = cc) (hr : meth.sig.returnType = some .long) (hlk : meth.locks = false) (hK : va_K D cls tys s) (hP : va_P D cls (w' u) H) (hD : va_D A (w' u)) (hS : va_S A s.heap H locs) (hp : post (some (.long x)) u) (hdg : decode cc pc = .ok (.lreturn, 1)) :
    W p l e R s m args below meth c H locs cells slots Q (F0 m pc ls [.long x]) := by
  subst hQ
  exact W.lret hx hb hr (fun t ht hW => ⟨⟨_, u, rfl, hp, by rw [ht]; exact hP, va_K.moved hW.alike hK, hD⟩, hS.F ht⟩) hS.2.2 hdg hlk
theorem cg_vret {u : S} (hQ : Q = MQ below (cgQ D tys post w' A) args s cells slots A) (hx : p.tables.exec = Jvm.exec) (hb : c.code = cc) (hr : meth.sig.returnType = none) (hlk : meth.locks = false) (hK : va_K D cls tys s) (hP : va_P D cls (w' u) H) (hD : va_D A (w' u)) (hS : va_S A s.heap H locs) (hp : post none u) (hdg : decode cc pc = .ok (.return_, 1)) :
    W p l e R s m args below meth c H locs cells slots Q (F0 m pc ls []) := by
  subst hQ
  exact W.vret hx hb hr (fun t ht hW => ⟨⟨_, u, rfl, hp, by rw [ht]; exact hP, va_K.moved hW.alike hK, hD⟩, hS.F ht⟩) hS.2.2 hdg hlk
theorem cg_aret {u : S} {v : Value} {rt : FieldType} (hQ : Q = MQ below (cgQ D tys post w' A) args s cells slots A) (hx : p.tables.exec = Jvm.exec) (hb : c.code = cc) (hr : meth.sig.returnType = some rt) (hrt : (∃ n, rt = .object n) ∨ ∃ t, rt = .array t) (hv : v = .null ∨ ∃ a, v = .ref a) (hlk : meth.locks = false) (hK : va_K D cls tys s) (hP : va_P D cls (w' u) H) (hD : va_D A (w' u)) (hS : va_S A s.heap H locs) (hp : post (some v) u) (hdg : decode cc pc = .ok (.areturn, 1)) :
    W p l e R s m args below meth c H locs cells slots Q (F0 m pc ls [v]) := by
  subst hQ
  exact W.aret hx hb hr hrt hv (fun t ht hW => ⟨⟨_, u, rfl, hp, by rw [ht]; exact hP, va_K.moved hW.alike hK, hD⟩, hS.F ht⟩) hS.2.2 hdg hlk
/-- what a run of a contract leaves, put beside the rest -/
theorem cg_go {mc ms : Nat} {a : Array Value} (hr : va_Run p l e R s m args below meth c H locs cells slots mc ms (F0 m pc ls st0) rest (cgQ D tys post w' (va_A ws H.size) a) (va_A ws H.size)) (hP : va_P D cls W0 H) (hD : va_D A0 W0) (hS : va_S A0 H0 H locs) (hA : ∀ q, H0.size ≤ q → A0 q)
    (isC isR : List Nat) (eC : isC.map (fun i => W0[i]?) = ws.map some) (eR : isR.map (fun i => W0[i]?) = wr.map some) (nR : va_nd isR = true) (dR : ∀ i ∈ isR, i ∉ isC)
    (kk : ∀ (v : Option Value) (u : S) (H1 : Heap) (locs1 : List Loc), post v u → va_P D cls (wr ++ w' u) H1 → va_D A0 (wr ++ w' u) → va_S A0 H0 H1 locs1 → W p l e R s m args below meth c H1 locs1 (cells + mc) (slots + ms) Q (F0 m (pc + 3) ls (v.toList ++ rest))) : W p l e R s m args below meth c H locs cells slots Q (F0 m pc ls st0) := by
  intro T hT X
  obtain ⟨v, st₀, t, T', L, h0, X', hL, e1, e2, ⟨⟨v', u, hv, hp, hP1, hK1, hD1⟩, hz, hk⟩, st⟩ := hr T hT X
  cases hv
  rw [h0] at hz hk
  have hF := va_free (wc := ws) hD hS hA isC eC
  rw [← e1] at hP1
  have hk' : ∀ q : Nat, q < H.size → ¬ va_A ws H.size q → T'.heap[q]? = H[q]? := fun q h1 h2 => by rw [e1]; exact hk q h1 h2
  obtain ⟨hPj, hDj⟩ := va_join (wr := wr) hP hD isC isR eC eR nR dR hk' hF hP1 hD1
  obtain ⟨t2, a1, b1⟩ := kk v u T'.heap (locs ++ L) hp hPj hDj
    ⟨Nat.le_trans hS.1 (by rw [e1]; exact hz), fun q h1 h2 => by rw [hk' q (Nat.lt_of_lt_of_le h1 hS.1) (fun z => h2 (hF q z))]; exact hS.2.1 q h1 h2, fun q hq => by
      rcases List.mem_append.mp hq with h | h
      · exact hS.2.2 q h
      · exact hF _ (hL q h)⟩ T' rfl X'
  exact ⟨t2, st t2 a1, b1⟩
theorem cg_sub (hP : va_P D cls W0 H) (isC : List Nat) (eC : isC.map (fun i => W0[i]?) = ws.map some) : va_P D cls ws H := hP.sub isC (by
    have h := congrArg (List.filterMap id) eC
    simpa [List.filterMap_map] using h)
theorem cg_pre {a : List Value} (hK : va_K D cls tys s) (hPc : va_P D cls ws H) (hDc : va_D A ws) : FrameBlind (va_Pc a (wA D tys H.size ws)) ∧ ∀ U : State, U.heap = H → s.WarmedH U.vm → va_Pc a (wA D tys H.size ws) a.toArray U := by
  refine ⟨fun a U g mk q => ?_, fun U hU hW => ⟨rfl, by rw [hU], by rw [hU]; exact hPc, va_K.moved hW.alike hK, hDc.weaken (fun _ _ _ _ => trivial)⟩⟩
  obtain ⟨q0, q1, qP, qK, qD⟩ := q
  exact ⟨q0, q1, qP, va_K.moved (u := U) (U := U.calling g mk a) (Vm.Alike.refl U.vm) qK, qD⟩
/-- a call of an instance method by its contract -/
theorem cg_V {own C : String} {index nL : Nat} {y : MethodName} {b : ByteArray} {n : Nat} {r : Option FieldType} {d mc ms : Nat} {a ci q0 : Nat} {As : List Value} {T : u_T} {N : Nat} {fs : List Value} {hn : Nat}
    (hx : p.tables.exec = Jvm.exec) (hb : c.code = cc) (hml : c.maxLocals = nL) (hown : s.vm.findClass own = some m.cls) (hts : ∀ w ∈ al, w.before args s = true) (hC : Cg l y b n r d mc ms D tys (.ref a :: As) ws post w')
    (k1 : Cond.methodLink own index y ∈ al) (k2 : Cond.instanceMethod y ∈ al) (k3 : Cond.selects C y y ∈ al) (k4 : Cond.initialized C ∈ al) (k5 : Cond.code y b n r ∈ al)
    (hd : y.cls = C ∧ y.cls ≠ "java/lang/invoke/MethodHandle" ∧ y.cls ≠ "java/lang/invoke/VarHandle" ∧ (parseMethodDescriptor y.desc).map (fun d => d.parameters.length) = some hn) (hAs : As.length = hn) (hR : d + 1 ≤ R.frames ∧ 8 + (n + 11) + 27 * d ≤ R.locals)
    (hK : va_K D cls tys s) (hP : va_P D cls W0 H) (hD : va_D A0 W0) (hS : va_S A0 H0 H locs) (hA : ∀ q, H0.size ≤ q → A0 q)
    (isC isR : List Nat) (eC : isC.map (fun i => W0[i]?) = ws.map some) (nC : va_nd isC = true) (eR : isR.map (fun i => W0[i]?) = wr.map some) (nR : va_nd isR = true) (dR : ∀ i ∈ isR, i ∉ isC)
    (hq0 : ws[q0]? = some (a, .inr (ci, fs))) (hci : cls[ci]? = some (C, T, N))
    (hl : ls.size = nL) (hst : st0 = As.reverse ++ .ref a :: rest) (hrm : (rest.map fun v => v.category).sum ≤ 8) (hdg : decode cc pc = .ok (.invokevirtual index, 3)) (hf : cells + mc ≤ R.cells ∧ slots + ms ≤ R.slots)
    (kk : ∀ (v : Option Value) (u : S) (H1 : Heap) (locs1 : List Loc), post v u → va_P D cls (wr ++ w' u) H1 → va_D A0 (wr ++ w' u) → va_S A0 H0 H1 locs1 → W p l e R s m args below meth c H1 locs1 (cells + mc) (slots + ms) Q (F0 m (pc + 3) ls (v.toList ++ rest))) : W p l e R s m args below meth c H locs cells slots Q (F0 m pc ls st0) := by
  have hDc : va_D A0 ws := hD.sub isC nC eC
  have hPc : va_P D cls ws H := cg_sub hP isC eC
  have hpre := cg_pre (a := .ref a :: As) hK hPc hDc
  exact cg_go (ws := ws) (a := (Value.ref a :: As).toArray) (va_runV (As := As) (rest := rest) ⟨hx, hb, hml, hown, hts⟩ (hC H.size) (cwV hn hts (al_V k1 k2 k3 k4 k5) rfl rfl rfl hd hR) ⟨hpre.1, va_recv hK hPc hci hq0, hpre.2⟩ rfl hAs hl hst (lv_room hrm) hdg hf) hP hD hS hA isC isR eC eR nR dR kk
/-- a call of a static method by its contract -/
theorem cg_S {own : String} {index nL : Nat} {y : MethodName} {b : ByteArray} {n : Nat} {r : Option FieldType} {d mc ms : Nat} {As : List Value} {hn : Nat}
    (hx : p.tables.exec = Jvm.exec) (hb : c.code = cc) (hml : c.maxLocals = nL) (hown : s.vm.findClass own = some m.cls) (hts : ∀ w ∈ al, w.before args s = true) (hC : Cg l y b n r d mc ms D tys As ws post w')
    (k1 : Cond.methodLink own index y ∈ al) (k2 : Cond.static y ∈ al) (k4 : Cond.initialized y.cls ∈ al) (k5 : Cond.code y b n r ∈ al)
    (hd : y.cls ≠ "java/lang/invoke/MethodHandle" ∧ y.cls ≠ "java/lang/invoke/VarHandle" ∧ (parseMethodDescriptor y.desc).map (fun d => d.parameters.length) = some hn) (hAs : As.length = hn) (hR : d + 1 ≤ R.frames ∧ 8 + (n + 11) + 27 * d ≤ R.locals)
    (hK : va_K D cls tys s) (hP : va_P D cls W0 H) (hD : va_D A0 W0) (hS : va_S A0 H0 H locs) (hA : ∀ q, H0.size ≤ q → A0 q)
    (isC isR : List Nat) (eC : isC.map (fun i => W0[i]?) = ws.map some) (nC : va_nd isC = true) (eR : isR.map (fun i => W0[i]?) = wr.map some) (nR : va_nd isR = true) (dR : ∀ i ∈ isR, i ∉ isC)
    (hl : ls.size = nL) (hst : st0 = As.reverse ++ rest) (hrm : (rest.map fun v => v.category).sum ≤ 8) (hdg : decode cc pc = .ok (.invokestatic index, 3)) (hf : cells + mc ≤ R.cells ∧ slots + ms ≤ R.slots)
    (kk : ∀ (v : Option Value) (u : S) (H1 : Heap) (locs1 : List Loc), post v u → va_P D cls (wr ++ w' u) H1 → va_D A0 (wr ++ w' u) → va_S A0 H0 H1 locs1 → W p l e R s m args below meth c H1 locs1 (cells + mc) (slots + ms) Q (F0 m (pc + 3) ls (v.toList ++ rest))) : W p l e R s m args below meth c H locs cells slots Q (F0 m pc ls st0) := by
  have hDc : va_D A0 ws := hD.sub isC nC eC
  have hPc : va_P D cls ws H := cg_sub hP isC eC
  have hpre := cg_pre (a := As) hK hPc hDc
  exact cg_go (ws := ws) (a := As.toArray) (va_runS (As := As) (rest := rest) ⟨hx, hb, hml, hown, hts⟩ (hC H.size) ⟨callB_of hn hts (al_I k5) rfl rfl rfl (hts _ k4) (hts _ k1) hd hR, hts _ k2⟩ hpre rfl hAs hl hst (lv_room hrm) hdg hf) hP hD hS hA isC isR eC eR nR dR kk
/-- a call of a constructor by its contract -/
theorem cg_I {own : String} {index nL : Nat} {y : MethodName} {b : ByteArray} {n : Nat} {d mc ms : Nat} {a : Nat} {As : List Value} {hn : Nat}
    (hx : p.tables.exec = Jvm.exec) (hb : c.code = cc) (hml : c.maxLocals = nL) (hown : s.vm.findClass own = some m.cls) (hts : ∀ w ∈ al, w.before args s = true) (hC : Cg l y b n none d mc ms D tys (.ref a :: As) ws post w')
    (k1 : Cond.methodLink own index y ∈ al) (k2 : Cond.instanceMethod y ∈ al) (k4 : Cond.initialized y.cls ∈ al) (k5 : Cond.code y b n none ∈ al) (hy1 : y.name = "<init>")
    (hd : y.cls ≠ "java/lang/invoke/MethodHandle" ∧ y.cls ≠ "java/lang/invoke/VarHandle" ∧ (parseMethodDescriptor y.desc).map (fun d => d.parameters.length) = some hn) (hAs : As.length = hn) (hR : d + 1 ≤ R.frames ∧ 8 + (n + 11) + 27 * d ≤ R.locals)
    (hK : va_K D cls tys s) (hP : va_P D cls W0 H) (hD : va_D A0 W0) (hS : va_S A0 H0 H locs) (hA : ∀ q, H0.size ≤ q → A0 q)
    (isC isR : List Nat) (eC : isC.map (fun i => W0[i]?) = ws.map some) (nC : va_nd isC = true) (eR : isR.map (fun i => W0[i]?) = wr.map some) (nR : va_nd isR = true) (dR : ∀ i ∈ isR, i ∉ isC)
    (hl : ls.size = nL) (hst : st0 = As.reverse ++ .ref a :: rest) (hrm : (rest.map fun v => v.category).sum ≤ 8) (hdg : decode cc pc = .ok (.invokespecial index, 3)) (hf : cells + mc ≤ R.cells ∧ slots + ms ≤ R.slots)
    (kk : ∀ (v : Option Value) (u : S) (H1 : Heap) (locs1 : List Loc), post v u → va_P D cls (wr ++ w' u) H1 → va_D A0 (wr ++ w' u) → va_S A0 H0 H1 locs1 → W p l e R s m args below meth c H1 locs1 (cells + mc) (slots + ms) Q (F0 m (pc + 3) ls (v.toList ++ rest))) : W p l e R s m args below meth c H locs cells slots Q (F0 m pc ls st0) := by
  have hDc : va_D A0 ws := hD.sub isC nC eC
  have hPc : va_P D cls ws H := cg_sub hP isC eC
  have hpre := cg_pre (a := .ref a :: As) hK hPc hDc
  exact cg_go (ws := ws) (a := (Value.ref a :: As).toArray) (va_runI (As := As) (rest := rest) ⟨hx, hb, hml, hown, hts⟩ (hC H.size) ⟨callB_of hn hts (al_I k5) rfl rfl rfl (hts _ k4) (hts _ k1) hd hR, hy1, hts _ k2⟩ hpre rfl hAs hl hst (lv_room hrm) hdg hf) hP hD hS hA isC isR eC eR nR dR kk
/-- the top of the stack, by another name -/
theorem tp_i {x y : Int32} (h : x = y) (k : W p l e R s m args below meth c H locs cells slots Q (F0 m pc ls (.int y :: rest))) : W p l e R s m args below meth c H locs cells slots Q (F0 m pc ls (.int x :: rest)) := h ▸ k
theorem tp_l {x y : Int64} (h : x = y) (k : W p l e R s m args below meth c H locs cells slots Q (F0 m pc ls (.long y :: rest))) : W p l e R s m args below meth c H locs cells slots Q (F0 m pc ls (.long x :: rest)) := h ▸ k
/-- a row of ints is read, written at a place k -/
theorem wa_ld {a : Nat} (hx : p.tables.exec = Jvm.exec) (hb : c.code = cc) (hK : va_K D cls tys s) (hP : va_P D cls ws H) (q0 t0 : Nat) {cA : ClassId} {n : Nat} {f : Nat → Int32} (ha : ws[q0]? = some (a, .inl (cA, n, .inl f))) (ht : tys[t0]? = some (cA, .int)) {k : Nat} (hk : k < n) (hn : n < 2 ^ 31) (hdg : decode cc pc = .ok (.iaload, 1))
    (kk : W p l e R s m args below meth c H locs cells slots Q (F0 m (pc + 1) ls (.int (f k) :: rest))) : W p l e R s m args below meth c H locs cells slots Q (F0 m pc ls (.int (nI k) :: .ref a :: rest)) := by
  refine va_iald hx hb hK hP q0 t0 ha ht (vp_in_nI hk hn) hdg ?_
  rw [nI_clamp (by omega)]
  exact kk
theorem wa_st {a : Nat} (hx : p.tables.exec = Jvm.exec) (hb : c.code = cc) (hK : va_K D cls tys s) (hP : va_P D cls ws H) (hD : va_D A ws) (hS : va_S A H0 H locs) (q0 t0 : Nat) {cA : ClassId} {n : Nat} {f : Nat → Int32} (ha : ws[q0]? = some (a, .inl (cA, n, .inl f))) (ht : tys[t0]? = some (cA, .int)) {k : Nat} {x : Int32} (hk : k < n) (hn : n < 2 ^ 31) (hdg : decode cc pc = .ok (.iastore, 1))
    (kk : ∀ (H1 : Heap) (locs1 : List Loc), va_P D cls (ws.set q0 (a, .inl (cA, n, .inl (upd f k x)))) H1 → va_D A (ws.set q0 (a, .inl (cA, n, .inl (upd f k x)))) → va_S A H0 H1 locs1 → W p l e R s m args below meth c H1 locs1 cells slots Q (F0 m (pc + 1) ls rest)) : W p l e R s m args below meth c H locs cells slots Q (F0 m pc ls (.int x :: .int (nI k) :: .ref a :: rest)) := by
  refine va_iast hx hb hK hP hD hS q0 t0 ha ht (vp_in_nI hk hn) hdg ?_
  rw [nI_clamp (by omega)]
  exact kk
/-- a new row of k ints -/
theorem wa_new {cI cT cP : ClassId} (hx : p.tables.exec = Jvm.exec) (hb : c.code = cc) (hts : ∀ w ∈ al, w.before args s = true) (hK : va_K D cls (ty3 cI cT cP) s) (hP : va_P D cls ws H) (hD : va_D A ws) (hS : va_S A H0 H locs) (hA : ∀ q, H0.size ≤ q → A q) {k : Nat} (hk : k ≤ 4096) (hc : cells + 1 ≤ R.cells) (hs : slots + k ≤ R.slots) (hdg : decode cc pc = .ok (.newarray .int, 2))
    (kk : ∀ (q : Nat) (H1 : Heap), va_P D cls (ws ++ [(q, .inl (cI, k, .inl (fun _ => 0)))]) H1 → va_D A (ws ++ [(q, .inl (cI, k, .inl (fun _ => 0)))]) → va_S A H0 H1 locs → W p l e R s m args below meth c H1 locs (cells + 1) (slots + k) Q (F0 m (pc + 2) ls (.ref q :: rest))) : W p l e R s m args below meth c H locs cells slots Q (F0 m pc ls (.int (nI k) :: rest)) := by
  refine va_newa (atype := .int) (ty := .int) (N' := k) (a0 := (k, .inl (fun _ => 0))) hx hb (hts _ ka_int) rfl hK hP hD hS hA (fun _ => rfl) (nI_pos (by omega)) (nI_clamp (by omega)) (by show k * 4 ≤ _; omega) hc hs hdg (fun q cA H1 hK1 hP1 hD1 hS1 => ?_)
  have h1 : s.vm.findClass ("[" ++ FieldType.int.toString) = some cA := (hK1.2 3 _ rfl).2
  have h2 : s.vm.findClass ("[" ++ FieldType.int.toString) = some cI := (hK.2 0 _ rfl).2
  have h3 : cA = cI := Option.some.inj (h1.symm.trans h2)
  subst h3
  exact kk q H1 hP1 hD1 hS1
end LY
section LZ
variable {p : Program} {l : Launch} {e : Env} {R : Room} {s : State} {m : MethodId} {args : Array Value} {below : List Frame} {meth : Method} {c : Code} {H H0 : Heap} {locs : List Loc} {cells slots : Nat} {Q : State → Prop}
variable {cc : ByteArray} {pc : Nat} {ls : Array Slot} {rest : List Value} {D : va_G} {tys : List (ClassId × FieldType)} {A : Nat → Prop} {ws : va_W}
/-- System.arraycopy of ints -/
theorem wa_cpy {own : String} {index nL : Nat} (hx : p.tables.exec = Jvm.exec) (hb : c.code = cc) (hml : c.maxLocals = nL) (hl : ls.size = nL) (hown : s.vm.findClass own = some m.cls) (hts : ∀ w ∈ al, w.before args s = true) (k1 : Cond.methodLink own index arraycopyName ∈ al)
    (hK : va_K D cls tys s) (hP : va_P D cls ws H) (hD : va_D A ws) (hS : va_S A H0 H locs) (q0 q1 t0 : Nat) {a a0 : Nat} {cA : ClassId} {n0 n1 : Nat} {f g : Nat → Int32} (ha0 : ws[q0]? = some (a0, .inl (cA, n0, .inl f))) (ha1 : ws[q1]? = some (a, .inl (cA, n1, .inl g))) (ht0 : tys[t0]? = some (cA, .int))
    {sp dp n : Nat} (h4 : sp + n ≤ n0) (h5 : dp + n ≤ n1) (hn0 : n0 < 2 ^ 31) (hn1 : n1 < 2 ^ 31) (hfr : 1 ≤ R.frames) (hlo : (rest.map fun v => v.category).sum + (nativeFrameWords "java/lang/System" "arraycopy" 5 + 11) ≤ R.locals) (hdg : decode cc pc = .ok (.invokestatic index, 3))
    (kk : ∀ (H1 : Heap) (locs1 : List Loc), va_P D cls (ws.set q1 (a, .inl (cA, n1, .inl (va_cpy f g sp dp n)))) H1 → va_D A (ws.set q1 (a, .inl (cA, n1, .inl (va_cpy f g sp dp n)))) → va_S A H0 H1 locs1 → W p l e R s m args below meth c H1 locs1 cells slots Q (F0 m (pc + 3) ls rest)) : W p l e R s m args below meth c H locs cells slots Q (F0 m pc ls (.int (nI n) :: .int (nI dp) :: .ref a :: .int (nI sp) :: .ref a0 :: rest)) := by
  have e1 : (nI sp).toNatClampNeg = sp := nI_clamp (by omega)
  have e2 : (nI dp).toNatClampNeg = dp := nI_clamp (by omega)
  have e3 : (nI n).toNatClampNeg = n := nI_clamp (by omega)
  refine va_copyi hx hb (hml.trans hl.symm) hown (hts _ k1) (hts _ kv_js_arraycopy) (hts _ kt_js_arraycopy) (hts _ kn_js) hK hP hD hS q0 q1 t0 t0 ha0 ha1 ht0 ht0 rfl (nI_pos (by omega)) (nI_pos (by omega)) (nI_pos (by omega)) (by rw [e1, e3]; exact h4) (by rw [e2, e3]; exact h5) (fun _ _ => rfl) hfr hlo hdg ?_
  rw [e1, e2, e3]
  exact kk
/-- Math.min -/
theorem wa_min {own : String} {index nL : Nat} (hx : p.tables.exec = Jvm.exec) (hb : c.code = cc) (hml : c.maxLocals = nL) (hl : ls.size = nL) (hown : s.vm.findClass own = some m.cls) (hts : ∀ w ∈ al, w.before args s = true) (k1 : Cond.methodLink own index Lib.Math.min.name ∈ al) (hfr : 1 ≤ R.frames) (hlo : (rest.map fun v => v.category).sum + 13 ≤ R.locals) (hc : cells ≤ R.cells) (hs : slots ≤ R.slots) {x y z : Int32} (hz : (if y < x then y else x) = z) (hdg : decode cc pc = .ok (.invokestatic index, 3))
    (kk : W p l e R s m args below meth c H locs cells slots Q (F0 m (pc + 3) ls (.int z :: rest))) : W p l e R s m args below meth c H locs cells slots Q (F0 m pc ls (.int y :: .int x :: rest)) := by
  refine va_mmin hx hb (hml.trans hl.symm) hown (hts _ k1) (hts _ kt_jm_min) (hts _ kn_jm) (hts _ kc_jm_min) hfr hlo hc hs hdg ?_
  rw [hz]
  exact kk
end LZ
end
section
-- Pure words: segments of linked rows, lists of entries
/-- from the value a along f through the slots l to the value b -/
def sg (f : Nat → Int32) : Int32 → List Nat → Int32 → Prop
  | a, [], b => a = b
  | a, x :: l, b => a = nI x ∧ sg f (f x) l b
def hd_ (s : Nat) : List Nat → Nat
  | [] => s
  | x :: _ => x
def ls_ : Nat → List Nat → Nat
  | s, [] => s
  | _, x :: l => ls_ x l
theorem sg_cons {f : Nat → Int32} {a b : Int32} {x : Nat} {l : List Nat} : sg f a (x :: l) b ↔ a = nI x ∧ sg f (f x) l b := Iff.rfl
theorem sg_nil {f : Nat → Int32} {a b : Int32} : sg f a [] b ↔ a = b := Iff.rfl
theorem sg_app {f : Nat → Int32} {a b : Int32} {l1 : List Nat} {x : Nat} {l2 : List Nat} : sg f a (l1 ++ x :: l2) b ↔ sg f a l1 (nI x) ∧ sg f (f x) l2 b := by
  induction l1 generalizing a with
  | nil => exact Iff.rfl
  | cons y l ih =>
    show (a = nI y ∧ sg f (f y) (l ++ x :: l2) b) ↔ (a = nI y ∧ sg f (f y) l (nI x)) ∧ sg f (f x) l2 b
    rw [ih, and_assoc]
theorem sg_cong {f g : Nat → Int32} {a b : Int32} {l : List Nat} (h : ∀ x, x ∈ l → g x = f x) (s : sg f a l b) : sg g a l b := by
  induction l generalizing a with
  | nil => exact s
  | cons y l ih =>
    refine ⟨s.1, ?_⟩
    rw [h y (List.mem_cons_self ..)]
    exact ih (fun x hx => h x (List.mem_cons_of_mem _ hx)) s.2
theorem sg_upd {f : Nat → Int32} {a b v : Int32} {l : List Nat} {k : Nat} (h : k ∉ l) (s : sg f a l b) : sg (upd f k v) a l b :=
  sg_cong (fun x hx => pk_un (fun e => h (by rw [← e]; exact hx))) s
theorem sg_hd {f : Nat → Int32} {a : Int32} {l : List Nat} {e : Nat} (s : sg f a l (nI e)) : a = nI (hd_ e l) := by
  cases l with
  | nil => exact s
  | cons y l => exact s.1
theorem sg_hd0 {f : Nat → Int32} {a : Int32} {l : List Nat} (s : sg f a l 0) : a = nI (hd_ 0 l) := sg_hd (e := 0) s
theorem ls_mem (s : Nat) (l : List Nat) : ls_ s l ∈ s :: l := by
  induction l generalizing s with
  | nil => exact List.mem_cons_self ..
  | cons y l ih => exact List.mem_cons_of_mem _ (ih y)
theorem hd_mem (s : Nat) (l : List Nat) : hd_ s l ∈ s :: l := by
  cases l with
  | nil => exact List.mem_cons_self ..
  | cons y l => exact List.mem_cons_of_mem _ (List.mem_cons_self ..)
theorem ls_snoc (s x : Nat) (l : List Nat) : ls_ s (l ++ [x]) = x := by
  induction l generalizing s with
  | nil => rfl
  | cons y l ih => exact ih y
theorem hd_rev (s : Nat) (l : List Nat) : hd_ s l.reverse = ls_ s l := by
  rcases List.eq_nil_or_concat l with rfl | ⟨l', x, rfl⟩
  · rfl
  · rw [List.concat_eq_append, ls_snoc, List.reverse_append]
    rfl
theorem ls_rev (s : Nat) (l : List Nat) : ls_ s l.reverse = hd_ s l := by
  rw [← hd_rev, List.reverse_reverse]
/-- x is taken out -/
theorem sg_cut {f : Nat → Int32} {s x : Nat} {l1 l2 : List Nat} {e : Int32} (nd : (s :: (l1 ++ x :: l2)).Nodup) (h : sg f (f s) (l1 ++ x :: l2) e) : sg (upd f (ls_ s l1) (f x)) (upd f (ls_ s l1) (f x) s) (l1 ++ l2) e := by
  induction l1 generalizing s with
  | nil =>
    have h1 : s ∉ l2 := fun z => (List.nodup_cons.mp nd).1 (List.mem_cons_of_mem _ z)
    show sg (upd f s (f x)) (upd f s (f x) s) l2 e
    rw [pk_us]
    exact sg_upd h1 h.2
  | cons y l ih =>
    have h1 := List.nodup_cons.mp nd
    have h2 : s ≠ ls_ y l := by
      intro z
      have h3 := ls_mem y l
      rw [← z] at h3
      refine h1.1 ?_
      rcases List.mem_cons.mp h3 with h4 | h4
      · rw [h4]; exact List.mem_cons_self ..
      · exact List.mem_cons_of_mem _ (List.mem_append_left _ h4)
    refine ⟨?_, ih h1.2 h.2⟩
    show upd f (ls_ y l) (f x) s = nI y
    rw [pk_un h2]
    exact h.1
/-- i comes behind the last -/
theorem sg_snoc {f : Nat → Int32} {s i : Nat} {l : List Nat} {e : Int32} (nd : (s :: l).Nodup) (hi : i ∉ s :: l) (h : sg f (f s) l e) : sg (upd (upd f (ls_ s l) (nI i)) i e) (upd (upd f (ls_ s l) (nI i)) i e s) (l ++ [i]) e := by
  induction l generalizing s with
  | nil =>
    have h1 : s ≠ i := by
      intro z
      exact hi (by rw [z]; exact List.mem_cons_self ..)
    show upd (upd f s (nI i)) i e s = nI i ∧ upd (upd f s (nI i)) i e i = e
    exact ⟨by rw [pk_un h1, pk_us], pk_us⟩
  | cons y l ih =>
    have h1 := List.nodup_cons.mp nd
    have h2 : s ≠ ls_ y l := by
      intro z
      exact h1.1 (by rw [z]; exact ls_mem y l)
    have h3 : s ≠ i := by
      intro z
      exact hi (by rw [z]; exact List.mem_cons_self ..)
    refine ⟨?_, ih h1.2 (fun z => hi (List.mem_cons_of_mem _ z)) h.2⟩
    show upd (upd f (ls_ y l) (nI i)) i e s = nI y
    rw [pk_un h3, pk_un h2]
    exact h.1
/-- entries: what a key has, without a key, with another value -/
def lk (k : Int32) : List (Int32 × Int32) → Option Int32
  | [] => none
  | e :: L => if e.1 = k then some e.2 else lk k L
def del (k : Int32) (L : List (Int32 × Int32)) : List (Int32 × Int32) := L.filter (fun e => decide (e.1 ≠ k))
def setv (k v : Int32) (L : List (Int32 × Int32)) : List (Int32 × Int32) := L.map (fun e => if e.1 = k then (k, v) else e)
/-- the key is used -/
def us (mv : Bool) (k : Int32) (L : List (Int32 × Int32)) : List (Int32 × Int32) := if mv then (match lk k L with | none => L | some v => del k L ++ [(k, v)]) else L
/-- put -/
def st (mv : Bool) (k v : Int32) (L : List (Int32 × Int32)) : List (Int32 × Int32) := match lk k L with
  | none => L ++ [(k, v)]
  | some _ => us mv k (setv k v L)
/-- an answer -/
def an : Option Int32 → Int64
  | none => 1099511627776
  | some v => v.toInt64
abbrev ks_ (L : List (Int32 × Int32)) : List Int32 := L.map Prod.fst
theorem lk_out {k : Int32} {A X : List (Int32 × Int32)} (h : k ∉ ks_ A) : lk k (A ++ X) = lk k X := by
  induction A with
  | nil => rfl
  | cons e A ih =>
    have h1 : ¬ e.1 = k := fun z => h (by rw [← z]; exact List.mem_cons_self ..)
    show (if e.1 = k then some e.2 else lk k (A ++ X)) = lk k X
    rw [if_neg h1]
    exact ih (fun z => h (List.mem_cons_of_mem _ z))
theorem lk_none {k : Int32} {L : List (Int32 × Int32)} (h : k ∉ ks_ L) : lk k L = none := by
  have := lk_out (X := []) h
  rwa [List.append_nil] at this
theorem lk_mem {k v : Int32} {L : List (Int32 × Int32)} (h : lk k L = some v) : (k, v) ∈ L := by
  induction L with
  | nil => exact absurd h (by simp [lk])
  | cons e L ih =>
    by_cases c : e.1 = k
    · have h : (if e.1 = k then some e.2 else lk k L) = some v := h
      rw [if_pos c] at h
      have h := Option.some.inj h
      have : e = (k, v) := by rw [← c, ← h]
      rw [this]
      exact List.mem_cons_self ..
    · have h : (if e.1 = k then some e.2 else lk k L) = some v := h
      rw [if_neg c] at h
      exact List.mem_cons_of_mem _ (ih h)
theorem lk_mem_iff {k v : Int32} {L : List (Int32 × Int32)} (nd : (ks_ L).Nodup) : lk k L = some v ↔ (k, v) ∈ L := by
  refine ⟨lk_mem, fun h => ?_⟩
  induction L with
  | nil => exact absurd h List.not_mem_nil
  | cons e L ih =>
    have nd' := List.nodup_cons.mp nd
    show (if e.1 = k then some e.2 else lk k L) = some v
    rcases List.mem_cons.mp h with h1 | h1
    · rw [← h1, if_pos rfl]
    · have h2 : ¬ e.1 = k := fun z => nd'.1 (by rw [z]; exact List.mem_map_of_mem (f := Prod.fst) h1)
      rw [if_neg h2]
      exact ih nd'.2 h1
theorem lk_key {k : Int32} {L : List (Int32 × Int32)} : lk k L = none ↔ k ∉ ks_ L := by
  refine ⟨fun h => ?_, lk_none⟩
  induction L with
  | nil => exact List.not_mem_nil
  | cons e L ih =>
    have h : (if e.1 = k then some e.2 else lk k L) = none := h
    by_cases c : e.1 = k
    · rw [if_pos c] at h
      exact absurd h (by simp)
    · rw [if_neg c] at h
      intro z
      rcases List.mem_cons.mp z with h1 | h1
      · exact c h1.symm
      · exact ih h h1
theorem del_app {k : Int32} {A B : List (Int32 × Int32)} : del k (A ++ B) = del k A ++ del k B := List.filter_append ..
theorem del_out {k : Int32} {A : List (Int32 × Int32)} (h : k ∉ ks_ A) : del k A = A :=
  List.filter_eq_self.mpr (fun e he => decide_eq_true (fun z => h (by rw [← z]; exact List.mem_map_of_mem (f := Prod.fst) he)))
theorem setv_app {k v : Int32} {A B : List (Int32 × Int32)} : setv k v (A ++ B) = setv k v A ++ setv k v B := List.map_append ..
theorem setv_out {k v : Int32} {A : List (Int32 × Int32)} (h : k ∉ ks_ A) : setv k v A = A := by
  induction A with
  | nil => rfl
  | cons e A ih =>
    have h1 : ¬ e.1 = k := fun z => h (by rw [← z]; exact List.mem_cons_self ..)
    show (if e.1 = k then (k, v) else e) :: setv k v A = e :: A
    rw [if_neg h1, ih (fun z => h (List.mem_cons_of_mem _ z))]
theorem ks_setv {k v : Int32} {A : List (Int32 × Int32)} : ks_ (setv k v A) = ks_ A := by
  induction A with
  | nil => rfl
  | cons e A ih =>
    show (if e.1 = k then (k, v) else e).1 :: ks_ (setv k v A) = e.1 :: ks_ A
    rw [ih]
    by_cases c : e.1 = k
    · rw [if_pos c, c]
    · rw [if_neg c]
theorem nd_split {A B : List (Int32 × Int32)} {k v : Int32} (nd : (ks_ (A ++ (k, v) :: B)).Nodup) : k ∉ ks_ A ∧ k ∉ ks_ B := by
  have h : (ks_ A ++ k :: ks_ B).Nodup := by simpa [ks_] using nd
  obtain ⟨_, h2, h3⟩ := List.nodup_append.mp h
  exact ⟨fun z => h3 k z k (List.mem_cons_self ..) rfl, (List.nodup_cons.mp h2).1⟩
theorem lk_split {A B : List (Int32 × Int32)} {k v : Int32} (nd : (ks_ (A ++ (k, v) :: B)).Nodup) : lk k (A ++ (k, v) :: B) = some v ∧ del k (A ++ (k, v) :: B) = A ++ B ∧ ∀ w, setv k w (A ++ (k, v) :: B) = A ++ (k, w) :: B := by
  obtain ⟨hA, hB⟩ := nd_split nd
  refine ⟨?_, ?_, fun w => ?_⟩
  · rw [lk_out hA]
    show (if k = k then some v else lk k B) = some v
    rw [if_pos rfl]
  · rw [del_app, del_out hA]
    show A ++ (List.filter (fun e : Int32 × Int32 => decide (e.1 ≠ k)) ((k, v) :: B)) = A ++ B
    rw [List.filter_cons_of_neg (by simp)]
    show A ++ del k B = A ++ B
    rw [del_out hB]
  · rw [setv_app, setv_out hA]
    show A ++ (if k = k then (k, w) else (k, v)) :: setv k w B = A ++ (k, w) :: B
    rw [if_pos rfl, setv_out hB]
/-- the entries that stand in slots -/
abbrev kv (K V : Nat → Int32) (R : List Nat) : List (Int32 × Int32) := R.map (fun x => (K x, V x))
theorem ks_kv (K V : Nat → Int32) (R : List Nat) : ks_ (kv K V R) = R.map K := by
  simp [ks_, kv]
theorem kv_upd {K V : Nat → Int32} {R : List Nat} {x : Nat} {w : Int32} (h : x ∉ R) : kv K (upd V x w) R = kv K V R :=
  List.map_congr_left (fun y hy => by rw [pk_un (fun z => h (by rw [← z]; exact hy))])
theorem kv_updK {K V : Nat → Int32} {R : List Nat} {x : Nat} {w : Int32} (h : x ∉ R) : kv (upd K x w) V R = kv K V R :=
  List.map_congr_left (fun y hy => by rw [pk_un (fun z => h (by rw [← z]; exact hy))])
/-- the entry of a slot x among R -/
theorem kv_split {K V : Nat → Int32} {l1 l2 : List Nat} {x : Nat} (nd : ((l1 ++ x :: l2).map K).Nodup) : lk (K x) (kv K V (l1 ++ x :: l2)) = some (V x) ∧ del (K x) (kv K V (l1 ++ x :: l2)) = kv K V (l1 ++ l2) ∧ ∀ w, setv (K x) w (kv K V (l1 ++ x :: l2)) = kv K (upd V x w) (l1 ++ x :: l2) := by
  have e : ∀ V : Nat → Int32, kv K V (l1 ++ x :: l2) = kv K V l1 ++ (K x, V x) :: kv K V l2 := fun V => by simp [kv]
  have nx : x ∉ l1 ∧ x ∉ l2 := by
    have h : (l1.map K ++ K x :: l2.map K).Nodup := by simpa using nd
    obtain ⟨_, h2, h3⟩ := List.nodup_append.mp h
    exact ⟨fun z => h3 (K x) (List.mem_map_of_mem z) (K x) (List.mem_cons_self ..) rfl, fun z => (List.nodup_cons.mp h2).1 (List.mem_map_of_mem z)⟩
  have nd' : (ks_ (kv K V l1 ++ (K x, V x) :: kv K V l2)).Nodup := by rw [← e, ks_kv]; exact nd
  obtain ⟨a, b, c⟩ := lk_split nd'
  rw [e]
  refine ⟨a, by rw [b]; simp [kv], fun w => ?_⟩
  rw [c, e, kv_upd nx.1, kv_upd nx.2, pk_us]
/-- the slot of a key among R, 0 says none -/
def sl (K : Nat → Int32) (k : Int32) (R : List Nat) : Nat := (R.find? (fun x => K x == k)).getD 0
theorem sl_cases (K : Nat → Int32) (k : Int32) (R : List Nat) : (sl K k R = 0 ∧ k ∉ R.map K) ∨ (sl K k R ∈ R ∧ K (sl K k R) = k) := by
  unfold sl
  cases h : R.find? (fun x => K x == k) with
  | none =>
    refine Or.inl ⟨rfl, fun z => ?_⟩
    obtain ⟨x, hx, e⟩ := List.mem_map.mp z
    have := List.find?_eq_none.mp h x hx
    exact this (by simp [e])
  | some x =>
    refine Or.inr ⟨List.mem_of_find?_eq_some h, ?_⟩
    have := List.find?_some h
    simpa using this
end
section
-- The state of a Table, pure: numbers and slots (TA), the ring (TN), the chains (TH)
/-- the mixed key -/
def mx (k : Int32) : Int32 := (k ^^^ (k.toUInt32 >>> ((16 : Int32).toUInt32 &&& Int32.toUInt32 31)).toInt32) * (-1640531527)
def mxx (k : Int32) : Int32 := mx k ^^^ ((mx k).toUInt32 >>> ((16 : Int32).toUInt32 &&& Int32.toUInt32 31)).toInt32
/-- the head of a key's chain among n = 2 ^ t heads -/
def hof (n : Nat) (k : Int32) : Nat := (mxx k).toBitVec.toNat % n
theorem hof_lt {n : Nat} (h : 0 < n) (k : Int32) : hof n k < n := Nat.mod_lt _ h
theorem hof_and {n t : Nat} (e : n = 2 ^ t) (ht : t ≤ 30) (k : Int32) : mxx k &&& (nI n - 1) = nI (hof n k) := by
  have h1 : 0 < n := by rw [e]; exact Nat.two_pow_pos t
  have h2 : n < 2 ^ 31 := by rw [e]; exact Nat.pow_lt_pow_right (by decide) (by omega)
  have h3 : nI n - 1 = nI (n - 1) := by
    have := nI_pred (n - 1)
    rwa [Nat.sub_add_cancel h1] at this
  rw [h3]
  unfold hof
  rw [e]
  refine pk_and (mxx k) t ?_
  rw [pk_tn (by rw [← e]; omega)]
def TA (n j m : Nat) (R Fr : List Nat) : Prop := (n = 2 ^ (4 + j) ∧ j ≤ 7) ∧ m < n ∧ (R ++ Fr).Nodup ∧ (∀ x, x ∈ R ++ Fr ↔ 1 ≤ x ∧ x ≤ m) ∧ R.length + Fr.length = m
def TN (P N : Nat → Int32) (R : List Nat) : Prop := sg N (N 0) R 0 ∧ sg P (P 0) R.reverse 0
def TH (n : Nat) (K G C : Nat → Int32) (fl : Int32) (R Fr : List Nat) (bl : Nat → List Nat) : Prop := sg C fl Fr 0 ∧ ∀ h, h < n → sg C (G h) (bl h) 0 ∧ (bl h).Perm (R.filter (fun x => decide (hof n (K x) = h)))
theorem ta_n {n j m : Nat} {R Fr : List Nat} (h : TA n j m R Fr) : 16 ≤ n ∧ n ≤ 2048 := by
  obtain ⟨⟨e, hj⟩, _⟩ := h
  have h1 : 2 ^ 4 ≤ 2 ^ (4 + j) := Nat.pow_le_pow_right (by decide) (by omega)
  have h2 : 2 ^ (4 + j) ≤ 2 ^ 11 := Nat.pow_le_pow_right (by decide) (by omega)
  omega
theorem ta_in {n j m : Nat} {R Fr : List Nat} (h : TA n j m R Fr) {x : Nat} (hx : x ∈ R) : 1 ≤ x ∧ x ≤ m ∧ x < n := by
  have h1 := (h.2.2.2.1 x).mp (List.mem_append_left _ hx)
  have h2 := h.2.1
  omega
theorem ta_inF {n j m : Nat} {R Fr : List Nat} (h : TA n j m R Fr) {x : Nat} (hx : x ∈ Fr) : 1 ≤ x ∧ x ≤ m ∧ x < n := by
  have h1 := (h.2.2.2.1 x).mp (List.mem_append_right _ hx)
  have h2 := h.2.1
  omega
theorem ta_nd {n j m : Nat} {R Fr : List Nat} (h : TA n j m R Fr) : R.Nodup := (List.nodup_append.mp h.2.2.1).1
theorem ta_nd0 {n j m : Nat} {R Fr : List Nat} (h : TA n j m R Fr) : (0 :: R).Nodup := List.nodup_cons.mpr ⟨fun z => absurd (ta_in h z).1 (by omega), ta_nd h⟩
theorem ta_hd {n j m : Nat} {R Fr l1 l2 : List Nat} (h : TA n j m R Fr) (e : R = l1 ++ l2) : hd_ 0 l2 < n := by
  have h1 := ta_n h
  have h2 := hd_mem 0 l2
  rcases List.mem_cons.mp h2 with h3 | h3
  · omega
  · exact (ta_in h (x := hd_ 0 l2) (by rw [e]; exact List.mem_append_right _ h3)).2.2
theorem ta_ls {n j m : Nat} {R Fr l1 l2 : List Nat} (h : TA n j m R Fr) (e : R = l1 ++ l2) : ls_ 0 l1 < n := by
  have h1 := ta_n h
  have h2 := ls_mem 0 l1
  rcases List.mem_cons.mp h2 with h3 | h3
  · omega
  · exact (ta_in h (x := ls_ 0 l1) (by rw [e]; exact List.mem_append_left _ h3)).2.2
theorem ta_perm {n j m : Nat} {R R' Fr : List Nat} (h : TA n j m R Fr) (p : R'.Perm R) : TA n j m R' Fr := by
  obtain ⟨a, b, c, d, e⟩ := h
  have pp : (R' ++ Fr).Perm (R ++ Fr) := p.append_right Fr
  exact ⟨a, b, pp.nodup_iff.mpr c, fun x => pp.mem_iff.trans (d x), by rw [p.length_eq]; exact e⟩
theorem th_perm {n : Nat} {K G C : Nat → Int32} {fl : Int32} {R R' Fr : List Nat} {bl : Nat → List Nat} (h : TH n K G C fl R Fr bl) (p : R'.Perm R) : TH n K G C fl R' Fr bl :=
  ⟨h.1, fun z hz => ⟨(h.2 z hz).1, (h.2 z hz).2.trans (p.filter _).symm⟩⟩
/-- a slot of R is taken out of the ring -/
theorem tn_cut {P N : Nat → Int32} {l1 l2 : List Nat} {x : Nat} (nd : (0 :: (l1 ++ x :: l2)).Nodup) (h : TN P N (l1 ++ x :: l2)) : P x = nI (ls_ 0 l1) ∧ N x = nI (hd_ 0 l2) ∧ TN (upd P (hd_ 0 l2) (nI (ls_ 0 l1))) (upd N (ls_ 0 l1) (nI (hd_ 0 l2))) (l1 ++ l2) := by
  obtain ⟨hN, hP⟩ := h
  have e1 : N x = nI (hd_ 0 l2) := sg_hd0 (sg_app.mp hN).2
  have er : (l1 ++ x :: l2).reverse = l2.reverse ++ x :: l1.reverse := by simp
  rw [er] at hP
  have e2 : P x = nI (ls_ 0 l1) := by
    have := sg_hd0 (sg_app.mp hP).2
    rwa [hd_rev] at this
  have ndr : (0 :: (l2.reverse ++ x :: l1.reverse)).Nodup := by
    have h1 := List.nodup_cons.mp nd
    rw [← er]
    exact List.nodup_cons.mpr ⟨fun z => h1.1 (List.mem_reverse.mp z), (List.reverse_perm _).nodup_iff.mpr h1.2⟩
  have a := sg_cut nd hN
  have b := sg_cut ndr hP
  rw [e1] at a
  rw [e2, ls_rev] at b
  refine ⟨e2, e1, a, ?_⟩
  have er2 : (l1 ++ l2).reverse = l2.reverse ++ l1.reverse := by simp
  rw [er2]
  exact b
/-- a slot comes last in the ring -/
theorem tn_add {P N : Nat → Int32} {R : List Nat} {i : Nat} (nd : (0 :: R).Nodup) (hi : i ∉ 0 :: R) (h : TN P N R) : P 0 = nI (ls_ 0 R) ∧ TN (upd (upd P i (nI (ls_ 0 R))) 0 (nI i)) (upd (upd N (ls_ 0 R) (nI i)) i 0) (R ++ [i]) := by
  have e : P 0 = nI (ls_ 0 R) := by
    have := sg_hd0 h.2
    rwa [hd_rev] at this
  have h0 : i ≠ 0 := fun z => hi (by rw [z]; exact List.mem_cons_self ..)
  have hR : i ∉ R := fun z => hi (List.mem_cons_of_mem _ z)
  have h0R : 0 ∉ R := (List.nodup_cons.mp nd).1
  refine ⟨e, sg_snoc nd hi h.1, ?_⟩
  have er : (R ++ [i]).reverse = i :: R.reverse := by simp
  rw [er]
  refine ⟨pk_us, ?_⟩
  rw [pk_un h0, pk_us]
  refine sg_upd (fun z => h0R (List.mem_reverse.mp z)) (sg_upd (fun z => hR (List.mem_reverse.mp z)) ?_)
  rw [← e]
  exact h.2
/-- a chain gets a new first slot -/
def blA (bl : Nat → List Nat) (h0 i : Nat) : Nat → List Nat := fun h => if h = h0 then i :: bl h else bl h
theorem blA_s {bl : Nat → List Nat} {h0 i : Nat} : blA bl h0 i h0 = i :: bl h0 := if_pos rfl
theorem blA_n {bl : Nat → List Nat} {h0 i h : Nat} (c : h ≠ h0) : blA bl h0 i h = bl h := if_neg c
theorem th_add {n : Nat} {K G C : Nat → Int32} {fl k : Int32} {R Fr : List Nat} {bl : Nat → List Nat} {i : Nat} (hiR : i ∉ R) (hiF : i ∉ Fr) (h : TH n K G C fl R Fr bl) : TH n (upd K i k) (upd G (hof n k) (nI i)) (upd C i (G (hof n k))) fl (R ++ [i]) Fr (blA bl (hof n k) i) := by
  refine ⟨sg_upd hiF h.1, fun z hz => ?_⟩
  obtain ⟨h1, h2⟩ := h.2 z hz
  have hib : i ∉ bl z := fun y => hiR (List.mem_filter.mp (h2.mem_iff.mp y)).1
  have ef : R.filter (fun x => decide (hof n (upd K i k x) = z)) = R.filter (fun x => decide (hof n (K x) = z)) :=
    List.filter_congr (fun x hx => by rw [pk_un (fun e => hiR (by rw [← e]; exact hx))])
  rw [List.filter_append, ef]
  by_cases c : z = hof n k
  · have e1 : List.filter (fun x => decide (hof n (upd K i k x) = z)) [i] = [i] := List.filter_eq_self.mpr (fun a ha => by
      have : a = i := by simpa using ha
      rw [this, pk_us]
      exact decide_eq_true c.symm)
    rw [e1]
    have e2 : blA bl (hof n k) i z = i :: bl z := by rw [c]; exact blA_s
    rw [e2]
    refine ⟨⟨?_, ?_⟩, (List.Perm.cons i h2).trans (List.perm_append_singleton i _).symm⟩
    · rw [c]; exact pk_us
    · rw [pk_us, ← c]; exact sg_upd hib h1
  · have e1 : List.filter (fun x => decide (hof n (upd K i k x) = z)) [i] = [] := List.filter_eq_nil_iff.mpr (fun a ha => by
      have : a = i := by simpa using ha
      rw [this, pk_us]
      simp
      exact fun q => c q.symm)
    rw [e1, List.append_nil, blA_n c, pk_un c]
    exact ⟨sg_upd hib h1, h2⟩
theorem th_bl {n : Nat} {K G C : Nat → Int32} {fl : Int32} {R Fr : List Nat} {bl : Nat → List Nat} (h : TH n K G C fl R Fr bl) {z : Nat} (hz : z < n) {x : Nat} : x ∈ bl z ↔ x ∈ R ∧ hof n (K x) = z := by
  rw [(h.2 z hz).2.mem_iff, List.mem_filter]
  simp
theorem th_len {n : Nat} {K G C : Nat → Int32} {fl : Int32} {R Fr : List Nat} {bl : Nat → List Nat} (h : TH n K G C fl R Fr bl) {z : Nat} (hz : z < n) : (bl z).length ≤ R.length := by
  rw [(h.2 z hz).2.length_eq]
  exact List.length_filter_le ..
theorem th_nd {n : Nat} {K G C : Nat → Int32} {fl : Int32} {R Fr : List Nat} {bl : Nat → List Nat} (h : TH n K G C fl R Fr bl) (nd : R.Nodup) {z : Nat} (hz : z < n) : (bl z).Nodup :=
  (h.2 z hz).2.nodup_iff.mpr (nd.sublist List.filter_sublist)
/-- what unhook makes of heads and chains -/
def cG (G C : Nat → Int32) (h0 x : Nat) : List Nat → Nat → Int32
  | [] => upd G h0 (C x)
  | _ :: _ => G
def cC (C : Nat → Int32) (x : Nat) : List Nat → Nat → Int32
  | [] => C
  | y :: t => upd C (ls_ y t) (C x)
def blD (bl : Nat → List Nat) (h0 : Nat) (l : List Nat) : Nat → List Nat := fun h => if h = h0 then l else bl h
theorem cC_out {C : Nat → Int32} {x z : Nat} {c1 : List Nat} (h : z ∉ c1) : cC C x c1 z = C z := by
  cases c1 with
  | nil => rfl
  | cons y t => exact pk_un (fun e => h (by rw [e]; exact ls_mem y t))
theorem th_del {n : Nat} {K G C : Nat → Int32} {fl : Int32} {l1 l2 Fr c1 c2 : List Nat} {bl : Nat → List Nat} {x : Nat} (hn : 0 < n) (nd : ((l1 ++ x :: l2) ++ Fr).Nodup) (h : TH n K G C fl (l1 ++ x :: l2) Fr bl) (hc : bl (hof n (K x)) = c1 ++ x :: c2) :
    TH n K (cG G C (hof n (K x)) x c1) (upd (cC C x c1) x fl) (nI x) (l1 ++ l2) (x :: Fr) (blD bl (hof n (K x)) (c1 ++ c2)) := by
  have hz0 : hof n (K x) < n := hof_lt hn _
  have ndR : (l1 ++ x :: l2).Nodup := (List.nodup_append.mp nd).1
  have dis : ∀ y, y ∈ l1 ++ x :: l2 → y ∉ Fr := fun y h1 h2 => (List.nodup_append.mp nd).2.2 y h1 y h2 rfl
  have hxR : x ∈ l1 ++ x :: l2 := List.mem_append_right _ (List.mem_cons_self ..)
  have ndc : (c1 ++ x :: c2).Nodup := by rw [← hc]; exact th_nd h ndR hz0
  have hcR : ∀ y, y ∈ c1 ++ x :: c2 → y ∈ l1 ++ x :: l2 ∧ hof n (K y) = hof n (K x) := fun y hy => (th_bl h hz0).mp (by rw [hc]; exact hy)
  obtain ⟨q1, q2, q3⟩ := List.nodup_append.mp ndc
  have hx1 : x ∉ c1 := fun z => q3 x z x (List.mem_cons_self ..) rfl
  have hx2 : x ∉ c2 := (List.nodup_cons.mp q2).1
  refine ⟨⟨rfl, ?_⟩, fun z hz => ?_⟩
  · rw [pk_us]
    refine sg_upd (dis x hxR) (sg_cong (fun y hy => cC_out (fun q => ?_)) h.1)
    exact dis y (hcR y (List.mem_append_left _ q)).1 hy
  obtain ⟨h1, h2⟩ := h.2 z hz
  by_cases c : z = hof n (K x)
  · have e1 : blD bl (hof n (K x)) (c1 ++ c2) z = c1 ++ c2 := if_pos c
    rw [e1]
    rw [c, hc] at h1
    rw [c, hc] at h2
    refine ⟨sg_upd (fun q => ?_) ?_, ?_⟩
    · rcases List.mem_append.mp q with q | q
      · exact hx1 q
      · exact hx2 q
    · rw [c]
      cases c1 with
      | nil =>
        show sg C (upd G _ (C x) _) c2 0
        rw [pk_us]
        exact h1.2
      | cons y t =>
        have h3 := sg_cut (f := C) (s := y) (x := x) (l1 := t) (l2 := c2) (e := 0) ndc h1.2
        exact ⟨h1.1, h3⟩
    · have e2 : (l1 ++ x :: l2).filter (fun y => decide (hof n (K y) = hof n (K x))) = l1.filter (fun y => decide (hof n (K y) = hof n (K x))) ++ x :: l2.filter (fun y => decide (hof n (K y) = hof n (K x))) := by
        rw [List.filter_append, List.filter_cons_of_pos (by simp)]
      rw [e2] at h2
      rw [c, List.filter_append]
      exact ((List.perm_middle.symm.trans h2).trans List.perm_middle).cons_inv
  · have e1 : blD bl (hof n (K x)) (c1 ++ c2) z = bl z := if_neg c
    rw [e1]
    have hout : ∀ y, y ∈ bl z → y ∉ c1 ++ x :: c2 := fun y hy q => c (((th_bl h hz).mp hy).2.symm.trans (hcR y q).2)
    refine ⟨?_, ?_⟩
    · have e3 : cG G C (hof n (K x)) x c1 z = G z := by
        cases c1 with
        | nil => exact pk_un c
        | cons y t => rfl
      rw [e3]
      refine sg_upd (fun q => hout x q (List.mem_append_right _ (List.mem_cons_self ..))) (sg_cong (fun y hy => cC_out (fun q => hout y hy (List.mem_append_left _ q))) h1)
    · have e2 : (l1 ++ x :: l2).filter (fun y => decide (hof n (K y) = z)) = l1.filter (fun y => decide (hof n (K y) = z)) ++ l2.filter (fun y => decide (hof n (K y) = z)) := by
        rw [List.filter_append, List.filter_cons_of_neg (by simp; exact fun q => c q.symm)]
      rw [e2] at h2
      rw [List.filter_append]
      exact h2
/-- keys apart: one slot a key -/
theorem nd_inj {K : Nat → Int32} {R : List Nat} (nd : (R.map K).Nodup) {x y : Nat} (hx : x ∈ R) (hy : y ∈ R) (e : K x = K y) : x = y := by
  induction R with
  | nil => exact absurd hx List.not_mem_nil
  | cons z R ih =>
    have h := List.nodup_cons.mp nd
    rcases List.mem_cons.mp hx with h1 | h1
    · rcases List.mem_cons.mp hy with h2 | h2
      · rw [h1, h2]
      · exact absurd (List.mem_map_of_mem (f := K) h2) (by rw [← e, h1]; exact h.1)
    · rcases List.mem_cons.mp hy with h2 | h2
      · exact absurd (List.mem_map_of_mem (f := K) h1) (by rw [e, h2]; exact h.1)
      · exact ih h.2 h1 h2
theorem sl_eq {K : Nat → Int32} {k : Int32} {R : List Nat} (nd : (R.map K).Nodup) {x : Nat} (hx : x ∈ R) (e : K x = k) : sl K k R = x := by
  rcases sl_cases K k R with h | h
  · exact absurd (List.mem_map.mpr ⟨x, hx, e⟩) h.2
  · exact nd_inj nd h.1 hx (h.2.trans e.symm)
theorem sl_none {K : Nat → Int32} {k : Int32} {R : List Nat} (h : k ∉ R.map K) : sl K k R = 0 := by
  rcases sl_cases K k R with q | q
  · exact q.1
  · exact absurd (List.mem_map.mpr ⟨_, q.1, q.2⟩) h
/-- freeSlot, drop, insert: the slots -/
theorem ta_del {n j m : Nat} {l1 l2 Fr : List Nat} {x : Nat} (h : TA n j m (l1 ++ x :: l2) Fr) : TA n j m (l1 ++ l2) (x :: Fr) := by
  obtain ⟨a, b, c, d, e⟩ := h
  have p : ((l1 ++ l2) ++ x :: Fr).Perm ((l1 ++ x :: l2) ++ Fr) := by
    refine List.perm_middle.trans ?_
    refine List.Perm.trans ?_ (List.Perm.append_right Fr List.perm_middle.symm)
    exact List.Perm.refl _
  refine ⟨a, b, p.nodup_iff.mpr c, fun y => p.mem_iff.trans (d y), ?_⟩
  simp only [List.length_append, List.length_cons] at e ⊢
  omega
theorem ta_take {n j m : Nat} {R Fr : List Nat} {x : Nat} (h : TA n j m R (x :: Fr)) : TA n j m (R ++ [x]) Fr := by
  obtain ⟨a, b, c, d, e⟩ := h
  have p : (R ++ [x]) ++ Fr = R ++ x :: Fr := by simp
  refine ⟨a, b, by rw [p]; exact c, fun y => by rw [p]; exact d y, ?_⟩
  simp only [List.length_append, List.length_cons, List.length_nil] at e ⊢
  omega
theorem ta_make {n j m : Nat} {R : List Nat} (h : TA n j m R []) (hm : m + 1 < n) : TA n j (m + 1) (R ++ [m + 1]) [] := by
  obtain ⟨a, b, c, d, e⟩ := h
  rw [List.append_nil] at c d
  refine ⟨a, hm, ?_, fun y => ?_, ?_⟩
  · rw [List.append_nil]
    refine List.nodup_append.mpr ⟨c, by simp, fun y hy z hz q => ?_⟩
    have h1 := (d y).mp hy
    have h2 : z = m + 1 := by simpa using hz
    omega
  · rw [List.append_nil]
    constructor
    · intro hy
      rcases List.mem_append.mp hy with hy | hy
      · have := (d y).mp hy
        omega
      · have h2 : y = m + 1 := by simpa using hy
        omega
    · intro hy
      by_cases q : y = m + 1
      · rw [q]; exact List.mem_append_right _ (by simp)
      · exact List.mem_append_left _ ((d y).mpr (by omega))
  · simp only [List.length_append, List.length_cons, List.length_nil] at e ⊢
    omega
theorem ta_grow {n j m : Nat} {R Fr : List Nat} (h : TA n j m R Fr) (hl : R.length + 1 = n) (hj : j < 7) : Fr = [] ∧ m = R.length ∧ TA (2 * n) (j + 1) m R [] := by
  obtain ⟨⟨a1, a2⟩, b, c, d, e⟩ := h
  have h1 : Fr = [] := List.eq_nil_of_length_eq_zero (by omega)
  subst h1
  refine ⟨rfl, by simp at e; omega, ⟨by rw [a1]; rw [← Nat.add_assoc, Nat.pow_succ]; omega, by omega⟩, by omega, c, d, e⟩
/-- all slots hooked anew -/
def blR (n : Nat) (K : Nat → Int32) (s : Nat) : Nat → List Nat := fun h => ((List.range' 1 s).reverse).filter (fun x => decide (hof n (K x) = h))
end
section
-- Table, the leaves: printed by wip/whole/gen/tb1.py
/-- a Table: its object and its six rows -/
abbrev tx (cI : ClassId) (a : Nat) (mv ct : Int32) (qk qv qb qf qh qc n : Nat) (K V P N G C : Nat → Int32) (fl lm : Int32) : va_W := [(a, .inr (0, [.int mv, .int ct, .ref qk, .ref qv, .ref qb, .ref qf, .ref qh, .ref qc, .int fl, .int lm])), (qk, .inl (cI, n, .inl K)), (qv, .inl (cI, n, .inl V)), (qb, .inl (cI, n, .inl P)), (qf, .inl (cI, n, .inl N)), (qh, .inl (cI, n, .inl G)), (qc, .inl (cI, n, .inl C))]
set_option maxRecDepth 100000 in
set_option maxHeartbeats 4000000 in
/-- unlink(i): the neighbours of i are tied -/
theorem c_tb_unlink (l : Launch) (D : va_G) (cI cT cP : ClassId) (a : Nat) (mv ct : Int32) (qk qv qb qf qh qc n : Nat) (K V P N G C : Nat → Int32) (fl lm : Int32) (hn : n < 2 ^ 31) (i b h : Nat) (hi : i < n) (hbn : b < n) (hhn : h < n) (eb : P i = nI b) (eh : N i = nI h) (hib : i ≠ b) : Cg l y_tb_unlink b_tb_unlink 2 (none) 0 0 0 D (ty3 cI cT cP) [.ref a, .int (nI i)] (tx cI a mv ct qk qv qb qf qh qc n K V P N G C fl lm) (fun (v : Option Value) (u : Unit) => v = none) (fun u => tx cI a mv ct qk qv qb qf qh qc n K V (upd P h (nI b)) (upd N b (nI h)) G C fl lm) := by
  refine cg_enter rfl (Nat.le_of_ble_eq_true rfl) ?_
  intro p e s m below meth c args hx hb hr hlk hml hown hin hts A hA hK hP hD hS ls hl Q hQ
  have hl : lv_has ls 2 [(0, .ref a), (1, .int (nI i))] := hl
  have hP : va_P D cls (tx cI a mv ct qk qv qb qf qh qc n K V P N G C fl lm) s.heap := hP
  have hD : va_D A (tx cI a mv ct qk qv qb qf qh qc n K V P N G C fl lm) := hD
  refine lv_aload_n hx hb d_tb_unlink_0 rfl (lv_at hl 0 rfl) ?_
  refine va_get (D := D) (ci := 0) (v := .ref qf) (C := R_tb) (T := F_tb) (N := 10) hx hb hts i_tb hown hK hP 0 rfl rfl 5 (by decide) (hts _ kf_tb_25) (fun _ h9 => h9) rfl d_tb_unlink_1 ?_
  refine lv_aload_n hx hb d_tb_unlink_4 rfl (lv_at hl 0 rfl) ?_
  refine va_get (D := D) (ci := 0) (v := .ref qb) (C := R_tb) (T := F_tb) (N := 10) hx hb hts i_tb hown hK hP 0 rfl rfl 4 (by decide) (hts _ kf_tb_22) (fun _ h9 => h9) rfl d_tb_unlink_5 ?_
  refine lv_iload_n hx hb d_tb_unlink_8 rfl (lv_at hl 1 rfl) ?_
  refine wa_ld (k := i) hx hb hK hP 3 0 rfl rfl hi hn d_tb_unlink_9 ?_
  refine tp_i (y := nI b) eb ?_
  refine lv_aload_n hx hb d_tb_unlink_10 rfl (lv_at hl 0 rfl) ?_
  refine va_get (D := D) (ci := 0) (v := .ref qf) (C := R_tb) (T := F_tb) (N := 10) hx hb hts i_tb hown hK hP 0 rfl rfl 5 (by decide) (hts _ kf_tb_25) (fun _ h9 => h9) rfl d_tb_unlink_11 ?_
  refine lv_iload_n hx hb d_tb_unlink_14 rfl (lv_at hl 1 rfl) ?_
  refine wa_ld (k := i) hx hb hK hP 4 0 rfl rfl hi hn d_tb_unlink_15 ?_
  refine tp_i (y := nI h) eh ?_
  refine wa_st (k := b) (x := (nI h)) hx hb hK hP hD hS 4 0 rfl rfl hbn hn d_tb_unlink_16 (fun H locs hP hD hS => ?_)
  have hP : va_P D cls (tx cI a mv ct qk qv qb qf qh qc n K V P (upd N b (nI h)) G C fl lm) H := hP
  have hD : va_D A (tx cI a mv ct qk qv qb qf qh qc n K V P (upd N b (nI h)) G C fl lm) := hD
  refine lv_aload_n hx hb d_tb_unlink_17 rfl (lv_at hl 0 rfl) ?_
  refine va_get (D := D) (ci := 0) (v := .ref qb) (C := R_tb) (T := F_tb) (N := 10) hx hb hts i_tb hown hK hP 0 rfl rfl 4 (by decide) (hts _ kf_tb_22) (fun _ h9 => h9) rfl d_tb_unlink_18 ?_
  refine lv_aload_n hx hb d_tb_unlink_21 rfl (lv_at hl 0 rfl) ?_
  refine va_get (D := D) (ci := 0) (v := .ref qf) (C := R_tb) (T := F_tb) (N := 10) hx hb hts i_tb hown hK hP 0 rfl rfl 5 (by decide) (hts _ kf_tb_25) (fun _ h9 => h9) rfl d_tb_unlink_22 ?_
  refine lv_iload_n hx hb d_tb_unlink_25 rfl (lv_at hl 1 rfl) ?_
  refine wa_ld (k := i) hx hb hK hP 4 0 rfl rfl hi hn d_tb_unlink_26 ?_
  refine tp_i (y := nI h) ((pk_un hib).trans eh) ?_
  refine lv_aload_n hx hb d_tb_unlink_27 rfl (lv_at hl 0 rfl) ?_
  refine va_get (D := D) (ci := 0) (v := .ref qb) (C := R_tb) (T := F_tb) (N := 10) hx hb hts i_tb hown hK hP 0 rfl rfl 4 (by decide) (hts _ kf_tb_22) (fun _ h9 => h9) rfl d_tb_unlink_28 ?_
  refine lv_iload_n hx hb d_tb_unlink_31 rfl (lv_at hl 1 rfl) ?_
  refine wa_ld (k := i) hx hb hK hP 3 0 rfl rfl hi hn d_tb_unlink_32 ?_
  refine tp_i (y := nI b) eb ?_
  refine wa_st (k := h) (x := (nI b)) hx hb hK hP hD hS 3 0 rfl rfl hhn hn d_tb_unlink_33 (fun H locs hP hD hS => ?_)
  have hP : va_P D cls (tx cI a mv ct qk qv qb qf qh qc n K V (upd P h (nI b)) (upd N b (nI h)) G C fl lm) H := hP
  have hD : va_D A (tx cI a mv ct qk qv qb qf qh qc n K V (upd P h (nI b)) (upd N b (nI h)) G C fl lm) := hD
  exact cg_vret (u := ()) hQ hx hb hr hlk hK hP hD hS rfl d_tb_unlink_34
set_option maxRecDepth 100000 in
set_option maxHeartbeats 4000000 in
/-- linkLast(i): i comes behind the last one -/
theorem c_tb_linkLast (l : Launch) (D : va_G) (cI cT cP : ClassId) (a : Nat) (mv ct : Int32) (qk qv qb qf qh qc n : Nat) (K V P N G C : Nat → Int32) (fl lm : Int32) (hn : n < 2 ^ 31) (i b : Nat) (hi : i < n) (hbn : b < n) (eb : P 0 = nI b) : Cg l y_tb_linkLast b_tb_linkLast 3 (none) 0 0 0 D (ty3 cI cT cP) [.ref a, .int (nI i)] (tx cI a mv ct qk qv qb qf qh qc n K V P N G C fl lm) (fun (v : Option Value) (u : Unit) => v = none) (fun u => tx cI a mv ct qk qv qb qf qh qc n K V (upd (upd P i (nI b)) 0 (nI i)) (upd (upd N b (nI i)) i 0) G C fl lm) := by
  refine cg_enter rfl (Nat.le_of_ble_eq_true rfl) ?_
  intro p e s m below meth c args hx hb hr hlk hml hown hin hts A hA hK hP hD hS ls hl Q hQ
  have hl : lv_has ls 3 [(0, .ref a), (1, .int (nI i))] := hl
  have hP : va_P D cls (tx cI a mv ct qk qv qb qf qh qc n K V P N G C fl lm) s.heap := hP
  have hD : va_D A (tx cI a mv ct qk qv qb qf qh qc n K V P N G C fl lm) := hD
  refine lv_aload_n hx hb d_tb_linkLast_0 rfl (lv_at hl 0 rfl) ?_
  refine va_get (D := D) (ci := 0) (v := .ref qb) (C := R_tb) (T := F_tb) (N := 10) hx hb hts i_tb hown hK hP 0 rfl rfl 4 (by decide) (hts _ kf_tb_22) (fun _ h9 => h9) rfl d_tb_linkLast_1 ?_
  refine lv_iconst (v := 0) hx hb d_tb_linkLast_4 (by decide) ?_
  refine wa_ld (k := 0) hx hb hK hP 3 0 rfl rfl (Nat.lt_of_le_of_lt (Nat.zero_le i) hi) hn d_tb_linkLast_5 ?_
  refine tp_i (y := nI b) eb ?_
  refine lv_istore_n (lv' := [(2, .int (nI b)), (0, .ref a), (1, .int (nI i))]) hx hb d_tb_linkLast_6 rfl hl (by decide) rfl (fun ls hl => ?_)
  refine lv_aload_n hx hb d_tb_linkLast_7 rfl (lv_at hl 1 rfl) ?_
  refine va_get (D := D) (ci := 0) (v := .ref qf) (C := R_tb) (T := F_tb) (N := 10) hx hb hts i_tb hown hK hP 0 rfl rfl 5 (by decide) (hts _ kf_tb_25) (fun _ h9 => h9) rfl d_tb_linkLast_8 ?_
  refine lv_iload_n hx hb d_tb_linkLast_11 rfl (lv_at hl 0 rfl) ?_
  refine lv_iload_n hx hb d_tb_linkLast_12 rfl (lv_at hl 2 rfl) ?_
  refine wa_st (k := b) (x := (nI i)) hx hb hK hP hD hS 4 0 rfl rfl hbn hn d_tb_linkLast_13 (fun H locs hP hD hS => ?_)
  have hP : va_P D cls (tx cI a mv ct qk qv qb qf qh qc n K V P (upd N b (nI i)) G C fl lm) H := hP
  have hD : va_D A (tx cI a mv ct qk qv qb qf qh qc n K V P (upd N b (nI i)) G C fl lm) := hD
  refine lv_aload_n hx hb d_tb_linkLast_14 rfl (lv_at hl 1 rfl) ?_
  refine va_get (D := D) (ci := 0) (v := .ref qb) (C := R_tb) (T := F_tb) (N := 10) hx hb hts i_tb hown hK hP 0 rfl rfl 4 (by decide) (hts _ kf_tb_22) (fun _ h9 => h9) rfl d_tb_linkLast_15 ?_
  refine lv_iload_n hx hb d_tb_linkLast_18 rfl (lv_at hl 2 rfl) ?_
  refine lv_iload_n hx hb d_tb_linkLast_19 rfl (lv_at hl 0 rfl) ?_
  refine wa_st (k := i) (x := (nI b)) hx hb hK hP hD hS 3 0 rfl rfl hi hn d_tb_linkLast_20 (fun H locs hP hD hS => ?_)
  have hP : va_P D cls (tx cI a mv ct qk qv qb qf qh qc n K V (upd P i (nI b)) (upd N b (nI i)) G C fl lm) H := hP
  have hD : va_D A (tx cI a mv ct qk qv qb qf qh qc n K V (upd P i (nI b)) (upd N b (nI i)) G C fl lm) := hD
  refine lv_aload_n hx hb d_tb_linkLast_21 rfl (lv_at hl 1 rfl) ?_
  refine va_get (D := D) (ci := 0) (v := .ref qf) (C := R_tb) (T := F_tb) (N := 10) hx hb hts i_tb hown hK hP 0 rfl rfl 5 (by decide) (hts _ kf_tb_25) (fun _ h9 => h9) rfl d_tb_linkLast_22 ?_
  refine lv_iload_n hx hb d_tb_linkLast_25 rfl (lv_at hl 2 rfl) ?_
  refine lv_iconst (v := 0) hx hb d_tb_linkLast_26 (by decide) ?_
  refine wa_st (k := i) (x := 0) hx hb hK hP hD hS 4 0 rfl rfl hi hn d_tb_linkLast_27 (fun H locs hP hD hS => ?_)
  have hP : va_P D cls (tx cI a mv ct qk qv qb qf qh qc n K V (upd P i (nI b)) (upd (upd N b (nI i)) i 0) G C fl lm) H := hP
  have hD : va_D A (tx cI a mv ct qk qv qb qf qh qc n K V (upd P i (nI b)) (upd (upd N b (nI i)) i 0) G C fl lm) := hD
  refine lv_aload_n hx hb d_tb_linkLast_28 rfl (lv_at hl 1 rfl) ?_
  refine va_get (D := D) (ci := 0) (v := .ref qb) (C := R_tb) (T := F_tb) (N := 10) hx hb hts i_tb hown hK hP 0 rfl rfl 4 (by decide) (hts _ kf_tb_22) (fun _ h9 => h9) rfl d_tb_linkLast_29 ?_
  refine lv_iconst (v := 0) hx hb d_tb_linkLast_32 (by decide) ?_
  refine lv_iload_n hx hb d_tb_linkLast_33 rfl (lv_at hl 2 rfl) ?_
  refine wa_st (k := 0) (x := (nI i)) hx hb hK hP hD hS 3 0 rfl rfl (Nat.lt_of_le_of_lt (Nat.zero_le i) hi) hn d_tb_linkLast_34 (fun H locs hP hD hS => ?_)
  have hP : va_P D cls (tx cI a mv ct qk qv qb qf qh qc n K V (upd (upd P i (nI b)) 0 (nI i)) (upd (upd N b (nI i)) i 0) G C fl lm) H := hP
  have hD : va_D A (tx cI a mv ct qk qv qb qf qh qc n K V (upd (upd P i (nI b)) 0 (nI i)) (upd (upd N b (nI i)) i 0) G C fl lm) := hD
  exact cg_vret (u := ()) hQ hx hb hr hlk hK hP hD hS rfl d_tb_linkLast_35
set_option maxRecDepth 100000 in
set_option maxHeartbeats 4000000 in
/-- headOf(k) -/
theorem c_tb_headOf (l : Launch) (D : va_G) (cI cT cP : ClassId) (a : Nat) (mv ct : Int32) (qk qv qb qf qh qc n : Nat) (K V P N G C : Nat → Int32) (fl lm : Int32) (hn : n < 2 ^ 31) (t : Nat) (et : n = 2 ^ t) (ht : t ≤ 30) (k : Int32) : Cg l y_tb_headOf b_tb_headOf 3 (some .int) 0 0 0 D (ty3 cI cT cP) [.ref a, .int k] (tx cI a mv ct qk qv qb qf qh qc n K V P N G C fl lm) (fun (v : Option Value) (u : Unit) => v = some (.int (nI (hof n k)))) (fun u => tx cI a mv ct qk qv qb qf qh qc n K V P N G C fl lm) := by
  refine cg_enter rfl (Nat.le_of_ble_eq_true rfl) ?_
  intro p e s m below meth c args hx hb hr hlk hml hown hin hts A hA hK hP hD hS ls hl Q hQ
  have hl : lv_has ls 3 [(0, .ref a), (1, .int k)] := hl
  have hP : va_P D cls (tx cI a mv ct qk qv qb qf qh qc n K V P N G C fl lm) s.heap := hP
  have hD : va_D A (tx cI a mv ct qk qv qb qf qh qc n K V P N G C fl lm) := hD
  refine lv_iload_n hx hb d_tb_headOf_0 rfl (lv_at hl 1 rfl) ?_
  refine lv_iload_n hx hb d_tb_headOf_1 rfl (lv_at hl 1 rfl) ?_
  refine lv_bipush (v := 16) hx hb d_tb_headOf_2 (by decide) ?_
  refine lv_iushr (v := ((k).toUInt32 >>> ((16 : Int32).toUInt32 &&& Int32.toUInt32 31)).toInt32) hx hb d_tb_headOf_4 rfl ?_
  refine lv_ixor hx hb d_tb_headOf_5 ?_
  refine lv_ldc hx hb hown (hts _ kk_tb_90) d_tb_headOf_6 ?_
  refine lv_imul hx hb d_tb_headOf_8 ?_
  refine tp_i (y := mx k) rfl ?_
  refine lv_istore_n (lv' := [(2, .int (mx k)), (0, .ref a), (1, .int k)]) hx hb d_tb_headOf_9 rfl hl (by decide) rfl (fun ls hl => ?_)
  refine lv_iload_n hx hb d_tb_headOf_10 rfl (lv_at hl 0 rfl) ?_
  refine lv_iload_n hx hb d_tb_headOf_11 rfl (lv_at hl 0 rfl) ?_
  refine lv_bipush (v := 16) hx hb d_tb_headOf_12 (by decide) ?_
  refine lv_iushr (v := (((mx k)).toUInt32 >>> ((16 : Int32).toUInt32 &&& Int32.toUInt32 31)).toInt32) hx hb d_tb_headOf_14 rfl ?_
  refine lv_ixor hx hb d_tb_headOf_15 ?_
  refine tp_i (y := mxx k) rfl ?_
  refine lv_aload_n hx hb d_tb_headOf_16 rfl (lv_at hl 1 rfl) ?_
  refine va_get (D := D) (ci := 0) (v := .ref qh) (C := R_tb) (T := F_tb) (N := 10) hx hb hts i_tb hown hK hP 0 rfl rfl 6 (by decide) (hts _ kf_tb_28) (fun _ h9 => h9) rfl d_tb_headOf_17 ?_
  refine va_alen (v := nI n) hx hb hK hP 5 0 rfl rfl rfl d_tb_headOf_20 ?_
  refine lv_iconst (v := 1) hx hb d_tb_headOf_21 (by decide) ?_
  refine lv_isub hx hb d_tb_headOf_22 ?_
  refine lv_iand hx hb d_tb_headOf_23 ?_
  refine tp_i (y := nI (hof n k)) (hof_and et ht k) ?_
  exact cg_iret (u := ()) hQ hx hb hr hlk hK hP hD hS rfl d_tb_headOf_24
set_option maxRecDepth 100000 in
set_option maxHeartbeats 4000000 in
/-- hook(i): i comes first in the chain of its key -/
theorem c_tb_hook (l : Launch) (D : va_G) (cI cT cP : ClassId) (a : Nat) (mv ct : Int32) (qk qv qb qf qh qc n : Nat) (K V P N G C : Nat → Int32) (fl lm : Int32) (hn : n < 2 ^ 31) (t : Nat) (et : n = 2 ^ t) (ht : t ≤ 30) (i : Nat) (hi : i < n) : Cg l y_tb_hook b_tb_hook 3 (none) 1 0 0 D (ty3 cI cT cP) [.ref a, .int (nI i)] (tx cI a mv ct qk qv qb qf qh qc n K V P N G C fl lm) (fun (v : Option Value) (u : Unit) => v = none) (fun u => tx cI a mv ct qk qv qb qf qh qc n K V P N (upd G (hof n (K i)) (nI i)) (upd C i (G (hof n (K i)))) fl lm) := by
  refine cg_enter rfl (Nat.le_of_ble_eq_true rfl) ?_
  intro p e s m below meth c args hx hb hr hlk hml hown hin hts A hA hK hP hD hS ls hl Q hQ
  have hl : lv_has ls 3 [(0, .ref a), (1, .int (nI i))] := hl
  have hP : va_P D cls (tx cI a mv ct qk qv qb qf qh qc n K V P N G C fl lm) s.heap := hP
  have hD : va_D A (tx cI a mv ct qk qv qb qf qh qc n K V P N G C fl lm) := hD
  have hz : hof n (K i) < n := hof_lt (by omega) _
  refine lv_aload_n hx hb d_tb_hook_0 rfl (lv_at hl 0 rfl) ?_
  refine lv_aload_n hx hb d_tb_hook_1 rfl (lv_at hl 0 rfl) ?_
  refine va_get (D := D) (ci := 0) (v := .ref qk) (C := R_tb) (T := F_tb) (N := 10) hx hb hts i_tb hown hK hP 0 rfl rfl 2 (by decide) (hts _ kf_tb_15) (fun _ h9 => h9) rfl d_tb_hook_2 ?_
  refine lv_iload_n hx hb d_tb_hook_5 rfl (lv_at hl 1 rfl) ?_
  refine wa_ld (k := i) hx hb hK hP 1 0 rfl rfl hi hn d_tb_hook_6 ?_
  refine cg_V (hn := 1) (As := [.int (K i)]) (rest := []) (wr := []) (q0 := 0) (ci := 0) hx hb hml hown hts (c_tb_headOf l D cI cT cP a mv ct qk qv qb qf qh qc n K V P N G C fl lm hn t et ht (K i)) km_tb_87 ki_tb_headOf ks_tb_headOf kn_tb kc_tb_headOf (by decide +kernel) rfl ⟨Nat.le_of_ble_eq_true rfl, Nat.le_of_ble_eq_true rfl⟩ hK hP hD hS hA [0, 1, 2, 3, 4, 5, 6] [] rfl (by decide) rfl (by decide) (by decide) rfl rfl hl.1 rfl (Nat.le_of_ble_eq_true rfl) d_tb_hook_7 ⟨Nat.le_refl _, Nat.le_refl _⟩ (fun v u H locs hpost hP hD hS => ?_)
  subst hpost
  refine W.eq (g2 := F0 m 10 ls [.int (nI (hof n (K i)))]) rfl ?_
  have hP : va_P D cls (tx cI a mv ct qk qv qb qf qh qc n K V P N G C fl lm) H := hP
  have hD : va_D A (tx cI a mv ct qk qv qb qf qh qc n K V P N G C fl lm) := hD
  refine lv_istore_n (lv' := [(2, .int (nI (hof n (K i)))), (0, .ref a), (1, .int (nI i))]) hx hb d_tb_hook_10 rfl hl (by decide) rfl (fun ls hl => ?_)
  refine lv_aload_n hx hb d_tb_hook_11 rfl (lv_at hl 1 rfl) ?_
  refine va_get (D := D) (ci := 0) (v := .ref qc) (C := R_tb) (T := F_tb) (N := 10) hx hb hts i_tb hown hK hP 0 rfl rfl 7 (by decide) (hts _ kf_tb_31) (fun _ h9 => h9) rfl d_tb_hook_12 ?_
  refine lv_iload_n hx hb d_tb_hook_15 rfl (lv_at hl 2 rfl) ?_
  refine lv_aload_n hx hb d_tb_hook_16 rfl (lv_at hl 1 rfl) ?_
  refine va_get (D := D) (ci := 0) (v := .ref qh) (C := R_tb) (T := F_tb) (N := 10) hx hb hts i_tb hown hK hP 0 rfl rfl 6 (by decide) (hts _ kf_tb_28) (fun _ h9 => h9) rfl d_tb_hook_17 ?_
  refine lv_iload_n hx hb d_tb_hook_20 rfl (lv_at hl 0 rfl) ?_
  refine wa_ld (k := hof n (K i)) hx hb hK hP 5 0 rfl rfl hz hn d_tb_hook_21 ?_
  refine wa_st (k := i) (x := (G (hof n (K i)))) hx hb hK hP hD hS 6 0 rfl rfl hi hn d_tb_hook_22 (fun H locs hP hD hS => ?_)
  have hP : va_P D cls (tx cI a mv ct qk qv qb qf qh qc n K V P N G (upd C i (G (hof n (K i)))) fl lm) H := hP
  have hD : va_D A (tx cI a mv ct qk qv qb qf qh qc n K V P N G (upd C i (G (hof n (K i)))) fl lm) := hD
  refine lv_aload_n hx hb d_tb_hook_23 rfl (lv_at hl 1 rfl) ?_
  refine va_get (D := D) (ci := 0) (v := .ref qh) (C := R_tb) (T := F_tb) (N := 10) hx hb hts i_tb hown hK hP 0 rfl rfl 6 (by decide) (hts _ kf_tb_28) (fun _ h9 => h9) rfl d_tb_hook_24 ?_
  refine lv_iload_n hx hb d_tb_hook_27 rfl (lv_at hl 0 rfl) ?_
  refine lv_iload_n hx hb d_tb_hook_28 rfl (lv_at hl 2 rfl) ?_
  refine wa_st (k := hof n (K i)) (x := (nI i)) hx hb hK hP hD hS 5 0 rfl rfl hz hn d_tb_hook_29 (fun H locs hP hD hS => ?_)
  have hP : va_P D cls (tx cI a mv ct qk qv qb qf qh qc n K V P N (upd G (hof n (K i)) (nI i)) (upd C i (G (hof n (K i)))) fl lm) H := hP
  have hD : va_D A (tx cI a mv ct qk qv qb qf qh qc n K V P N (upd G (hof n (K i)) (nI i)) (upd C i (G (hof n (K i)))) fl lm) := hD
  exact cg_vret (u := ()) hQ hx hb hr hlk hK hP hD hS rfl d_tb_hook_30
set_option maxRecDepth 100000 in
set_option maxHeartbeats 4000000 in
/-- freeSlot(), a slot was left -/
theorem c_tb_freeSlot (l : Launch) (D : va_G) (cI cT cP : ClassId) (a : Nat) (mv ct : Int32) (qk qv qb qf qh qc n : Nat) (K V P N G C : Nat → Int32) (lm : Int32) (hn : n < 2 ^ 31) (i : Nat) (hi : i < n) (h0 : 0 < i) : Cg l y_tb_freeSlot b_tb_freeSlot 2 (some .int) 0 0 0 D (ty3 cI cT cP) [.ref a] (tx cI a mv ct qk qv qb qf qh qc n K V P N G C (nI i) lm) (fun (v : Option Value) (u : Unit) => v = some (.int (nI i))) (fun u => tx cI a mv ct qk qv qb qf qh qc n K V P N G C (C i) lm) := by
  refine cg_enter rfl (Nat.le_of_ble_eq_true rfl) ?_
  intro p e s m below meth c args hx hb hr hlk hml hown hin hts A hA hK hP hD hS ls hl Q hQ
  have hl : lv_has ls 2 [(0, .ref a)] := hl
  have hP : va_P D cls (tx cI a mv ct qk qv qb qf qh qc n K V P N G C (nI i) lm) s.heap := hP
  have hD : va_D A (tx cI a mv ct qk qv qb qf qh qc n K V P N G C (nI i) lm) := hD
  refine lv_aload_n hx hb d_tb_freeSlot_0 rfl (lv_at hl 0 rfl) ?_
  refine va_get (D := D) (ci := 0) (v := .int (nI i)) (C := R_tb) (T := F_tb) (N := 10) hx hb hts i_tb hown hK hP 0 rfl rfl 8 (by decide) (hts _ kf_tb_75) (fun _ h9 => h9) rfl d_tb_freeSlot_1 ?_
  refine lv_if_eq (tgt := 24) hx hb d_tb_freeSlot_4 (by decide) (fun z9 => absurd z9 (nI_ne0 h0 (by omega))) (fun _ => ?_)
  refine lv_aload_n hx hb d_tb_freeSlot_7 rfl (lv_at hl 0 rfl) ?_
  refine va_get (D := D) (ci := 0) (v := .int (nI i)) (C := R_tb) (T := F_tb) (N := 10) hx hb hts i_tb hown hK hP 0 rfl rfl 8 (by decide) (hts _ kf_tb_75) (fun _ h9 => h9) rfl d_tb_freeSlot_8 ?_
  refine lv_istore_n (lv' := [(1, .int (nI i)), (0, .ref a)]) hx hb d_tb_freeSlot_11 rfl hl (by decide) rfl (fun ls hl => ?_)
  refine lv_aload_n hx hb d_tb_freeSlot_12 rfl (lv_at hl 1 rfl) ?_
  refine lv_aload_n hx hb d_tb_freeSlot_13 rfl (lv_at hl 1 rfl) ?_
  refine va_get (D := D) (ci := 0) (v := .ref qc) (C := R_tb) (T := F_tb) (N := 10) hx hb hts i_tb hown hK hP 0 rfl rfl 7 (by decide) (hts _ kf_tb_31) (fun _ h9 => h9) rfl d_tb_freeSlot_14 ?_
  refine lv_iload_n hx hb d_tb_freeSlot_17 rfl (lv_at hl 0 rfl) ?_
  refine wa_ld (k := i) hx hb hK hP 6 0 rfl rfl hi hn d_tb_freeSlot_18 ?_
  refine va_put (D := D) (ci := 0) (v := .int (C i)) (ty := .int) (C := R_tb) (T := F_tb) (N := 10) hx hb hts i_tb t_tb t_tb_ok n_tb hown hK hP hD hS 0 rfl rfl 8 (by decide) (hts _ kf_tb_75) (fun _ h9 => h9) rfl (by decide +kernel) rfl rfl (Nat.le_of_ble_eq_true rfl) d_tb_freeSlot_19 (fun H locs hP hD hS => ?_)
  have hP : va_P D cls (tx cI a mv ct qk qv qb qf qh qc n K V P N G C (C i) lm) H := hP
  have hD : va_D A (tx cI a mv ct qk qv qb qf qh qc n K V P N G C (C i) lm) := hD
  refine lv_iload_n hx hb d_tb_freeSlot_22 rfl (lv_at hl 0 rfl) ?_
  exact cg_iret (u := ()) hQ hx hb hr hlk hK hP hD hS rfl d_tb_freeSlot_23
set_option maxRecDepth 100000 in
set_option maxHeartbeats 4000000 in
/-- freeSlot(), none was left: a new one is made -/
theorem c_tb_freeSlot_n (l : Launch) (D : va_G) (cI cT cP : ClassId) (a : Nat) (mv ct : Int32) (qk qv qb qf qh qc n : Nat) (K V P N G C : Nat → Int32)  (hn : n < 2 ^ 31) (i : Nat) : Cg l y_tb_freeSlot b_tb_freeSlot 2 (some .int) 0 0 0 D (ty3 cI cT cP) [.ref a] (tx cI a mv ct qk qv qb qf qh qc n K V P N G C 0 (nI i)) (fun (v : Option Value) (u : Unit) => v = some (.int (nI (i + 1)))) (fun u => tx cI a mv ct qk qv qb qf qh qc n K V P N G C 0 (nI (i + 1))) := by
  refine cg_enter rfl (Nat.le_of_ble_eq_true rfl) ?_
  intro p e s m below meth c args hx hb hr hlk hml hown hin hts A hA hK hP hD hS ls hl Q hQ
  have hl : lv_has ls 2 [(0, .ref a)] := hl
  have hP : va_P D cls (tx cI a mv ct qk qv qb qf qh qc n K V P N G C 0 (nI i)) s.heap := hP
  have hD : va_D A (tx cI a mv ct qk qv qb qf qh qc n K V P N G C 0 (nI i)) := hD
  refine lv_aload_n hx hb d_tb_freeSlot_0 rfl (lv_at hl 0 rfl) ?_
  refine va_get (D := D) (ci := 0) (v := .int 0) (C := R_tb) (T := F_tb) (N := 10) hx hb hts i_tb hown hK hP 0 rfl rfl 8 (by decide) (hts _ kf_tb_75) (fun _ h9 => h9) rfl d_tb_freeSlot_1 ?_
  refine lv_if_eq (tgt := 24) hx hb d_tb_freeSlot_4 (by decide) (fun _ => ?_) (fun z9 => absurd rfl z9)
  refine lv_aload_n hx hb d_tb_freeSlot_24 rfl (lv_at hl 0 rfl) ?_
  refine lv_dup hx hb d_tb_freeSlot_25 rfl ?_
  refine va_get (D := D) (ci := 0) (v := .int (nI i)) (C := R_tb) (T := F_tb) (N := 10) hx hb hts i_tb hown hK hP 0 rfl rfl 9 (by decide) (hts _ kf_tb_78) (fun _ h9 => h9) rfl d_tb_freeSlot_26 ?_
  refine lv_iconst (v := 1) hx hb d_tb_freeSlot_29 (by decide) ?_
  refine lv_iadd hx hb d_tb_freeSlot_30 ?_
  refine tp_i (y := nI (i + 1)) (nI_1 i) ?_
  refine va_put (D := D) (ci := 0) (v := .int (nI (i + 1))) (ty := .int) (C := R_tb) (T := F_tb) (N := 10) hx hb hts i_tb t_tb t_tb_ok n_tb hown hK hP hD hS 0 rfl rfl 9 (by decide) (hts _ kf_tb_78) (fun _ h9 => h9) rfl (by decide +kernel) rfl rfl (Nat.le_of_ble_eq_true rfl) d_tb_freeSlot_31 (fun H locs hP hD hS => ?_)
  have hP : va_P D cls (tx cI a mv ct qk qv qb qf qh qc n K V P N G C 0 (nI (i + 1))) H := hP
  have hD : va_D A (tx cI a mv ct qk qv qb qf qh qc n K V P N G C 0 (nI (i + 1))) := hD
  refine lv_aload_n hx hb d_tb_freeSlot_34 rfl (lv_at hl 0 rfl) ?_
  refine va_get (D := D) (ci := 0) (v := .int (nI (i + 1))) (C := R_tb) (T := F_tb) (N := 10) hx hb hts i_tb hown hK hP 0 rfl rfl 9 (by decide) (hts _ kf_tb_78) (fun _ h9 => h9) rfl d_tb_freeSlot_35 ?_
  exact cg_iret (u := ()) hQ hx hb hr hlk hK hP hD hS rfl d_tb_freeSlot_38
end
section
-- The JDK's own methods: printed by wip/whole/gen/jk.py
/-- the first n of f, zeros behind them -/
abbrev cpy (n : Nat) (f : Nat → Int32) : Nat → Int32 := va_cpy f (fun _ => 0) 0 0 n
set_option maxRecDepth 100000 in
set_option maxHeartbeats 4000000 in
/-- Arrays.copyOf of a longer length -/
theorem c_ja_copyOf (l : Launch) (D : va_G) (cI cT cP : ClassId) (q n n2 : Nat) (f : Nat → Int32) (h1 : n < n2) (h2 : n2 ≤ 4096) : Cg l y_ja_copyOf b_ja_copyOf 3 (some (.array .int)) 1 1 n2 D (ty3 cI cT cP) [.ref q, .int (nI n2)] ([(q, .inl (cI, n, .inl f))]) (fun (v : Option Value) (u : Nat) => v = some (.ref u)) (fun u => [(q, .inl (cI, n, .inl f)), (u, .inl (cI, n2, .inl (cpy n f)))]) := by
  refine cg_enter rfl (Nat.le_of_ble_eq_true rfl) ?_
  intro p e s m below meth c args hx hb hr hlk hml hown hin hts A hA hK hP hD hS ls hl Q hQ
  have hl : lv_has ls 3 [(0, .ref q), (1, .int (nI n2))] := hl
  have hP : va_P D cls ([(q, .inl (cI, n, .inl f))]) s.heap := hP
  have hD : va_D A ([(q, .inl (cI, n, .inl f))]) := hD
  refine lv_iload_n hx hb d_ja_copyOf_0 rfl (lv_at hl 1 rfl) ?_
  refine lv_aload_n hx hb d_ja_copyOf_1 rfl (lv_at hl 0 rfl) ?_
  refine va_alen (v := nI n) hx hb hK hP 0 0 rfl rfl rfl d_ja_copyOf_2 ?_
  refine lv_icmp_ne (tgt := 14) hx hb d_ja_copyOf_3 (by decide) (fun _ => ?_) (fun z9 => absurd z9 (fun z9 => absurd ((nI_eq (by omega) (by omega)).mp z9) (by omega)))
  refine lv_iload_n hx hb d_ja_copyOf_14 rfl (lv_at hl 1 rfl) ?_
  refine wa_new (k := n2) hx hb hts hK hP hD hS hA (by omega) (by show _ ≤ 1; omega) (by show _ ≤ n2; omega) d_ja_copyOf_15 (fun q2 H hP hD hS => ?_)
  have hP : va_P D cls ([(q, .inl (cI, n, .inl f)), (q2, .inl (cI, n2, .inl (fun _ => 0)))]) H := hP
  have hD : va_D A ([(q, .inl (cI, n, .inl f)), (q2, .inl (cI, n2, .inl (fun _ => 0)))]) := hD
  refine lv_astore_n (lv' := [(2, .ref q2), (0, .ref q), (1, .int (nI n2))]) hx hb d_ja_copyOf_17 rfl hl (by decide) rfl (fun ls hl => ?_)
  refine lv_aload_n hx hb d_ja_copyOf_18 rfl (lv_at hl 1 rfl) ?_
  refine lv_iconst (v := 0) hx hb d_ja_copyOf_19 (by decide) ?_
  refine lv_aload_n hx hb d_ja_copyOf_20 rfl (lv_at hl 0 rfl) ?_
  refine lv_iconst (v := 0) hx hb d_ja_copyOf_21 (by decide) ?_
  refine lv_aload_n hx hb d_ja_copyOf_22 rfl (lv_at hl 1 rfl) ?_
  refine va_alen (v := nI n) hx hb hK hP 0 0 rfl rfl rfl d_ja_copyOf_23 ?_
  refine lv_iload_n hx hb d_ja_copyOf_24 rfl (lv_at hl 2 rfl) ?_
  refine wa_min (z := nI n) hx hb hml hl.1 hown hts km_ja_304 (Nat.le_of_ble_eq_true rfl) (Nat.le_of_ble_eq_true rfl) (by show _ ≤ 1; omega) (by show _ ≤ n2; omega) (if_neg (nI_nlt (by omega) (by omega))) d_ja_copyOf_25 ?_
  refine wa_cpy (n := n) (dp := 0) (sp := 0) hx hb hml hl.1 hown hts km_ja_150 hK hP hD hS 0 1 0 rfl rfl rfl (by omega) (by omega) (by omega) (by omega) (Nat.le_of_ble_eq_true rfl) (Nat.le_of_ble_eq_true rfl) d_ja_copyOf_28 (fun H locs hP hD hS => ?_)
  have hP : va_P D cls ([(q, .inl (cI, n, .inl f)), (q2, .inl (cI, n2, .inl (va_cpy f (fun _ => 0) 0 0 n)))]) H := hP
  have hD : va_D A ([(q, .inl (cI, n, .inl f)), (q2, .inl (cI, n2, .inl (va_cpy f (fun _ => 0) 0 0 n)))]) := hD
  refine lv_aload_n hx hb d_ja_copyOf_31 rfl (lv_at hl 0 rfl) ?_
  refine W.widen (k := 1) (n := n2) (by omega) (by omega) ?_
  exact cg_aret (u := q2) hQ hx hb hr (Or.inr ⟨_, rfl⟩) (Or.inr ⟨_, rfl⟩) hlk hK hP hD hS rfl d_ja_copyOf_32
set_option maxRecDepth 100000 in
set_option maxHeartbeats 4000000 in
/-- Arrays.fill -/
theorem c_ja_fill (l : Launch) (D : va_G) (cI cT cP : ClassId) (q n : Nat) (f : Nat → Int32) (x : Int32) (hn : n < 2 ^ 31) : Cg l y_ja_fill b_ja_fill 4 (none) 0 0 0 D (ty3 cI cT cP) [.ref q, .int x] ([(q, .inl (cI, n, .inl f))]) (fun (v : Option Value) (u : Nat → Int32) => v = none ∧ ∀ i, i < n → u i = x) (fun u => [(q, .inl (cI, n, .inl u))]) := by
  refine cg_enter rfl (Nat.le_of_ble_eq_true rfl) ?_
  intro p e s m below meth c args hx hb hr hlk hml hown hin hts A hA hK hP hD hS ls hl Q hQ
  have hl : lv_has ls 4 [(0, .ref q), (1, .int x)] := hl
  have hP : va_P D cls ([(q, .inl (cI, n, .inl f))]) s.heap := hP
  have hD : va_D A ([(q, .inl (cI, n, .inl f))]) := hD
  refine lv_iconst (v := 0) hx hb d_ja_fill_0 (by decide) ?_
  refine lv_istore_n (lv' := [(2, .int 0), (0, .ref q), (1, .int x)]) hx hb d_ja_fill_1 rfl hl (by decide) rfl (fun ls hl => ?_)
  refine lv_aload_n hx hb d_ja_fill_2 rfl (lv_at hl 1 rfl) ?_
  refine va_alen (v := nI n) hx hb hK hP 0 0 rfl rfl rfl d_ja_fill_3 ?_
  refine lv_istore_n (lv' := [(3, .int (nI n)), (2, .int 0), (0, .ref q), (1, .int x)]) hx hb d_ja_fill_4 rfl hl (by decide) rfl (fun ls hl => ?_)
  have loop : ∀ (k i : Nat) (f : Nat → Int32), i + k = n → (∀ y, y < i → f y = x) → ∀ (H : Heap) (locs : List Loc), va_P D cls ([(q, .inl (cI, n, .inl f))]) H → va_D A ([(q, .inl (cI, n, .inl f))]) → va_S A s.heap H locs → ∀ ls : Array Slot, lv_has ls 4 [(0, .ref q), (1, .int x), (2, .int (nI i)), (3, .int (nI n))] → W p l e (rmL 0 0 0) s m args below meth c H locs 0 0 Q (F0 m 5 ls []) := by
    intro k
    induction k with
    | zero =>
      intro i f hi hf H locs hP hD hS ls hl
      refine lv_iload_n hx hb d_ja_fill_5 rfl (lv_at hl 2 rfl) ?_
      refine lv_iload_n hx hb d_ja_fill_6 rfl (lv_at hl 3 rfl) ?_
      refine lv_icmp_ge (tgt := 20) hx hb d_ja_fill_7 (by decide) (fun _ => ?_) (fun z9 => absurd (nI_le (by omega) (by omega)) z9)
      exact cg_vret (u := f) hQ hx hb hr hlk hK hP hD hS (⟨rfl, fun y hy => hf y (by omega)⟩) d_ja_fill_20
    | succ k ih =>
      intro i f hi hf H locs hP hD hS ls hl
      refine lv_iload_n hx hb d_ja_fill_5 rfl (lv_at hl 2 rfl) ?_
      refine lv_iload_n hx hb d_ja_fill_6 rfl (lv_at hl 3 rfl) ?_
      refine lv_icmp_ge (tgt := 20) hx hb d_ja_fill_7 (by decide) (fun z9 => absurd z9 (nI_ge (by omega) hn)) (fun _ => ?_)
      refine lv_aload_n hx hb d_ja_fill_10 rfl (lv_at hl 0 rfl) ?_
      refine lv_iload_n hx hb d_ja_fill_11 rfl (lv_at hl 2 rfl) ?_
      refine lv_iload_n hx hb d_ja_fill_12 rfl (lv_at hl 1 rfl) ?_
      refine wa_st (k := i) (x := x) hx hb hK hP hD hS 0 0 rfl rfl (by omega) hn d_ja_fill_13 (fun H locs hP hD hS => ?_)
      have hP : va_P D cls ([(q, .inl (cI, n, .inl (upd f i x)))]) H := hP
      have hD : va_D A ([(q, .inl (cI, n, .inl (upd f i x)))]) := hD
      refine lv_iinc (v := nI (i + 1)) (lv' := [(2, .int (nI (i + 1))), (0, .ref q), (1, .int x), (3, .int (nI n))]) hx hb d_ja_fill_14 hl (k := 2) rfl (nI_1 i) (by decide) rfl (fun ls hl => ?_)
      refine lv_goto (tgt := 5) hx hb d_ja_fill_17 (by decide) ?_
      exact ih (i + 1) (upd f i x) (by omega) (fun y hy => by
        by_cases h9 : y = i
        · rw [h9]; exact pk_us
        · rw [pk_un h9]; exact hf y (by omega)) _ _ hP hD hS ls (lv_sub hl [1, 2, 0, 3] rfl)
  exact loop n 0 f (by omega) (fun y hy => absurd hy (Nat.not_lt_zero _)) _ _ hP hD hS ls (lv_sub hl [2, 3, 1, 0] rfl)
/-- Math.floorMod -/
def fm (x y : Int32) : Int32 := if 0 ≤ x ^^^ y then x - x / y * y else if x - x / y * y = 0 then x - x / y * y else x - x / y * y + y
set_option maxRecDepth 100000 in
set_option maxHeartbeats 4000000 in
/-- Math.floorMod -/
theorem c_jm_floorMod (l : Launch) (D : va_G) (cI cT cP : ClassId) (x y : Int32) (hy : ¬ y = 0) : Cg l y_jm_floorMod b_jm_floorMod 3 (some .int) 0 0 0 D (ty3 cI cT cP) [.int x, .int y] ([]) (fun (v : Option Value) (u : Unit) => v = some (.int (fm x y))) (fun u => []) := by
  refine cg_enterF (by decide +kernel) (Nat.le_of_ble_eq_true rfl) ?_
  intro p e s m below meth c args hx hb hr hlk hml hown hin hts A hA hK hP hD hS ls hl Q hQ
  have hl : lv_has ls 3 [(0, .int x), (1, .int y)] := hl
  have hP : va_P D cls ([]) s.heap := hP
  have hD : va_D A ([]) := hD
  refine lv_iload_n hx hb d_jm_floorMod_0 rfl (lv_at hl 0 rfl) ?_
  refine lv_iload_n hx hb d_jm_floorMod_1 rfl (lv_at hl 1 rfl) ?_
  refine lv_irem hx hb d_jm_floorMod_2 hy ?_
  refine lv_istore_n (lv' := [(2, .int (x - x / y * y)), (0, .int x), (1, .int y)]) hx hb d_jm_floorMod_3 rfl hl (by decide) rfl (fun ls hl => ?_)
  refine lv_iload_n hx hb d_jm_floorMod_4 rfl (lv_at hl 1 rfl) ?_
  refine lv_iload_n hx hb d_jm_floorMod_5 rfl (lv_at hl 2 rfl) ?_
  refine lv_ixor hx hb d_jm_floorMod_6 ?_
  refine lv_if_ge (tgt := 18) hx hb d_jm_floorMod_7 (by decide) (fun c1 => ?_) (fun c1 => ?_)
  · refine lv_iload_n hx hb d_jm_floorMod_18 rfl (lv_at hl 0 rfl) ?_
    exact cg_iret (u := ()) hQ hx hb hr hlk hK hP hD hS (by unfold fm; simp_all) d_jm_floorMod_19
  · refine lv_iload_n hx hb d_jm_floorMod_10 rfl (lv_at hl 0 rfl) ?_
    refine lv_if_eq (tgt := 18) hx hb d_jm_floorMod_11 (by decide) (fun c2 => ?_) (fun c2 => ?_)
    · refine lv_iload_n hx hb d_jm_floorMod_18 rfl (lv_at hl 0 rfl) ?_
      exact cg_iret (u := ()) hQ hx hb hr hlk hK hP hD hS (by unfold fm; simp_all) d_jm_floorMod_19
    · refine lv_iload_n hx hb d_jm_floorMod_14 rfl (lv_at hl 0 rfl) ?_
      refine lv_iload_n hx hb d_jm_floorMod_15 rfl (lv_at hl 2 rfl) ?_
      refine lv_iadd hx hb d_jm_floorMod_16 ?_
      exact cg_iret (u := ()) hQ hx hb hr hlk hK hP hD hS (by unfold fm; simp_all) d_jm_floorMod_17
end
section
-- Table over its state: printed by wip/whole/gen/tb2.py
theorem inc_l (l : List Nat) (x : Nat) : nI l.length + Int32.ofInt 1 = nI (l ++ [x]).length := by
  rw [List.length_append]
  exact nI_1 _
theorem inc_n (i : Nat) : nI i + Int32.ofInt 1 = nI (i + 1) := nI_1 i
theorem ta_len {n j m : Nat} {R Fr : List Nat} (h : TA n j m R Fr) : R.length < n ∧ R.length < 2 ^ 31 ∧ n < 2 ^ 31 := by
  have h1 := ta_n h
  have h2 := h.2.2.2.2
  have h3 := h.2.1
  omega
set_option maxRecDepth 100000 in
set_option maxHeartbeats 4000000 in
/-- slotOf(k) -/
theorem c_tb_slotOf (l : Launch) (D : va_G) (cI cT cP : ClassId) (a : Nat) (mv : Int32) (qk qv qb qf qh qc n : Nat) (K V P N G C : Nat → Int32) (fl lm : Int32) (j mm : Nat) (R Fr : List Nat) (bl : Nat → List Nat) (hTA : TA n j mm R Fr) (hTH : TH n K G C fl R Fr bl) (hKn : (R.map K).Nodup) (k : Int32) : Cg l y_tb_slotOf b_tb_slotOf 4 (some .int) 1 0 0 D (ty3 cI cT cP) [.ref a, .int k] (tx cI a mv (nI R.length) qk qv qb qf qh qc n K V P N G C fl lm) (fun (v : Option Value) (u : Unit) => v = some (.int (nI (sl K k R)))) (fun u => tx cI a mv (nI R.length) qk qv qb qf qh qc n K V P N G C fl lm) := by
  have hn : n < 2 ^ 31 := (ta_len hTA).2.2
  have hRl : R.length < 2 ^ 31 := (ta_len hTA).2.1
  have et : n = 2 ^ (4 + j) := hTA.1.1
  have ht : 4 + j ≤ 30 := by have := hTA.1.2; omega
  have hz : hof n k < n := hof_lt (by have := ta_n hTA; omega) _
  refine cg_enter rfl (Nat.le_of_ble_eq_true rfl) ?_
  intro p e s m below meth c args hx hb hr hlk hml hown hin hts A hA hK hP hD hS ls hl Q hQ
  have hl : lv_has ls 4 [(0, .ref a), (1, .int k)] := hl
  have hP : va_P D cls (tx cI a mv (nI R.length) qk qv qb qf qh qc n K V P N G C fl lm) s.heap := hP
  have hD : va_D A (tx cI a mv (nI R.length) qk qv qb qf qh qc n K V P N G C fl lm) := hD
  refine lv_aload_n hx hb d_tb_slotOf_0 rfl (lv_at hl 0 rfl) ?_
  refine va_get (D := D) (ci := 0) (v := .ref qh) (C := R_tb) (T := F_tb) (N := 10) hx hb hts i_tb hown hK hP 0 rfl rfl 6 (by decide) (hts _ kf_tb_28) (fun _ h9 => h9) rfl d_tb_slotOf_1 ?_
  refine lv_aload_n hx hb d_tb_slotOf_4 rfl (lv_at hl 0 rfl) ?_
  refine lv_iload_n hx hb d_tb_slotOf_5 rfl (lv_at hl 1 rfl) ?_
  refine cg_V (hn := 1) (As := [.int k]) (rest := [.ref qh]) (wr := []) (q0 := 0) (ci := 0) hx hb hml hown hts (c_tb_headOf l D cI cT cP a mv (nI R.length) qk qv qb qf qh qc n K V P N G C fl lm hn (4 + j) et ht k) km_tb_87 ki_tb_headOf ks_tb_headOf kn_tb kc_tb_headOf (by decide +kernel) rfl ⟨Nat.le_of_ble_eq_true rfl, Nat.le_of_ble_eq_true rfl⟩ hK hP hD hS hA [0, 1, 2, 3, 4, 5, 6] [] rfl (by decide) rfl (by decide) (by decide) rfl rfl hl.1 rfl (Nat.le_of_ble_eq_true rfl) d_tb_slotOf_6 ⟨Nat.le_refl _, Nat.le_refl _⟩ (fun v u H locs hpost hP hD hS => ?_)
  subst hpost
  refine W.eq (g2 := F0 m 9 ls [.int (nI (hof n k)), .ref qh]) rfl ?_
  have hP : va_P D cls (tx cI a mv (nI R.length) qk qv qb qf qh qc n K V P N G C fl lm) H := hP
  have hD : va_D A (tx cI a mv (nI R.length) qk qv qb qf qh qc n K V P N G C fl lm) := hD
  refine wa_ld (k := hof n k) hx hb hK hP 5 0 rfl rfl hz hn d_tb_slotOf_9 ?_
  refine tp_i (y := nI (hd_ 0 (bl (hof n k)))) (sg_hd0 (hTH.2 _ hz).1) ?_
  refine lv_istore_n (lv' := [(2, .int (nI (hd_ 0 (bl (hof n k))))), (0, .ref a), (1, .int k)]) hx hb d_tb_slotOf_10 rfl hl (by decide) rfl (fun ls hl => ?_)
  refine lv_iconst (v := 0) hx hb d_tb_slotOf_11 (by decide) ?_
  refine lv_istore_n (lv' := [(3, .int 0), (2, .int (nI (hd_ 0 (bl (hof n k))))), (0, .ref a), (1, .int k)]) hx hb d_tb_slotOf_12 rfl hl (by decide) rfl (fun ls hl => ?_)
  have loop : ∀ (b2 b1 : List Nat), bl (hof n k) = b1 ++ b2 → (∀ y, y ∈ b1 → K y ≠ k) → ∀ ls : Array Slot, lv_has ls 4 [(0, .ref a), (1, .int k), (2, .int (nI (hd_ 0 b2))), (3, .int (nI b1.length))] → W p l e (rmL 1 0 0) s m args below meth c H locs 0 0 Q (F0 m 13 ls []) := by
    intro b2
    induction b2 with
    | nil =>
      intro b1 eb hb1 ls hl
      have e0 : sl K k R = 0 := sl_none (fun z9 => by
        obtain ⟨x, hx1, ex⟩ := List.mem_map.mp z9
        have h1 : x ∈ bl (hof n k) := (th_bl hTH hz).mpr ⟨hx1, by rw [ex]⟩
        rw [eb, List.append_nil] at h1
        exact hb1 x h1 ex)
      have hl : lv_has ls 4 [(0, .ref a), (1, .int k), (2, .int 0), (3, .int (nI b1.length))] := hl
      refine lv_iload_n hx hb d_tb_slotOf_13 rfl (lv_at hl 3 rfl) ?_
      refine lv_aload_n hx hb d_tb_slotOf_14 rfl (lv_at hl 0 rfl) ?_
      refine va_get (D := D) (ci := 0) (v := .int (nI R.length)) (C := R_tb) (T := F_tb) (N := 10) hx hb hts i_tb hown hK hP 0 rfl rfl 1 (by decide) (hts _ kf_tb_52) (fun _ h9 => h9) rfl d_tb_slotOf_15 ?_
      refine lv_icmp_ge (tgt := 50) hx hb d_tb_slotOf_18 (by decide) (fun c1 => ?_) (fun c1 => ?_)
      · refine lv_iconst (v := 0) hx hb d_tb_slotOf_50 (by decide) ?_
        exact cg_iret (u := ()) hQ hx hb hr hlk hK hP hD hS (by rw [e0]; rfl) d_tb_slotOf_51
      · refine lv_iload_n hx hb d_tb_slotOf_21 rfl (lv_at hl 2 rfl) ?_
        refine lv_if_eq (tgt := 50) hx hb d_tb_slotOf_22 (by decide) (fun _ => ?_) (fun z9 => absurd rfl z9)
        refine lv_iconst (v := 0) hx hb d_tb_slotOf_50 (by decide) ?_
        exact cg_iret (u := ()) hQ hx hb hr hlk hK hP hD hS (by rw [e0]; rfl) d_tb_slotOf_51
    | cons x b2 ih =>
      intro b1 eb hb1 ls hl
      have hxR : x ∈ R ∧ hof n (K x) = hof n k := (th_bl hTH hz).mp (by rw [eb]; exact List.mem_append_right _ (List.mem_cons_self ..))
      have hxn := ta_in hTA hxR.1
      have hlt : b1.length < R.length := by
        have h1 := th_len hTH hz
        rw [eb, List.length_append, List.length_cons] at h1
        omega
      have h0 : sg C (G (hof n k)) (b1 ++ x :: b2) 0 := by rw [← eb]; exact (hTH.2 _ hz).1
      have sC : C x = nI (hd_ 0 b2) := sg_hd0 (sg_app.mp h0).2
      have hl : lv_has ls 4 [(0, .ref a), (1, .int k), (2, .int (nI x)), (3, .int (nI b1.length))] := hl
      refine lv_iload_n hx hb d_tb_slotOf_13 rfl (lv_at hl 3 rfl) ?_
      refine lv_aload_n hx hb d_tb_slotOf_14 rfl (lv_at hl 0 rfl) ?_
      refine va_get (D := D) (ci := 0) (v := .int (nI R.length)) (C := R_tb) (T := F_tb) (N := 10) hx hb hts i_tb hown hK hP 0 rfl rfl 1 (by decide) (hts _ kf_tb_52) (fun _ h9 => h9) rfl d_tb_slotOf_15 ?_
      refine lv_icmp_ge (tgt := 50) hx hb d_tb_slotOf_18 (by decide) (fun z9 => absurd z9 (nI_ge hlt hRl)) (fun _ => ?_)
      refine lv_iload_n hx hb d_tb_slotOf_21 rfl (lv_at hl 2 rfl) ?_
      refine lv_if_eq (tgt := 50) hx hb d_tb_slotOf_22 (by decide) (fun z9 => absurd z9 (nI_ne0 hxn.1 (by omega))) (fun _ => ?_)
      refine lv_aload_n hx hb d_tb_slotOf_25 rfl (lv_at hl 0 rfl) ?_
      refine va_get (D := D) (ci := 0) (v := .ref qk) (C := R_tb) (T := F_tb) (N := 10) hx hb hts i_tb hown hK hP 0 rfl rfl 2 (by decide) (hts _ kf_tb_15) (fun _ h9 => h9) rfl d_tb_slotOf_26 ?_
      refine lv_iload_n hx hb d_tb_slotOf_29 rfl (lv_at hl 2 rfl) ?_
      refine wa_ld (k := x) hx hb hK hP 1 0 rfl rfl hxn.2.2 hn d_tb_slotOf_30 ?_
      refine lv_iload_n hx hb d_tb_slotOf_31 rfl (lv_at hl 1 rfl) ?_
      refine lv_icmp_ne (tgt := 37) hx hb d_tb_slotOf_32 (by decide) (fun c1 => ?_) (fun c1 => ?_)
      · refine lv_aload_n hx hb d_tb_slotOf_37 rfl (lv_at hl 0 rfl) ?_
        refine va_get (D := D) (ci := 0) (v := .ref qc) (C := R_tb) (T := F_tb) (N := 10) hx hb hts i_tb hown hK hP 0 rfl rfl 7 (by decide) (hts _ kf_tb_31) (fun _ h9 => h9) rfl d_tb_slotOf_38 ?_
        refine lv_iload_n hx hb d_tb_slotOf_41 rfl (lv_at hl 2 rfl) ?_
        refine wa_ld (k := x) hx hb hK hP 6 0 rfl rfl hxn.2.2 hn d_tb_slotOf_42 ?_
        refine tp_i (y := nI (hd_ 0 b2)) sC ?_
        refine lv_istore_n (lv' := [(2, .int (nI (hd_ 0 b2))), (0, .ref a), (1, .int k), (3, .int (nI b1.length))]) hx hb d_tb_slotOf_43 rfl hl (by decide) rfl (fun ls hl => ?_)
        refine lv_iinc (v := nI (b1 ++ [x]).length) (lv' := [(3, .int (nI (b1 ++ [x]).length)), (2, .int (nI (hd_ 0 b2))), (0, .ref a), (1, .int k)]) hx hb d_tb_slotOf_44 hl (k := 3) rfl (inc_l b1 x) (by decide) rfl (fun ls hl => ?_)
        refine lv_goto (tgt := 13) hx hb d_tb_slotOf_47 (by decide) ?_
        exact ih (b1 ++ [x]) (by rw [eb]; simp) (fun y hy => by
            rcases List.mem_append.mp hy with h1 | h1
            · exact hb1 y h1
            · rw [List.mem_singleton.mp h1]; exact c1) ls (lv_sub hl [2, 3, 1, 0] rfl)
      · refine lv_iload_n hx hb d_tb_slotOf_35 rfl (lv_at hl 2 rfl) ?_
        exact cg_iret (u := ()) hQ hx hb hr hlk hK hP hD hS (by rw [sl_eq hKn hxR.1 c1]) d_tb_slotOf_36
  exact loop _ [] rfl (fun y hy => absurd hy List.not_mem_nil) ls (lv_sub hl [2, 3, 1, 0] rfl)
def mvI (b : Bool) : Int32 := if b then 1 else 0
set_option maxRecDepth 100000 in
set_option maxHeartbeats 4000000 in
/-- use(x) -/
theorem c_tb_use (l : Launch) (D : va_G) (cI cT cP : ClassId) (a : Nat) (mv : Bool) (qk qv qb qf qh qc n : Nat) (K V P N G C : Nat → Int32) (fl lm ct : Int32) (j mm : Nat) (R Fr : List Nat) (hTA : TA n j mm R Fr) (hTN : TN P N R) (hKn : (R.map K).Nodup) (x : Nat) (hxR : x ∈ R) : Cg l y_tb_use b_tb_use 2 (none) 1 0 0 D (ty3 cI cT cP) [.ref a, .int (nI x)] (tx cI a (mvI mv) ct qk qv qb qf qh qc n K V P N G C fl lm) (fun (v : Option Value) (u : (Nat → Int32) × (Nat → Int32)) => v = none ∧ ∃ R', R'.Perm R ∧ TN u.1 u.2 R' ∧ kv K V R' = us mv (K x) (kv K V R)) (fun u => tx cI a (mvI mv) ct qk qv qb qf qh qc n K V u.1 u.2 G C fl lm) := by
  refine cg_enter rfl (Nat.le_of_ble_eq_true rfl) ?_
  intro p e s m below meth c args hx hb hr hlk hml hown hin hts A hA hK hP hD hS ls hl Q hQ
  have hl : lv_has ls 2 [(0, .ref a), (1, .int (nI x))] := hl
  have hP : va_P D cls (tx cI a (mvI mv) ct qk qv qb qf qh qc n K V P N G C fl lm) s.heap := hP
  have hD : va_D A (tx cI a (mvI mv) ct qk qv qb qf qh qc n K V P N G C fl lm) := hD
  have hn : n < 2 ^ 31 := (ta_len hTA).2.2
  cases mv with
  | false =>
    refine lv_aload_n hx hb d_tb_use_0 rfl (lv_at hl 0 rfl) ?_
    refine va_get (D := D) (ci := 0) (v := .int (mvI false)) (C := R_tb) (T := F_tb) (N := 10) hx hb hts i_tb hown hK hP 0 rfl rfl 0 (by decide) (hts _ kf_tb_9) (fun _ h9 => h9) rfl d_tb_use_1 ?_
    refine lv_if_eq (tgt := 17) hx hb d_tb_use_4 (by decide) (fun _ => ?_) (fun z9 => absurd rfl z9)
    exact cg_vret (u := (P, N)) hQ hx hb hr hlk hK hP hD hS (⟨rfl, R, List.Perm.refl R, hTN, rfl⟩) d_tb_use_17
  | true =>
    obtain ⟨l1, l2, eR⟩ := List.append_of_mem hxR
    have nd0 : (0 :: (l1 ++ x :: l2)).Nodup := by rw [← eR]; exact ta_nd0 hTA
    have hb1 : ls_ 0 l1 < n := ta_ls hTA eR
    have hh1 : hd_ 0 l2 < n := ta_hd hTA (l1 := l1 ++ [x]) (by rw [eR]; simp)
    have hTN2 : TN P N (l1 ++ x :: l2) := by rw [← eR]; exact hTN
    obtain ⟨q1, q2, q3⟩ := tn_cut nd0 hTN2
    have nd3 : (0 :: (l1 ++ l2)).Nodup := List.Nodup.sublist (List.Sublist.cons_cons 0 (List.Sublist.append_left (List.sublist_cons_self ..) _)) nd0
    have hx3 : x ∉ 0 :: (l1 ++ l2) := by
      have h1 : (x :: (0 :: (l1 ++ l2))).Nodup := by
        have h2 : (x :: 0 :: (l1 ++ l2)).Perm (0 :: (l1 ++ x :: l2)) := (List.Perm.swap 0 x _).trans (List.Perm.cons 0 List.perm_middle.symm)
        exact h2.nodup_iff.mpr nd0
      exact (List.nodup_cons.mp h1).1
    obtain ⟨q4, q5⟩ := tn_add nd3 hx3 q3
    have hxn := ta_in hTA hxR
    have hg1 : ls_ 0 (l1 ++ l2) < n := by
      have h2 := ls_mem 0 (l1 ++ l2)
      rcases List.mem_cons.mp h2 with h3 | h3
      · omega
      · refine (ta_in hTA (x := ls_ 0 (l1 ++ l2)) ?_).2.2
        rw [eR]
        rcases List.mem_append.mp h3 with h4 | h4
        · exact List.mem_append_left _ h4
        · exact List.mem_append_right _ (List.mem_cons_of_mem _ h4)
    have hxb : x ≠ ls_ 0 l1 := by
      intro z9
      have h1 := ls_mem 0 l1
      rw [← z9] at h1
      refine hx3 ?_
      rcases List.mem_cons.mp h1 with h2 | h2
      · rw [h2]; exact List.mem_cons_self ..
      · exact List.mem_cons_of_mem _ (List.mem_append_left _ h2)
    refine lv_aload_n hx hb d_tb_use_0 rfl (lv_at hl 0 rfl) ?_
    refine va_get (D := D) (ci := 0) (v := .int (mvI true)) (C := R_tb) (T := F_tb) (N := 10) hx hb hts i_tb hown hK hP 0 rfl rfl 0 (by decide) (hts _ kf_tb_9) (fun _ h9 => h9) rfl d_tb_use_1 ?_
    refine lv_if_eq (tgt := 17) hx hb d_tb_use_4 (by decide) (fun z9 => absurd z9 (by decide)) (fun _ => ?_)
    refine lv_aload_n hx hb d_tb_use_7 rfl (lv_at hl 0 rfl) ?_
    refine lv_iload_n hx hb d_tb_use_8 rfl (lv_at hl 1 rfl) ?_
    refine cg_V (hn := 1) (As := [.int (nI x)]) (rest := []) (wr := []) (q0 := 0) (ci := 0) hx hb hml hown hts (c_tb_unlink l D cI cT cP a (mvI true) ct qk qv qb qf qh qc n K V P N G C fl lm hn x (ls_ 0 l1) (hd_ 0 l2) hxn.2.2 hb1 hh1 q1 q2 hxb) km_tb_107 ki_tb_unlink ks_tb_unlink kn_tb kc_tb_unlink (by decide +kernel) rfl ⟨Nat.le_of_ble_eq_true rfl, Nat.le_of_ble_eq_true rfl⟩ hK hP hD hS hA [0, 1, 2, 3, 4, 5, 6] [] rfl (by decide) rfl (by decide) (by decide) rfl rfl hl.1 rfl (Nat.le_of_ble_eq_true rfl) d_tb_use_9 ⟨Nat.le_refl _, Nat.le_refl _⟩ (fun v u H locs hpost hP hD hS => ?_)
    subst hpost
    refine W.eq (g2 := F0 m 12 ls []) rfl ?_
    have hP : va_P D cls (tx cI a (mvI true) ct qk qv qb qf qh qc n K V (upd P (hd_ 0 l2) (nI (ls_ 0 l1))) (upd N (ls_ 0 l1) (nI (hd_ 0 l2))) G C fl lm) H := hP
    have hD : va_D A (tx cI a (mvI true) ct qk qv qb qf qh qc n K V (upd P (hd_ 0 l2) (nI (ls_ 0 l1))) (upd N (ls_ 0 l1) (nI (hd_ 0 l2))) G C fl lm) := hD
    refine lv_aload_n hx hb d_tb_use_12 rfl (lv_at hl 0 rfl) ?_
    refine lv_iload_n hx hb d_tb_use_13 rfl (lv_at hl 1 rfl) ?_
    refine cg_V (hn := 1) (As := [.int (nI x)]) (rest := []) (wr := []) (q0 := 0) (ci := 0) hx hb hml hown hts (c_tb_linkLast l D cI cT cP a (mvI true) ct qk qv qb qf qh qc n K V (upd P (hd_ 0 l2) (nI (ls_ 0 l1))) (upd N (ls_ 0 l1) (nI (hd_ 0 l2))) G C fl lm hn x (ls_ 0 (l1 ++ l2)) hxn.2.2 hg1 q4) km_tb_101 ki_tb_linkLast ks_tb_linkLast kn_tb kc_tb_linkLast (by decide +kernel) rfl ⟨Nat.le_of_ble_eq_true rfl, Nat.le_of_ble_eq_true rfl⟩ hK hP hD hS hA [0, 1, 2, 3, 4, 5, 6] [] rfl (by decide) rfl (by decide) (by decide) rfl rfl hl.1 rfl (Nat.le_of_ble_eq_true rfl) d_tb_use_14 ⟨Nat.le_refl _, Nat.le_refl _⟩ (fun v u H locs hpost hP hD hS => ?_)
    subst hpost
    refine W.eq (g2 := F0 m 17 ls []) rfl ?_
    have hP : va_P D cls (tx cI a (mvI true) ct qk qv qb qf qh qc n K V (upd (upd (upd P (hd_ 0 l2) (nI (ls_ 0 l1))) x (nI (ls_ 0 (l1 ++ l2)))) 0 (nI x)) (upd (upd (upd N (ls_ 0 l1) (nI (hd_ 0 l2))) (ls_ 0 (l1 ++ l2)) (nI x)) x 0) G C fl lm) H := hP
    have hD : va_D A (tx cI a (mvI true) ct qk qv qb qf qh qc n K V (upd (upd (upd P (hd_ 0 l2) (nI (ls_ 0 l1))) x (nI (ls_ 0 (l1 ++ l2)))) 0 (nI x)) (upd (upd (upd N (ls_ 0 l1) (nI (hd_ 0 l2))) (ls_ 0 (l1 ++ l2)) (nI x)) x 0) G C fl lm) := hD
    have hk2 := kv_split (K := K) (V := V) (l1 := l1) (l2 := l2) (x := x) (by rw [← eR]; exact hKn)
    exact cg_vret (u := ((upd (upd (upd P (hd_ 0 l2) (nI (ls_ 0 l1))) x (nI (ls_ 0 (l1 ++ l2)))) 0 (nI x)), (upd (upd (upd N (ls_ 0 l1) (nI (hd_ 0 l2))) (ls_ 0 (l1 ++ l2)) (nI x)) x 0))) hQ hx hb hr hlk hK hP hD hS (⟨rfl, (l1 ++ l2) ++ [x], (by rw [eR]; exact (List.perm_append_singleton x _).trans List.perm_middle.symm), q5, (by rw [eR]; unfold us; rw [hk2.1, hk2.2.1]; simp [kv])⟩) d_tb_use_17
set_option maxRecDepth 100000 in
set_option maxHeartbeats 4000000 in
/-- unhook(x) -/
theorem c_tb_unhook (l : Launch) (D : va_G) (cI cT cP : ClassId) (a : Nat) (mv : Int32) (qk qv qb qf qh qc n : Nat) (K V P N G C : Nat → Int32) (fl lm : Int32) (j mm : Nat) (R Fr : List Nat) (bl : Nat → List Nat) (hTA : TA n j mm R Fr) (hTH : TH n K G C fl R Fr bl) (hKn : (R.map K).Nodup) (x : Nat) (hxR : x ∈ R) (c1 c2 : List Nat) (hc12 : bl (hof n (K x)) = c1 ++ x :: c2) : Cg l y_tb_unhook b_tb_unhook 5 (none) 1 0 0 D (ty3 cI cT cP) [.ref a, .int (nI x)] (tx cI a mv (nI R.length) qk qv qb qf qh qc n K V P N G C fl lm) (fun (v : Option Value) (u : Unit) => v = none) (fun u => tx cI a mv (nI R.length) qk qv qb qf qh qc n K V P N (cG G C (hof n (K x)) x c1) (cC C x c1) fl lm) := by
  have hn : n < 2 ^ 31 := (ta_len hTA).2.2
  have hRl : R.length < 2 ^ 31 := (ta_len hTA).2.1
  have et : n = 2 ^ (4 + j) := hTA.1.1
  have ht : 4 + j ≤ 30 := by have := hTA.1.2; omega
  have hz : hof n (K x) < n := hof_lt (by have := ta_n hTA; omega) _
  have hxn := ta_in hTA hxR
  have hin2 : ∀ y, y ∈ c1 ++ x :: c2 → y ∈ R := fun y hy => ((th_bl hTH hz).mp (by rw [hc12]; exact hy)).1
  have ndc : (c1 ++ x :: c2).Nodup := by rw [← hc12]; exact th_nd hTH (ta_nd hTA) hz
  have h0 : sg C (G (hof n (K x))) (c1 ++ x :: c2) 0 := by rw [← hc12]; exact (hTH.2 _ hz).1
  have hle : (c1 ++ x :: c2).length ≤ R.length := by rw [← hc12]; exact th_len hTH hz
  refine cg_enter rfl (Nat.le_of_ble_eq_true rfl) ?_
  intro p e s m below meth c args hx hb hr hlk hml hown hin hts A hA hK hP hD hS ls hl Q hQ
  have hl : lv_has ls 5 [(0, .ref a), (1, .int (nI x))] := hl
  have hP : va_P D cls (tx cI a mv (nI R.length) qk qv qb qf qh qc n K V P N G C fl lm) s.heap := hP
  have hD : va_D A (tx cI a mv (nI R.length) qk qv qb qf qh qc n K V P N G C fl lm) := hD
  refine lv_aload_n hx hb d_tb_unhook_0 rfl (lv_at hl 0 rfl) ?_
  refine lv_aload_n hx hb d_tb_unhook_1 rfl (lv_at hl 0 rfl) ?_
  refine va_get (D := D) (ci := 0) (v := .ref qk) (C := R_tb) (T := F_tb) (N := 10) hx hb hts i_tb hown hK hP 0 rfl rfl 2 (by decide) (hts _ kf_tb_15) (fun _ h9 => h9) rfl d_tb_unhook_2 ?_
  refine lv_iload_n hx hb d_tb_unhook_5 rfl (lv_at hl 1 rfl) ?_
  refine wa_ld (k := x) hx hb hK hP 1 0 rfl rfl hxn.2.2 hn d_tb_unhook_6 ?_
  refine cg_V (hn := 1) (As := [.int (K x)]) (rest := []) (wr := []) (q0 := 0) (ci := 0) hx hb hml hown hts (c_tb_headOf l D cI cT cP a mv (nI R.length) qk qv qb qf qh qc n K V P N G C fl lm hn (4 + j) et ht (K x)) km_tb_87 ki_tb_headOf ks_tb_headOf kn_tb kc_tb_headOf (by decide +kernel) rfl ⟨Nat.le_of_ble_eq_true rfl, Nat.le_of_ble_eq_true rfl⟩ hK hP hD hS hA [0, 1, 2, 3, 4, 5, 6] [] rfl (by decide) rfl (by decide) (by decide) rfl rfl hl.1 rfl (Nat.le_of_ble_eq_true rfl) d_tb_unhook_7 ⟨Nat.le_refl _, Nat.le_refl _⟩ (fun v u H locs hpost hP hD hS => ?_)
  subst hpost
  refine W.eq (g2 := F0 m 10 ls [.int (nI (hof n (K x)))]) rfl ?_
  have hP : va_P D cls (tx cI a mv (nI R.length) qk qv qb qf qh qc n K V P N G C fl lm) H := hP
  have hD : va_D A (tx cI a mv (nI R.length) qk qv qb qf qh qc n K V P N G C fl lm) := hD
  cases c1 with
  | nil =>
    refine lv_istore_n (lv' := [(2, .int (nI (hof n (K x)))), (0, .ref a), (1, .int (nI x))]) hx hb d_tb_unhook_10 rfl hl (by decide) rfl (fun ls hl => ?_)
    refine lv_aload_n hx hb d_tb_unhook_11 rfl (lv_at hl 1 rfl) ?_
    refine va_get (D := D) (ci := 0) (v := .ref qh) (C := R_tb) (T := F_tb) (N := 10) hx hb hts i_tb hown hK hP 0 rfl rfl 6 (by decide) (hts _ kf_tb_28) (fun _ h9 => h9) rfl d_tb_unhook_12 ?_
    refine lv_iload_n hx hb d_tb_unhook_15 rfl (lv_at hl 0 rfl) ?_
    refine wa_ld (k := hof n (K x)) hx hb hK hP 5 0 rfl rfl hz hn d_tb_unhook_16 ?_
    refine tp_i (y := nI x) h0.1 ?_
    refine lv_istore_n (lv' := [(3, .int (nI x)), (2, .int (nI (hof n (K x)))), (0, .ref a), (1, .int (nI x))]) hx hb d_tb_unhook_17 rfl hl (by decide) rfl (fun ls hl => ?_)
    refine lv_iload_n hx hb d_tb_unhook_18 rfl (lv_at hl 0 rfl) ?_
    refine lv_iload_n hx hb d_tb_unhook_19 rfl (lv_at hl 3 rfl) ?_
    refine lv_icmp_ne (tgt := 36) hx hb d_tb_unhook_20 (by decide) (fun z9 => absurd rfl z9) (fun _ => ?_)
    refine lv_aload_n hx hb d_tb_unhook_23 rfl (lv_at hl 2 rfl) ?_
    refine va_get (D := D) (ci := 0) (v := .ref qh) (C := R_tb) (T := F_tb) (N := 10) hx hb hts i_tb hown hK hP 0 rfl rfl 6 (by decide) (hts _ kf_tb_28) (fun _ h9 => h9) rfl d_tb_unhook_24 ?_
    refine lv_iload_n hx hb d_tb_unhook_27 rfl (lv_at hl 1 rfl) ?_
    refine lv_aload_n hx hb d_tb_unhook_28 rfl (lv_at hl 2 rfl) ?_
    refine va_get (D := D) (ci := 0) (v := .ref qc) (C := R_tb) (T := F_tb) (N := 10) hx hb hts i_tb hown hK hP 0 rfl rfl 7 (by decide) (hts _ kf_tb_31) (fun _ h9 => h9) rfl d_tb_unhook_29 ?_
    refine lv_iload_n hx hb d_tb_unhook_32 rfl (lv_at hl 3 rfl) ?_
    refine wa_ld (k := x) hx hb hK hP 6 0 rfl rfl hxn.2.2 hn d_tb_unhook_33 ?_
    refine wa_st (k := hof n (K x)) (x := (C x)) hx hb hK hP hD hS 5 0 rfl rfl hz hn d_tb_unhook_34 (fun H locs hP hD hS => ?_)
    have hP : va_P D cls (tx cI a mv (nI R.length) qk qv qb qf qh qc n K V P N (upd G (hof n (K x)) (C x)) C fl lm) H := hP
    have hD : va_D A (tx cI a mv (nI R.length) qk qv qb qf qh qc n K V P N (upd G (hof n (K x)) (C x)) C fl lm) := hD
    exact cg_vret (u := ()) hQ hx hb hr hlk hK hP hD hS rfl d_tb_unhook_35
  | cons y0 t0 =>
    have hy0 : ∀ (d1 : List Nat) (y : Nat) (d2 : List Nat), y0 :: t0 = d1 ++ y :: d2 → y ≠ x := fun d1 y d2 e9 z9 => by
      have h1 := (List.nodup_append.mp ndc).2.2 y (by rw [e9]; exact List.mem_append_right _ (List.mem_cons_self ..)) x (List.mem_cons_self ..)
      exact h1 z9
    refine lv_istore_n (lv' := [(2, .int (nI (hof n (K x)))), (0, .ref a), (1, .int (nI x))]) hx hb d_tb_unhook_10 rfl hl (by decide) rfl (fun ls hl => ?_)
    refine lv_aload_n hx hb d_tb_unhook_11 rfl (lv_at hl 1 rfl) ?_
    refine va_get (D := D) (ci := 0) (v := .ref qh) (C := R_tb) (T := F_tb) (N := 10) hx hb hts i_tb hown hK hP 0 rfl rfl 6 (by decide) (hts _ kf_tb_28) (fun _ h9 => h9) rfl d_tb_unhook_12 ?_
    refine lv_iload_n hx hb d_tb_unhook_15 rfl (lv_at hl 0 rfl) ?_
    refine wa_ld (k := hof n (K x)) hx hb hK hP 5 0 rfl rfl hz hn d_tb_unhook_16 ?_
    refine tp_i (y := nI y0) h0.1 ?_
    refine lv_istore_n (lv' := [(3, .int (nI y0)), (2, .int (nI (hof n (K x)))), (0, .ref a), (1, .int (nI x))]) hx hb d_tb_unhook_17 rfl hl (by decide) rfl (fun ls hl => ?_)
    refine lv_iload_n hx hb d_tb_unhook_18 rfl (lv_at hl 0 rfl) ?_
    refine lv_iload_n hx hb d_tb_unhook_19 rfl (lv_at hl 3 rfl) ?_
    refine lv_icmp_ne (tgt := 36) hx hb d_tb_unhook_20 (by decide) (fun _ => ?_) (fun z9 => absurd z9 (fun z9 => hy0 [] y0 t0 rfl ((nI_eq (by have := (ta_in hTA (hin2 y0 (List.mem_cons_self ..))).2.2; omega) (by omega)).mp z9)))
    refine lv_iconst (v := 0) hx hb d_tb_unhook_36 (by decide) ?_
    refine lv_istore (lv' := [(4, .int 0), (3, .int (nI y0)), (2, .int (nI (hof n (K x)))), (0, .ref a), (1, .int (nI x))]) hx hb d_tb_unhook_37 hl (by decide) rfl (fun ls hl => ?_)
    have loop : ∀ (d2 : List Nat) (d1 : List Nat) (y : Nat), y0 :: t0 = d1 ++ y :: d2 → ∀ ls : Array Slot, lv_has ls 5 [(0, .ref a), (1, .int (nI x)), (2, .int (nI (hof n (K x)))), (3, .int (nI y)), (4, .int (nI d1.length))] → W p l e (rmL 1 0 0) s m args below meth c H locs 0 0 Q (F0 m 39 ls []) := by
      intro d2
      induction d2 with
      | nil =>
        intro d1 y ed ls hl
        have hyR : y ∈ R := hin2 y (List.mem_append_left _ (by rw [ed]; exact List.mem_append_right _ (List.mem_cons_self ..)))
        have hyn := ta_in hTA hyR
        have hlt : d1.length < R.length := by
          have h1 := hle
          rw [ed] at h1
          simp only [List.length_append, List.length_cons] at h1
          omega
        have h1 : sg C (G (hof n (K x))) (d1 ++ y :: ([] ++ x :: c2)) 0 := by
          have h2 := h0
          rw [ed] at h2
          simpa using h2
        have h2 := (sg_app.mp h1).2
        refine lv_iload hx hb d_tb_unhook_39 (lv_at hl 4 rfl) ?_
        refine lv_aload_n hx hb d_tb_unhook_41 rfl (lv_at hl 0 rfl) ?_
        refine va_get (D := D) (ci := 0) (v := .int (nI R.length)) (C := R_tb) (T := F_tb) (N := 10) hx hb hts i_tb hown hK hP 0 rfl rfl 1 (by decide) (hts _ kf_tb_52) (fun _ h9 => h9) rfl d_tb_unhook_42 ?_
        refine lv_icmp_ge (tgt := 88) hx hb d_tb_unhook_45 (by decide) (fun z9 => absurd z9 (nI_ge hlt hRl)) (fun _ => ?_)
        refine lv_iload_n hx hb d_tb_unhook_48 rfl (lv_at hl 3 rfl) ?_
        refine lv_if_eq (tgt := 88) hx hb d_tb_unhook_49 (by decide) (fun z9 => absurd z9 (nI_ne0 hyn.1 (by omega))) (fun _ => ?_)
        refine lv_aload_n hx hb d_tb_unhook_52 rfl (lv_at hl 0 rfl) ?_
        refine va_get (D := D) (ci := 0) (v := .ref qc) (C := R_tb) (T := F_tb) (N := 10) hx hb hts i_tb hown hK hP 0 rfl rfl 7 (by decide) (hts _ kf_tb_31) (fun _ h9 => h9) rfl d_tb_unhook_53 ?_
        refine lv_iload_n hx hb d_tb_unhook_56 rfl (lv_at hl 3 rfl) ?_
        refine wa_ld (k := y) hx hb hK hP 6 0 rfl rfl hyn.2.2 hn d_tb_unhook_57 ?_
        refine tp_i (y := nI x) h2.1 ?_
        refine lv_iload_n hx hb d_tb_unhook_58 rfl (lv_at hl 1 rfl) ?_
        refine lv_icmp_ne (tgt := 75) hx hb d_tb_unhook_59 (by decide) (fun z9 => absurd rfl z9) (fun _ => ?_)
        have ely : ls_ y0 t0 = y := by
          have h3 : ls_ 0 (y0 :: t0) = ls_ 0 (d1 ++ [y]) := by rw [ed]
          rw [ls_snoc] at h3
          exact h3
        refine lv_aload_n hx hb d_tb_unhook_62 rfl (lv_at hl 0 rfl) ?_
        refine va_get (D := D) (ci := 0) (v := .ref qc) (C := R_tb) (T := F_tb) (N := 10) hx hb hts i_tb hown hK hP 0 rfl rfl 7 (by decide) (hts _ kf_tb_31) (fun _ h9 => h9) rfl d_tb_unhook_63 ?_
        refine lv_iload_n hx hb d_tb_unhook_66 rfl (lv_at hl 3 rfl) ?_
        refine lv_aload_n hx hb d_tb_unhook_67 rfl (lv_at hl 0 rfl) ?_
        refine va_get (D := D) (ci := 0) (v := .ref qc) (C := R_tb) (T := F_tb) (N := 10) hx hb hts i_tb hown hK hP 0 rfl rfl 7 (by decide) (hts _ kf_tb_31) (fun _ h9 => h9) rfl d_tb_unhook_68 ?_
        refine lv_iload_n hx hb d_tb_unhook_71 rfl (lv_at hl 1 rfl) ?_
        refine wa_ld (k := x) hx hb hK hP 6 0 rfl rfl hxn.2.2 hn d_tb_unhook_72 ?_
        refine wa_st (k := y) (x := (C x)) hx hb hK hP hD hS 6 0 rfl rfl hyn.2.2 hn d_tb_unhook_73 (fun H locs hP hD hS => ?_)
        have hP : va_P D cls (tx cI a mv (nI R.length) qk qv qb qf qh qc n K V P N G (upd C y (C x)) fl lm) H := hP
        have hD : va_D A (tx cI a mv (nI R.length) qk qv qb qf qh qc n K V P N G (upd C y (C x)) fl lm) := hD
        rw [← ely] at hP hD
        exact cg_vret (u := ()) hQ hx hb hr hlk hK hP hD hS rfl d_tb_unhook_74
      | cons y2 d2 ih =>
        intro d1 y ed ls hl
        have hyR : y ∈ R := hin2 y (List.mem_append_left _ (by rw [ed]; exact List.mem_append_right _ (List.mem_cons_self ..)))
        have hyn := ta_in hTA hyR
        have hlt : d1.length < R.length := by
          have h1 := hle
          rw [ed] at h1
          simp only [List.length_append, List.length_cons] at h1
          omega
        have h1 : sg C (G (hof n (K x))) (d1 ++ y :: ((y2 :: d2) ++ x :: c2)) 0 := by
          have h2 := h0
          rw [ed] at h2
          simpa using h2
        have h2 := (sg_app.mp h1).2
        refine lv_iload hx hb d_tb_unhook_39 (lv_at hl 4 rfl) ?_
        refine lv_aload_n hx hb d_tb_unhook_41 rfl (lv_at hl 0 rfl) ?_
        refine va_get (D := D) (ci := 0) (v := .int (nI R.length)) (C := R_tb) (T := F_tb) (N := 10) hx hb hts i_tb hown hK hP 0 rfl rfl 1 (by decide) (hts _ kf_tb_52) (fun _ h9 => h9) rfl d_tb_unhook_42 ?_
        refine lv_icmp_ge (tgt := 88) hx hb d_tb_unhook_45 (by decide) (fun z9 => absurd z9 (nI_ge hlt hRl)) (fun _ => ?_)
        refine lv_iload_n hx hb d_tb_unhook_48 rfl (lv_at hl 3 rfl) ?_
        refine lv_if_eq (tgt := 88) hx hb d_tb_unhook_49 (by decide) (fun z9 => absurd z9 (nI_ne0 hyn.1 (by omega))) (fun _ => ?_)
        have hy2 : y2 ≠ x := hy0 (d1 ++ [y]) y2 d2 (by rw [ed]; simp)
        have hy2R := ta_in hTA (hin2 y2 (List.mem_append_left _ (by rw [ed]; simp)))
        refine lv_aload_n hx hb d_tb_unhook_52 rfl (lv_at hl 0 rfl) ?_
        refine va_get (D := D) (ci := 0) (v := .ref qc) (C := R_tb) (T := F_tb) (N := 10) hx hb hts i_tb hown hK hP 0 rfl rfl 7 (by decide) (hts _ kf_tb_31) (fun _ h9 => h9) rfl d_tb_unhook_53 ?_
        refine lv_iload_n hx hb d_tb_unhook_56 rfl (lv_at hl 3 rfl) ?_
        refine wa_ld (k := y) hx hb hK hP 6 0 rfl rfl hyn.2.2 hn d_tb_unhook_57 ?_
        refine tp_i (y := nI y2) h2.1 ?_
        refine lv_iload_n hx hb d_tb_unhook_58 rfl (lv_at hl 1 rfl) ?_
        refine lv_icmp_ne (tgt := 75) hx hb d_tb_unhook_59 (by decide) (fun _ => ?_) (fun z9 => absurd z9 (fun z9 => hy2 ((nI_eq (by omega) (by omega)).mp z9)))
        refine lv_aload_n hx hb d_tb_unhook_75 rfl (lv_at hl 0 rfl) ?_
        refine va_get (D := D) (ci := 0) (v := .ref qc) (C := R_tb) (T := F_tb) (N := 10) hx hb hts i_tb hown hK hP 0 rfl rfl 7 (by decide) (hts _ kf_tb_31) (fun _ h9 => h9) rfl d_tb_unhook_76 ?_
        refine lv_iload_n hx hb d_tb_unhook_79 rfl (lv_at hl 3 rfl) ?_
        refine wa_ld (k := y) hx hb hK hP 6 0 rfl rfl hyn.2.2 hn d_tb_unhook_80 ?_
        refine tp_i (y := nI y2) h2.1 ?_
        refine lv_istore_n (lv' := [(3, .int (nI y2)), (0, .ref a), (1, .int (nI x)), (2, .int (nI (hof n (K x)))), (4, .int (nI d1.length))]) hx hb d_tb_unhook_81 rfl hl (by decide) rfl (fun ls hl => ?_)
        refine lv_iinc (v := nI (d1 ++ [y]).length) (lv' := [(4, .int (nI (d1 ++ [y]).length)), (3, .int (nI y2)), (0, .ref a), (1, .int (nI x)), (2, .int (nI (hof n (K x))))]) hx hb d_tb_unhook_82 hl (k := 4) rfl (inc_l d1 y) (by decide) rfl (fun ls hl => ?_)
        refine lv_goto (tgt := 39) hx hb d_tb_unhook_85 (by decide) ?_
        exact ih (d1 ++ [y]) y2 (by rw [ed]; simp) ls (lv_sub hl [2, 3, 4, 1, 0] rfl)
    exact loop t0 [] y0 rfl ls (lv_sub hl [3, 4, 2, 1, 0] rfl)
end
section
-- Table: drop, grow, insert, constructor: printed by wip/whole/gen/tb3.py
set_option maxRecDepth 100000 in
set_option maxHeartbeats 4000000 in
/-- drop(x) -/
theorem c_tb_drop (l : Launch) (D : va_G) (cI cT cP : ClassId) (a : Nat) (mv : Int32) (qk qv qb qf qh qc n : Nat) (K V P N G C : Nat → Int32) (fl lm : Int32) (j mm x : Nat) (l1 l2 Fr : List Nat) (bl : Nat → List Nat) (hTA : TA n j mm (l1 ++ x :: l2) Fr) (hTN : TN P N (l1 ++ x :: l2)) (hTH : TH n K G C fl (l1 ++ x :: l2) Fr bl) (hKn : ((l1 ++ x :: l2).map K).Nodup) : Cg l y_tb_drop b_tb_drop 2 (none) 2 0 0 D (ty3 cI cT cP) [.ref a, .int (nI x)] (tx cI a mv (nI (l1 ++ x :: l2).length) qk qv qb qf qh qc n K V P N G C fl lm) (fun (v : Option Value) (u : (Nat → Int32) × (Nat → Int32)) => v = none ∧ ∃ bl', TH n K u.1 u.2 (nI x) (l1 ++ l2) (x :: Fr) bl') (fun u => tx cI a mv (nI (l1 ++ l2).length) qk qv qb qf qh qc n K V (upd P (hd_ 0 l2) (nI (ls_ 0 l1))) (upd N (ls_ 0 l1) (nI (hd_ 0 l2))) u.1 u.2 (nI x) lm) := by
  have hn : n < 2 ^ 31 := (ta_len hTA).2.2
  have et : n = 2 ^ (4 + j) := hTA.1.1
  have ht : 4 + j ≤ 30 := by have := hTA.1.2; omega
  have hxR : x ∈ l1 ++ x :: l2 := List.mem_append_right _ (List.mem_cons_self ..)
  have hxn := ta_in hTA hxR
  have hb1 : ls_ 0 l1 < n := ta_ls hTA rfl
  have hh1 : hd_ 0 l2 < n := ta_hd hTA (l1 := l1 ++ [x]) (by simp)
  obtain ⟨q1, q2, q3⟩ := tn_cut (ta_nd0 hTA) hTN
  have hz : hof n (K x) < n := hof_lt (by have := ta_n hTA; omega) _
  obtain ⟨c1, c2, hc12⟩ := List.append_of_mem ((th_bl hTH hz).mpr ⟨hxR, rfl⟩)
  have hxb : x ≠ ls_ 0 l1 := by
      intro z9
      have h1 := ls_mem 0 l1
      rw [← z9] at h1
      rcases List.mem_cons.mp h1 with h2 | h2
      · omega
      · exact (List.nodup_append.mp (ta_nd hTA)).2.2 x h2 x (List.mem_cons_self ..) rfl
  refine cg_enter rfl (Nat.le_of_ble_eq_true rfl) ?_
  intro p e s m below meth c args hx hb hr hlk hml hown hin hts A hA hK hP hD hS ls hl Q hQ
  have hl : lv_has ls 2 [(0, .ref a), (1, .int (nI x))] := hl
  have hP : va_P D cls (tx cI a mv (nI (l1 ++ x :: l2).length) qk qv qb qf qh qc n K V P N G C fl lm) s.heap := hP
  have hD : va_D A (tx cI a mv (nI (l1 ++ x :: l2).length) qk qv qb qf qh qc n K V P N G C fl lm) := hD
  refine lv_aload_n hx hb d_tb_drop_0 rfl (lv_at hl 0 rfl) ?_
  refine lv_iload_n hx hb d_tb_drop_1 rfl (lv_at hl 1 rfl) ?_
  refine cg_V (hn := 1) (As := [.int (nI x)]) (rest := []) (wr := []) (q0 := 0) (ci := 0) hx hb hml hown hts (c_tb_unhook l D cI cT cP a mv qk qv qb qf qh qc n K V P N G C fl lm j mm _ Fr bl hTA hTH hKn x hxR c1 c2 hc12) km_tb_104 ki_tb_unhook ks_tb_unhook kn_tb kc_tb_unhook (by decide +kernel) rfl ⟨Nat.le_of_ble_eq_true rfl, Nat.le_of_ble_eq_true rfl⟩ hK hP hD hS hA [0, 1, 2, 3, 4, 5, 6] [] rfl (by decide) rfl (by decide) (by decide) rfl rfl hl.1 rfl (Nat.le_of_ble_eq_true rfl) d_tb_drop_2 ⟨Nat.le_refl _, Nat.le_refl _⟩ (fun v u H locs hpost hP hD hS => ?_)
  subst hpost
  refine W.eq (g2 := F0 m 5 ls []) rfl ?_
  have hP : va_P D cls (tx cI a mv (nI (l1 ++ x :: l2).length) qk qv qb qf qh qc n K V P N (cG G C (hof n (K x)) x c1) (cC C x c1) fl lm) H := hP
  have hD : va_D A (tx cI a mv (nI (l1 ++ x :: l2).length) qk qv qb qf qh qc n K V P N (cG G C (hof n (K x)) x c1) (cC C x c1) fl lm) := hD
  refine lv_aload_n hx hb d_tb_drop_5 rfl (lv_at hl 0 rfl) ?_
  refine lv_iload_n hx hb d_tb_drop_6 rfl (lv_at hl 1 rfl) ?_
  refine cg_V (hn := 1) (As := [.int (nI x)]) (rest := []) (wr := []) (q0 := 0) (ci := 0) hx hb hml hown hts (c_tb_unlink l D cI cT cP a mv (nI (l1 ++ x :: l2).length) qk qv qb qf qh qc n K V P N (cG G C (hof n (K x)) x c1) (cC C x c1) fl lm hn x (ls_ 0 l1) (hd_ 0 l2) hxn.2.2 hb1 hh1 q1 q2 hxb) km_tb_107 ki_tb_unlink ks_tb_unlink kn_tb kc_tb_unlink (by decide +kernel) rfl ⟨Nat.le_of_ble_eq_true rfl, Nat.le_of_ble_eq_true rfl⟩ hK hP hD hS hA [0, 1, 2, 3, 4, 5, 6] [] rfl (by decide) rfl (by decide) (by decide) rfl rfl hl.1 rfl (Nat.le_of_ble_eq_true rfl) d_tb_drop_7 ⟨Nat.le_refl _, Nat.le_refl _⟩ (fun v u H locs hpost hP hD hS => ?_)
  subst hpost
  refine W.eq (g2 := F0 m 10 ls []) rfl ?_
  have hP : va_P D cls (tx cI a mv (nI (l1 ++ x :: l2).length) qk qv qb qf qh qc n K V (upd P (hd_ 0 l2) (nI (ls_ 0 l1))) (upd N (ls_ 0 l1) (nI (hd_ 0 l2))) (cG G C (hof n (K x)) x c1) (cC C x c1) fl lm) H := hP
  have hD : va_D A (tx cI a mv (nI (l1 ++ x :: l2).length) qk qv qb qf qh qc n K V (upd P (hd_ 0 l2) (nI (ls_ 0 l1))) (upd N (ls_ 0 l1) (nI (hd_ 0 l2))) (cG G C (hof n (K x)) x c1) (cC C x c1) fl lm) := hD
  refine lv_aload_n hx hb d_tb_drop_10 rfl (lv_at hl 0 rfl) ?_
  refine va_get (D := D) (ci := 0) (v := .ref qc) (C := R_tb) (T := F_tb) (N := 10) hx hb hts i_tb hown hK hP 0 rfl rfl 7 (by decide) (hts _ kf_tb_31) (fun _ h9 => h9) rfl d_tb_drop_11 ?_
  refine lv_iload_n hx hb d_tb_drop_14 rfl (lv_at hl 1 rfl) ?_
  refine lv_aload_n hx hb d_tb_drop_15 rfl (lv_at hl 0 rfl) ?_
  refine va_get (D := D) (ci := 0) (v := .int fl) (C := R_tb) (T := F_tb) (N := 10) hx hb hts i_tb hown hK hP 0 rfl rfl 8 (by decide) (hts _ kf_tb_75) (fun _ h9 => h9) rfl d_tb_drop_16 ?_
  refine wa_st (k := x) (x := fl) hx hb hK hP hD hS 6 0 rfl rfl hxn.2.2 hn d_tb_drop_19 (fun H locs hP hD hS => ?_)
  have hP : va_P D cls (tx cI a mv (nI (l1 ++ x :: l2).length) qk qv qb qf qh qc n K V (upd P (hd_ 0 l2) (nI (ls_ 0 l1))) (upd N (ls_ 0 l1) (nI (hd_ 0 l2))) (cG G C (hof n (K x)) x c1) (upd (cC C x c1) x fl) fl lm) H := hP
  have hD : va_D A (tx cI a mv (nI (l1 ++ x :: l2).length) qk qv qb qf qh qc n K V (upd P (hd_ 0 l2) (nI (ls_ 0 l1))) (upd N (ls_ 0 l1) (nI (hd_ 0 l2))) (cG G C (hof n (K x)) x c1) (upd (cC C x c1) x fl) fl lm) := hD
  refine lv_aload_n hx hb d_tb_drop_20 rfl (lv_at hl 0 rfl) ?_
  refine lv_iload_n hx hb d_tb_drop_21 rfl (lv_at hl 1 rfl) ?_
  refine va_put (D := D) (ci := 0) (v := .int (nI x)) (ty := .int) (C := R_tb) (T := F_tb) (N := 10) hx hb hts i_tb t_tb t_tb_ok n_tb hown hK hP hD hS 0 rfl rfl 8 (by decide) (hts _ kf_tb_75) (fun _ h9 => h9) rfl (by decide +kernel) rfl rfl (Nat.le_of_ble_eq_true rfl) d_tb_drop_22 (fun H locs hP hD hS => ?_)
  have hP : va_P D cls (tx cI a mv (nI (l1 ++ x :: l2).length) qk qv qb qf qh qc n K V (upd P (hd_ 0 l2) (nI (ls_ 0 l1))) (upd N (ls_ 0 l1) (nI (hd_ 0 l2))) (cG G C (hof n (K x)) x c1) (upd (cC C x c1) x fl) (nI x) lm) H := hP
  have hD : va_D A (tx cI a mv (nI (l1 ++ x :: l2).length) qk qv qb qf qh qc n K V (upd P (hd_ 0 l2) (nI (ls_ 0 l1))) (upd N (ls_ 0 l1) (nI (hd_ 0 l2))) (cG G C (hof n (K x)) x c1) (upd (cC C x c1) x fl) (nI x) lm) := hD
  refine lv_aload_n hx hb d_tb_drop_25 rfl (lv_at hl 0 rfl) ?_
  refine lv_dup hx hb d_tb_drop_26 rfl ?_
  refine va_get (D := D) (ci := 0) (v := .int (nI (l1 ++ x :: l2).length)) (C := R_tb) (T := F_tb) (N := 10) hx hb hts i_tb hown hK hP 0 rfl rfl 1 (by decide) (hts _ kf_tb_52) (fun _ h9 => h9) rfl d_tb_drop_27 ?_
  refine lv_iconst (v := 1) hx hb d_tb_drop_30 (by decide) ?_
  refine lv_isub hx hb d_tb_drop_31 ?_
  refine tp_i (y := nI (l1 ++ l2).length) (by rw [show (l1 ++ x :: l2).length = (l1 ++ l2).length + 1 by simp; omega]; exact nI_pred _) ?_
  refine va_put (D := D) (ci := 0) (v := .int (nI (l1 ++ l2).length)) (ty := .int) (C := R_tb) (T := F_tb) (N := 10) hx hb hts i_tb t_tb t_tb_ok n_tb hown hK hP hD hS 0 rfl rfl 1 (by decide) (hts _ kf_tb_52) (fun _ h9 => h9) rfl (by decide +kernel) rfl rfl (Nat.le_of_ble_eq_true rfl) d_tb_drop_32 (fun H locs hP hD hS => ?_)
  have hP : va_P D cls (tx cI a mv (nI (l1 ++ l2).length) qk qv qb qf qh qc n K V (upd P (hd_ 0 l2) (nI (ls_ 0 l1))) (upd N (ls_ 0 l1) (nI (hd_ 0 l2))) (cG G C (hof n (K x)) x c1) (upd (cC C x c1) x fl) (nI x) lm) H := hP
  have hD : va_D A (tx cI a mv (nI (l1 ++ l2).length) qk qv qb qf qh qc n K V (upd P (hd_ 0 l2) (nI (ls_ 0 l1))) (upd N (ls_ 0 l1) (nI (hd_ 0 l2))) (cG G C (hof n (K x)) x c1) (upd (cC C x c1) x fl) (nI x) lm) := hD
  exact cg_vret (u := ((cG G C (hof n (K x)) x c1), upd (cC C x c1) x fl)) hQ hx hb hr hlk hK hP hD hS (⟨rfl, _, th_del (by have := ta_n hTA; omega) hTA.2.2.1 hTH hc12⟩) d_tb_drop_35
theorem blR_s {n : Nat} {K : Nat → Int32} {s h : Nat} : blR n K (s + 1) h = if hof n (K (s + 1)) = h then (s + 1) :: blR n K s h else blR n K s h := by
  unfold blR
  rw [List.range'_concat, List.reverse_append]
  have e : 1 + 1 * s = s + 1 := by omega
  rw [e]
  show List.filter _ ((s + 1) :: (List.range' 1 s).reverse) = _
  by_cases c : hof n (K (s + 1)) = h
  · rw [List.filter_cons_of_pos (by simpa using c), if_pos c]
  · rw [List.filter_cons_of_neg (by simpa using c), if_neg c]
theorem blR_in {n : Nat} {K : Nat → Int32} {s h x : Nat} (hx : x ∈ blR n K s h) : x ≤ s := by
  have h1 := (List.mem_filter.mp hx).1
  have h2 := List.mem_range'_1.mp (List.mem_reverse.mp h1)
  omega
theorem blR_add {n : Nat} {K G C : Nat → Int32} {s : Nat} (hg : ∀ h, h < n → sg C (G h) (blR n K s h) 0) : ∀ h, h < n → sg (upd C (s + 1) (G (hof n (K (s + 1))))) (upd G (hof n (K (s + 1))) (nI (s + 1)) h) (blR n K (s + 1) h) 0 := by
  intro h hh
  have hni : s + 1 ∉ blR n K s h := fun z => absurd (blR_in z) (by omega)
  rw [blR_s]
  by_cases c : hof n (K (s + 1)) = h
  · rw [if_pos c, c, pk_us]
    refine ⟨rfl, ?_⟩
    rw [pk_us]
    exact sg_upd hni (hg h hh)
  · rw [if_neg c, pk_un (fun z => c z.symm)]
    exact sg_upd hni (hg h hh)
theorem th_grow {n j m : Nat} {K G C : Nat → Int32} {R : List Nat} (hTA : TA n j m R []) (hg : ∀ h, h < n → sg C (G h) (blR n K m h) 0) : TH n K G C 0 R [] (blR n K m) := by
  refine ⟨rfl, fun h hh => ⟨hg h hh, List.Perm.filter _ ?_⟩⟩
  refine (List.perm_ext_iff_of_nodup ?_ (ta_nd hTA)).mpr (fun x => ?_)
  · exact (List.reverse_perm _).nodup_iff.mpr List.nodup_range'
  · have h1 := hTA.2.2.2.1 x
    rw [List.append_nil] at h1
    rw [h1, List.mem_reverse, List.mem_range'_1]
    omega
theorem cpy_in {n : Nat} {f : Nat → Int32} {x : Nat} (h : x < n) : cpy n f x = f x := sb_cpy0 h
set_option maxRecDepth 100000 in
set_option maxHeartbeats 4000000 in
/-- grow() -/
theorem c_tb_grow (l : Launch) (D : va_G) (cI cT cP : ClassId) (a : Nat) (mv ct : Int32) (qk qv qb qf qh qc n : Nat) (K V P N G C : Nat → Int32) (fl : Int32) (t mm : Nat) (et : n = 2 ^ t) (ht : 4 ≤ t ∧ t ≤ 10) (hmm : mm < n) : Cg l y_tb_grow b_tb_grow 3 (none) 2 6 (6 * (2 * n)) D (ty3 cI cT cP) [.ref a] (tx cI a mv ct qk qv qb qf qh qc n K V P N G C fl (nI mm)) (fun (v : Option Value) (u : Nat × Nat × Nat × Nat × Nat × Nat × (Nat → Int32) × (Nat → Int32)) => v = none ∧ ∀ h, h < 2 * n → sg u.2.2.2.2.2.2.2 (u.2.2.2.2.2.2.1 h) (blR (2 * n) (cpy n K) mm h) 0) (fun u => tx cI a mv ct u.1 u.2.1 u.2.2.1 u.2.2.2.1 u.2.2.2.2.1 u.2.2.2.2.2.1 (2 * n) (cpy n K) (cpy n V) (cpy n P) (cpy n N) u.2.2.2.2.2.2.1 u.2.2.2.2.2.2.2 fl (nI mm)) := by
  have hn16 : 16 ≤ n ∧ n ≤ 1024 := by
      have h1 : 2 ^ 4 ≤ 2 ^ t := Nat.pow_le_pow_right (by decide) ht.1
      have h2 : 2 ^ t ≤ 2 ^ 10 := Nat.pow_le_pow_right (by decide) ht.2
      omega
  have et2 : 2 * n = 2 ^ (t + 1) := by rw [et, Nat.pow_succ]; omega
  have hn : 2 * n < 2 ^ 31 := by omega
  refine cg_enter rfl (Nat.le_of_ble_eq_true rfl) ?_
  intro p e s m below meth c args hx hb hr hlk hml hown hin hts A hA hK hP hD hS ls hl Q hQ
  have hl : lv_has ls 3 [(0, .ref a)] := hl
  have hP : va_P D cls (tx cI a mv ct qk qv qb qf qh qc n K V P N G C fl (nI mm)) s.heap := hP
  have hD : va_D A (tx cI a mv ct qk qv qb qf qh qc n K V P N G C fl (nI mm)) := hD
  have hP : va_P D cls ([(a, .inr (0, [.int mv, .int ct, .ref qk, .ref qv, .ref qb, .ref qf, .ref qh, .ref qc, .int fl, .int (nI mm)])), (qk, .inl (cI, n, .inl K)), (qv, .inl (cI, n, .inl V)), (qb, .inl (cI, n, .inl P)), (qf, .inl (cI, n, .inl N)), (qh, .inl (cI, n, .inl G)), (qc, .inl (cI, n, .inl C))]) s.heap := hP
  have hD : va_D A ([(a, .inr (0, [.int mv, .int ct, .ref qk, .ref qv, .ref qb, .ref qf, .ref qh, .ref qc, .int fl, .int (nI mm)])), (qk, .inl (cI, n, .inl K)), (qv, .inl (cI, n, .inl V)), (qb, .inl (cI, n, .inl P)), (qf, .inl (cI, n, .inl N)), (qh, .inl (cI, n, .inl G)), (qc, .inl (cI, n, .inl C))]) := hD
  refine lv_aload_n hx hb d_tb_grow_0 rfl (lv_at hl 0 rfl) ?_
  refine va_get (D := D) (ci := 0) (v := .ref qk) (C := R_tb) (T := F_tb) (N := 10) hx hb hts i_tb hown hK hP 0 rfl rfl 2 (by decide) (hts _ kf_tb_15) (fun _ h9 => h9) rfl d_tb_grow_1 ?_
  refine va_alen (v := nI n) hx hb hK hP 1 0 rfl rfl rfl d_tb_grow_4 ?_
  refine lv_iconst (v := 2) hx hb d_tb_grow_5 (by decide) ?_
  refine lv_imul hx hb d_tb_grow_6 ?_
  refine tp_i (y := nI (2 * n)) (by rw [Nat.mul_comm 2 n]; exact pk_mul n 2) ?_
  refine lv_istore_n (lv' := [(1, .int (nI (2 * n))), (0, .ref a)]) hx hb d_tb_grow_7 rfl hl (by decide) rfl (fun ls hl => ?_)
  refine lv_aload_n hx hb d_tb_grow_8 rfl (lv_at hl 1 rfl) ?_
  refine lv_aload_n hx hb d_tb_grow_9 rfl (lv_at hl 1 rfl) ?_
  refine va_get (D := D) (ci := 0) (v := .ref qk) (C := R_tb) (T := F_tb) (N := 10) hx hb hts i_tb hown hK hP 0 rfl rfl 2 (by decide) (hts _ kf_tb_15) (fun _ h9 => h9) rfl d_tb_grow_10 ?_
  refine lv_iload_n hx hb d_tb_grow_13 rfl (lv_at hl 0 rfl) ?_
  refine cg_S (hn := 2) (As := [.ref qk, .int (nI (2 * n))]) (rest := [.ref a]) (wr := [(a, .inr (0, [.int mv, .int ct, .ref qk, .ref qv, .ref qb, .ref qf, .ref qh, .ref qc, .int fl, .int (nI mm)])), (qv, .inl (cI, n, .inl V)), (qb, .inl (cI, n, .inl P)), (qf, .inl (cI, n, .inl N)), (qh, .inl (cI, n, .inl G)), (qc, .inl (cI, n, .inl C))]) hx hb hml hown hts (c_ja_copyOf l D cI cT cP qk n (2 * n) K (by omega) (by omega)) km_tb_110 kt_ja_copyOf kn_ja kc_ja_copyOf (by decide +kernel) rfl ⟨Nat.le_of_ble_eq_true rfl, Nat.le_of_ble_eq_true rfl⟩ hK hP hD hS hA [1] [0, 2, 3, 4, 5, 6] rfl (by decide) rfl (by decide) (by decide) hl.1 rfl (Nat.le_of_ble_eq_true rfl) d_tb_grow_14 ⟨by show _ ≤ 6; omega, by show _ ≤ 6 * (2 * n); omega⟩ (fun v rk H locs hpost hP hD hS => ?_)
  subst hpost
  refine W.eq (g2 := F0 m 17 ls [.ref rk, .ref a]) rfl ?_
  have hP : va_P D cls ([(a, .inr (0, [.int mv, .int ct, .ref qk, .ref qv, .ref qb, .ref qf, .ref qh, .ref qc, .int fl, .int (nI mm)])), (qv, .inl (cI, n, .inl V)), (qb, .inl (cI, n, .inl P)), (qf, .inl (cI, n, .inl N)), (qh, .inl (cI, n, .inl G)), (qc, .inl (cI, n, .inl C)), (qk, .inl (cI, n, .inl K)), (rk, .inl (cI, 2 * n, .inl (cpy n K)))]) H := hP
  have hD : va_D A ([(a, .inr (0, [.int mv, .int ct, .ref qk, .ref qv, .ref qb, .ref qf, .ref qh, .ref qc, .int fl, .int (nI mm)])), (qv, .inl (cI, n, .inl V)), (qb, .inl (cI, n, .inl P)), (qf, .inl (cI, n, .inl N)), (qh, .inl (cI, n, .inl G)), (qc, .inl (cI, n, .inl C)), (qk, .inl (cI, n, .inl K)), (rk, .inl (cI, 2 * n, .inl (cpy n K)))]) := hD
  refine va_put (D := D) (ci := 0) (v := .ref rk) (ty := .array .int) (C := R_tb) (T := F_tb) (N := 10) hx hb hts i_tb t_tb t_tb_ok n_tb hown hK hP hD hS 0 rfl rfl 2 (by decide) (hts _ kf_tb_15) (fun _ h9 => h9) rfl (by decide +kernel) rfl rfl (Nat.le_of_ble_eq_true rfl) d_tb_grow_17 (fun H locs hP hD hS => ?_)
  have hP : va_P D cls ([(a, .inr (0, [.int mv, .int ct, .ref rk, .ref qv, .ref qb, .ref qf, .ref qh, .ref qc, .int fl, .int (nI mm)])), (qv, .inl (cI, n, .inl V)), (qb, .inl (cI, n, .inl P)), (qf, .inl (cI, n, .inl N)), (qh, .inl (cI, n, .inl G)), (qc, .inl (cI, n, .inl C)), (qk, .inl (cI, n, .inl K)), (rk, .inl (cI, 2 * n, .inl (cpy n K)))]) H := hP
  have hD : va_D A ([(a, .inr (0, [.int mv, .int ct, .ref rk, .ref qv, .ref qb, .ref qf, .ref qh, .ref qc, .int fl, .int (nI mm)])), (qv, .inl (cI, n, .inl V)), (qb, .inl (cI, n, .inl P)), (qf, .inl (cI, n, .inl N)), (qh, .inl (cI, n, .inl G)), (qc, .inl (cI, n, .inl C)), (qk, .inl (cI, n, .inl K)), (rk, .inl (cI, 2 * n, .inl (cpy n K)))]) := hD
  refine lv_aload_n hx hb d_tb_grow_20 rfl (lv_at hl 1 rfl) ?_
  refine lv_aload_n hx hb d_tb_grow_21 rfl (lv_at hl 1 rfl) ?_
  refine va_get (D := D) (ci := 0) (v := .ref qv) (C := R_tb) (T := F_tb) (N := 10) hx hb hts i_tb hown hK hP 0 rfl rfl 3 (by decide) (hts _ kf_tb_19) (fun _ h9 => h9) rfl d_tb_grow_22 ?_
  refine lv_iload_n hx hb d_tb_grow_25 rfl (lv_at hl 0 rfl) ?_
  refine cg_S (hn := 2) (As := [.ref qv, .int (nI (2 * n))]) (rest := [.ref a]) (wr := [(a, .inr (0, [.int mv, .int ct, .ref rk, .ref qv, .ref qb, .ref qf, .ref qh, .ref qc, .int fl, .int (nI mm)])), (qb, .inl (cI, n, .inl P)), (qf, .inl (cI, n, .inl N)), (qh, .inl (cI, n, .inl G)), (qc, .inl (cI, n, .inl C)), (qk, .inl (cI, n, .inl K)), (rk, .inl (cI, 2 * n, .inl (cpy n K)))]) hx hb hml hown hts (c_ja_copyOf l D cI cT cP qv n (2 * n) V (by omega) (by omega)) km_tb_110 kt_ja_copyOf kn_ja kc_ja_copyOf (by decide +kernel) rfl ⟨Nat.le_of_ble_eq_true rfl, Nat.le_of_ble_eq_true rfl⟩ hK hP hD hS hA [1] [0, 2, 3, 4, 5, 6, 7] rfl (by decide) rfl (by decide) (by decide) hl.1 rfl (Nat.le_of_ble_eq_true rfl) d_tb_grow_26 ⟨by show _ ≤ 6; omega, by show _ ≤ 6 * (2 * n); omega⟩ (fun v rv H locs hpost hP hD hS => ?_)
  subst hpost
  refine W.eq (g2 := F0 m 29 ls [.ref rv, .ref a]) rfl ?_
  have hP : va_P D cls ([(a, .inr (0, [.int mv, .int ct, .ref rk, .ref qv, .ref qb, .ref qf, .ref qh, .ref qc, .int fl, .int (nI mm)])), (qb, .inl (cI, n, .inl P)), (qf, .inl (cI, n, .inl N)), (qh, .inl (cI, n, .inl G)), (qc, .inl (cI, n, .inl C)), (qk, .inl (cI, n, .inl K)), (rk, .inl (cI, 2 * n, .inl (cpy n K))), (qv, .inl (cI, n, .inl V)), (rv, .inl (cI, 2 * n, .inl (cpy n V)))]) H := hP
  have hD : va_D A ([(a, .inr (0, [.int mv, .int ct, .ref rk, .ref qv, .ref qb, .ref qf, .ref qh, .ref qc, .int fl, .int (nI mm)])), (qb, .inl (cI, n, .inl P)), (qf, .inl (cI, n, .inl N)), (qh, .inl (cI, n, .inl G)), (qc, .inl (cI, n, .inl C)), (qk, .inl (cI, n, .inl K)), (rk, .inl (cI, 2 * n, .inl (cpy n K))), (qv, .inl (cI, n, .inl V)), (rv, .inl (cI, 2 * n, .inl (cpy n V)))]) := hD
  refine va_put (D := D) (ci := 0) (v := .ref rv) (ty := .array .int) (C := R_tb) (T := F_tb) (N := 10) hx hb hts i_tb t_tb t_tb_ok n_tb hown hK hP hD hS 0 rfl rfl 3 (by decide) (hts _ kf_tb_19) (fun _ h9 => h9) rfl (by decide +kernel) rfl rfl (Nat.le_of_ble_eq_true rfl) d_tb_grow_29 (fun H locs hP hD hS => ?_)
  have hP : va_P D cls ([(a, .inr (0, [.int mv, .int ct, .ref rk, .ref rv, .ref qb, .ref qf, .ref qh, .ref qc, .int fl, .int (nI mm)])), (qb, .inl (cI, n, .inl P)), (qf, .inl (cI, n, .inl N)), (qh, .inl (cI, n, .inl G)), (qc, .inl (cI, n, .inl C)), (qk, .inl (cI, n, .inl K)), (rk, .inl (cI, 2 * n, .inl (cpy n K))), (qv, .inl (cI, n, .inl V)), (rv, .inl (cI, 2 * n, .inl (cpy n V)))]) H := hP
  have hD : va_D A ([(a, .inr (0, [.int mv, .int ct, .ref rk, .ref rv, .ref qb, .ref qf, .ref qh, .ref qc, .int fl, .int (nI mm)])), (qb, .inl (cI, n, .inl P)), (qf, .inl (cI, n, .inl N)), (qh, .inl (cI, n, .inl G)), (qc, .inl (cI, n, .inl C)), (qk, .inl (cI, n, .inl K)), (rk, .inl (cI, 2 * n, .inl (cpy n K))), (qv, .inl (cI, n, .inl V)), (rv, .inl (cI, 2 * n, .inl (cpy n V)))]) := hD
  refine lv_aload_n hx hb d_tb_grow_32 rfl (lv_at hl 1 rfl) ?_
  refine lv_aload_n hx hb d_tb_grow_33 rfl (lv_at hl 1 rfl) ?_
  refine va_get (D := D) (ci := 0) (v := .ref qb) (C := R_tb) (T := F_tb) (N := 10) hx hb hts i_tb hown hK hP 0 rfl rfl 4 (by decide) (hts _ kf_tb_22) (fun _ h9 => h9) rfl d_tb_grow_34 ?_
  refine lv_iload_n hx hb d_tb_grow_37 rfl (lv_at hl 0 rfl) ?_
  refine cg_S (hn := 2) (As := [.ref qb, .int (nI (2 * n))]) (rest := [.ref a]) (wr := [(a, .inr (0, [.int mv, .int ct, .ref rk, .ref rv, .ref qb, .ref qf, .ref qh, .ref qc, .int fl, .int (nI mm)])), (qf, .inl (cI, n, .inl N)), (qh, .inl (cI, n, .inl G)), (qc, .inl (cI, n, .inl C)), (qk, .inl (cI, n, .inl K)), (rk, .inl (cI, 2 * n, .inl (cpy n K))), (qv, .inl (cI, n, .inl V)), (rv, .inl (cI, 2 * n, .inl (cpy n V)))]) hx hb hml hown hts (c_ja_copyOf l D cI cT cP qb n (2 * n) P (by omega) (by omega)) km_tb_110 kt_ja_copyOf kn_ja kc_ja_copyOf (by decide +kernel) rfl ⟨Nat.le_of_ble_eq_true rfl, Nat.le_of_ble_eq_true rfl⟩ hK hP hD hS hA [1] [0, 2, 3, 4, 5, 6, 7, 8] rfl (by decide) rfl (by decide) (by decide) hl.1 rfl (Nat.le_of_ble_eq_true rfl) d_tb_grow_38 ⟨by show _ ≤ 6; omega, by show _ ≤ 6 * (2 * n); omega⟩ (fun v rb H locs hpost hP hD hS => ?_)
  subst hpost
  refine W.eq (g2 := F0 m 41 ls [.ref rb, .ref a]) rfl ?_
  have hP : va_P D cls ([(a, .inr (0, [.int mv, .int ct, .ref rk, .ref rv, .ref qb, .ref qf, .ref qh, .ref qc, .int fl, .int (nI mm)])), (qf, .inl (cI, n, .inl N)), (qh, .inl (cI, n, .inl G)), (qc, .inl (cI, n, .inl C)), (qk, .inl (cI, n, .inl K)), (rk, .inl (cI, 2 * n, .inl (cpy n K))), (qv, .inl (cI, n, .inl V)), (rv, .inl (cI, 2 * n, .inl (cpy n V))), (qb, .inl (cI, n, .inl P)), (rb, .inl (cI, 2 * n, .inl (cpy n P)))]) H := hP
  have hD : va_D A ([(a, .inr (0, [.int mv, .int ct, .ref rk, .ref rv, .ref qb, .ref qf, .ref qh, .ref qc, .int fl, .int (nI mm)])), (qf, .inl (cI, n, .inl N)), (qh, .inl (cI, n, .inl G)), (qc, .inl (cI, n, .inl C)), (qk, .inl (cI, n, .inl K)), (rk, .inl (cI, 2 * n, .inl (cpy n K))), (qv, .inl (cI, n, .inl V)), (rv, .inl (cI, 2 * n, .inl (cpy n V))), (qb, .inl (cI, n, .inl P)), (rb, .inl (cI, 2 * n, .inl (cpy n P)))]) := hD
  refine va_put (D := D) (ci := 0) (v := .ref rb) (ty := .array .int) (C := R_tb) (T := F_tb) (N := 10) hx hb hts i_tb t_tb t_tb_ok n_tb hown hK hP hD hS 0 rfl rfl 4 (by decide) (hts _ kf_tb_22) (fun _ h9 => h9) rfl (by decide +kernel) rfl rfl (Nat.le_of_ble_eq_true rfl) d_tb_grow_41 (fun H locs hP hD hS => ?_)
  have hP : va_P D cls ([(a, .inr (0, [.int mv, .int ct, .ref rk, .ref rv, .ref rb, .ref qf, .ref qh, .ref qc, .int fl, .int (nI mm)])), (qf, .inl (cI, n, .inl N)), (qh, .inl (cI, n, .inl G)), (qc, .inl (cI, n, .inl C)), (qk, .inl (cI, n, .inl K)), (rk, .inl (cI, 2 * n, .inl (cpy n K))), (qv, .inl (cI, n, .inl V)), (rv, .inl (cI, 2 * n, .inl (cpy n V))), (qb, .inl (cI, n, .inl P)), (rb, .inl (cI, 2 * n, .inl (cpy n P)))]) H := hP
  have hD : va_D A ([(a, .inr (0, [.int mv, .int ct, .ref rk, .ref rv, .ref rb, .ref qf, .ref qh, .ref qc, .int fl, .int (nI mm)])), (qf, .inl (cI, n, .inl N)), (qh, .inl (cI, n, .inl G)), (qc, .inl (cI, n, .inl C)), (qk, .inl (cI, n, .inl K)), (rk, .inl (cI, 2 * n, .inl (cpy n K))), (qv, .inl (cI, n, .inl V)), (rv, .inl (cI, 2 * n, .inl (cpy n V))), (qb, .inl (cI, n, .inl P)), (rb, .inl (cI, 2 * n, .inl (cpy n P)))]) := hD
  refine lv_aload_n hx hb d_tb_grow_44 rfl (lv_at hl 1 rfl) ?_
  refine lv_aload_n hx hb d_tb_grow_45 rfl (lv_at hl 1 rfl) ?_
  refine va_get (D := D) (ci := 0) (v := .ref qf) (C := R_tb) (T := F_tb) (N := 10) hx hb hts i_tb hown hK hP 0 rfl rfl 5 (by decide) (hts _ kf_tb_25) (fun _ h9 => h9) rfl d_tb_grow_46 ?_
  refine lv_iload_n hx hb d_tb_grow_49 rfl (lv_at hl 0 rfl) ?_
  refine cg_S (hn := 2) (As := [.ref qf, .int (nI (2 * n))]) (rest := [.ref a]) (wr := [(a, .inr (0, [.int mv, .int ct, .ref rk, .ref rv, .ref rb, .ref qf, .ref qh, .ref qc, .int fl, .int (nI mm)])), (qh, .inl (cI, n, .inl G)), (qc, .inl (cI, n, .inl C)), (qk, .inl (cI, n, .inl K)), (rk, .inl (cI, 2 * n, .inl (cpy n K))), (qv, .inl (cI, n, .inl V)), (rv, .inl (cI, 2 * n, .inl (cpy n V))), (qb, .inl (cI, n, .inl P)), (rb, .inl (cI, 2 * n, .inl (cpy n P)))]) hx hb hml hown hts (c_ja_copyOf l D cI cT cP qf n (2 * n) N (by omega) (by omega)) km_tb_110 kt_ja_copyOf kn_ja kc_ja_copyOf (by decide +kernel) rfl ⟨Nat.le_of_ble_eq_true rfl, Nat.le_of_ble_eq_true rfl⟩ hK hP hD hS hA [1] [0, 2, 3, 4, 5, 6, 7, 8, 9] rfl (by decide) rfl (by decide) (by decide) hl.1 rfl (Nat.le_of_ble_eq_true rfl) d_tb_grow_50 ⟨by show _ ≤ 6; omega, by show _ ≤ 6 * (2 * n); omega⟩ (fun v rf H locs hpost hP hD hS => ?_)
  subst hpost
  refine W.eq (g2 := F0 m 53 ls [.ref rf, .ref a]) rfl ?_
  have hP : va_P D cls ([(a, .inr (0, [.int mv, .int ct, .ref rk, .ref rv, .ref rb, .ref qf, .ref qh, .ref qc, .int fl, .int (nI mm)])), (qh, .inl (cI, n, .inl G)), (qc, .inl (cI, n, .inl C)), (qk, .inl (cI, n, .inl K)), (rk, .inl (cI, 2 * n, .inl (cpy n K))), (qv, .inl (cI, n, .inl V)), (rv, .inl (cI, 2 * n, .inl (cpy n V))), (qb, .inl (cI, n, .inl P)), (rb, .inl (cI, 2 * n, .inl (cpy n P))), (qf, .inl (cI, n, .inl N)), (rf, .inl (cI, 2 * n, .inl (cpy n N)))]) H := hP
  have hD : va_D A ([(a, .inr (0, [.int mv, .int ct, .ref rk, .ref rv, .ref rb, .ref qf, .ref qh, .ref qc, .int fl, .int (nI mm)])), (qh, .inl (cI, n, .inl G)), (qc, .inl (cI, n, .inl C)), (qk, .inl (cI, n, .inl K)), (rk, .inl (cI, 2 * n, .inl (cpy n K))), (qv, .inl (cI, n, .inl V)), (rv, .inl (cI, 2 * n, .inl (cpy n V))), (qb, .inl (cI, n, .inl P)), (rb, .inl (cI, 2 * n, .inl (cpy n P))), (qf, .inl (cI, n, .inl N)), (rf, .inl (cI, 2 * n, .inl (cpy n N)))]) := hD
  refine va_put (D := D) (ci := 0) (v := .ref rf) (ty := .array .int) (C := R_tb) (T := F_tb) (N := 10) hx hb hts i_tb t_tb t_tb_ok n_tb hown hK hP hD hS 0 rfl rfl 5 (by decide) (hts _ kf_tb_25) (fun _ h9 => h9) rfl (by decide +kernel) rfl rfl (Nat.le_of_ble_eq_true rfl) d_tb_grow_53 (fun H locs hP hD hS => ?_)
  have hP : va_P D cls ([(a, .inr (0, [.int mv, .int ct, .ref rk, .ref rv, .ref rb, .ref rf, .ref qh, .ref qc, .int fl, .int (nI mm)])), (qh, .inl (cI, n, .inl G)), (qc, .inl (cI, n, .inl C)), (qk, .inl (cI, n, .inl K)), (rk, .inl (cI, 2 * n, .inl (cpy n K))), (qv, .inl (cI, n, .inl V)), (rv, .inl (cI, 2 * n, .inl (cpy n V))), (qb, .inl (cI, n, .inl P)), (rb, .inl (cI, 2 * n, .inl (cpy n P))), (qf, .inl (cI, n, .inl N)), (rf, .inl (cI, 2 * n, .inl (cpy n N)))]) H := hP
  have hD : va_D A ([(a, .inr (0, [.int mv, .int ct, .ref rk, .ref rv, .ref rb, .ref rf, .ref qh, .ref qc, .int fl, .int (nI mm)])), (qh, .inl (cI, n, .inl G)), (qc, .inl (cI, n, .inl C)), (qk, .inl (cI, n, .inl K)), (rk, .inl (cI, 2 * n, .inl (cpy n K))), (qv, .inl (cI, n, .inl V)), (rv, .inl (cI, 2 * n, .inl (cpy n V))), (qb, .inl (cI, n, .inl P)), (rb, .inl (cI, 2 * n, .inl (cpy n P))), (qf, .inl (cI, n, .inl N)), (rf, .inl (cI, 2 * n, .inl (cpy n N)))]) := hD
  refine lv_aload_n hx hb d_tb_grow_56 rfl (lv_at hl 1 rfl) ?_
  refine lv_iload_n hx hb d_tb_grow_57 rfl (lv_at hl 0 rfl) ?_
  refine wa_new (k := 2 * n) hx hb hts hK hP hD hS hA (by omega) (by show _ ≤ 6; omega) (by show _ ≤ 6 * (2 * n); omega) d_tb_grow_58 (fun rh H hP hD hS => ?_)
  have hP : va_P D cls ([(a, .inr (0, [.int mv, .int ct, .ref rk, .ref rv, .ref rb, .ref rf, .ref qh, .ref qc, .int fl, .int (nI mm)])), (qh, .inl (cI, n, .inl G)), (qc, .inl (cI, n, .inl C)), (qk, .inl (cI, n, .inl K)), (rk, .inl (cI, 2 * n, .inl (cpy n K))), (qv, .inl (cI, n, .inl V)), (rv, .inl (cI, 2 * n, .inl (cpy n V))), (qb, .inl (cI, n, .inl P)), (rb, .inl (cI, 2 * n, .inl (cpy n P))), (qf, .inl (cI, n, .inl N)), (rf, .inl (cI, 2 * n, .inl (cpy n N))), (rh, .inl (cI, 2 * n, .inl (fun _ => 0)))]) H := hP
  have hD : va_D A ([(a, .inr (0, [.int mv, .int ct, .ref rk, .ref rv, .ref rb, .ref rf, .ref qh, .ref qc, .int fl, .int (nI mm)])), (qh, .inl (cI, n, .inl G)), (qc, .inl (cI, n, .inl C)), (qk, .inl (cI, n, .inl K)), (rk, .inl (cI, 2 * n, .inl (cpy n K))), (qv, .inl (cI, n, .inl V)), (rv, .inl (cI, 2 * n, .inl (cpy n V))), (qb, .inl (cI, n, .inl P)), (rb, .inl (cI, 2 * n, .inl (cpy n P))), (qf, .inl (cI, n, .inl N)), (rf, .inl (cI, 2 * n, .inl (cpy n N))), (rh, .inl (cI, 2 * n, .inl (fun _ => 0)))]) := hD
  refine va_put (D := D) (ci := 0) (v := .ref rh) (ty := .array .int) (C := R_tb) (T := F_tb) (N := 10) hx hb hts i_tb t_tb t_tb_ok n_tb hown hK hP hD hS 0 rfl rfl 6 (by decide) (hts _ kf_tb_28) (fun _ h9 => h9) rfl (by decide +kernel) rfl rfl (Nat.le_of_ble_eq_true rfl) d_tb_grow_60 (fun H locs hP hD hS => ?_)
  have hP : va_P D cls ([(a, .inr (0, [.int mv, .int ct, .ref rk, .ref rv, .ref rb, .ref rf, .ref rh, .ref qc, .int fl, .int (nI mm)])), (qh, .inl (cI, n, .inl G)), (qc, .inl (cI, n, .inl C)), (qk, .inl (cI, n, .inl K)), (rk, .inl (cI, 2 * n, .inl (cpy n K))), (qv, .inl (cI, n, .inl V)), (rv, .inl (cI, 2 * n, .inl (cpy n V))), (qb, .inl (cI, n, .inl P)), (rb, .inl (cI, 2 * n, .inl (cpy n P))), (qf, .inl (cI, n, .inl N)), (rf, .inl (cI, 2 * n, .inl (cpy n N))), (rh, .inl (cI, 2 * n, .inl (fun _ => 0)))]) H := hP
  have hD : va_D A ([(a, .inr (0, [.int mv, .int ct, .ref rk, .ref rv, .ref rb, .ref rf, .ref rh, .ref qc, .int fl, .int (nI mm)])), (qh, .inl (cI, n, .inl G)), (qc, .inl (cI, n, .inl C)), (qk, .inl (cI, n, .inl K)), (rk, .inl (cI, 2 * n, .inl (cpy n K))), (qv, .inl (cI, n, .inl V)), (rv, .inl (cI, 2 * n, .inl (cpy n V))), (qb, .inl (cI, n, .inl P)), (rb, .inl (cI, 2 * n, .inl (cpy n P))), (qf, .inl (cI, n, .inl N)), (rf, .inl (cI, 2 * n, .inl (cpy n N))), (rh, .inl (cI, 2 * n, .inl (fun _ => 0)))]) := hD
  refine lv_aload_n hx hb d_tb_grow_63 rfl (lv_at hl 1 rfl) ?_
  refine lv_iload_n hx hb d_tb_grow_64 rfl (lv_at hl 0 rfl) ?_
  refine wa_new (k := 2 * n) hx hb hts hK hP hD hS hA (by omega) (by show _ ≤ 6; omega) (by show _ ≤ 6 * (2 * n); omega) d_tb_grow_65 (fun rc H hP hD hS => ?_)
  have hP : va_P D cls ([(a, .inr (0, [.int mv, .int ct, .ref rk, .ref rv, .ref rb, .ref rf, .ref rh, .ref qc, .int fl, .int (nI mm)])), (qh, .inl (cI, n, .inl G)), (qc, .inl (cI, n, .inl C)), (qk, .inl (cI, n, .inl K)), (rk, .inl (cI, 2 * n, .inl (cpy n K))), (qv, .inl (cI, n, .inl V)), (rv, .inl (cI, 2 * n, .inl (cpy n V))), (qb, .inl (cI, n, .inl P)), (rb, .inl (cI, 2 * n, .inl (cpy n P))), (qf, .inl (cI, n, .inl N)), (rf, .inl (cI, 2 * n, .inl (cpy n N))), (rh, .inl (cI, 2 * n, .inl (fun _ => 0))), (rc, .inl (cI, 2 * n, .inl (fun _ => 0)))]) H := hP
  have hD : va_D A ([(a, .inr (0, [.int mv, .int ct, .ref rk, .ref rv, .ref rb, .ref rf, .ref rh, .ref qc, .int fl, .int (nI mm)])), (qh, .inl (cI, n, .inl G)), (qc, .inl (cI, n, .inl C)), (qk, .inl (cI, n, .inl K)), (rk, .inl (cI, 2 * n, .inl (cpy n K))), (qv, .inl (cI, n, .inl V)), (rv, .inl (cI, 2 * n, .inl (cpy n V))), (qb, .inl (cI, n, .inl P)), (rb, .inl (cI, 2 * n, .inl (cpy n P))), (qf, .inl (cI, n, .inl N)), (rf, .inl (cI, 2 * n, .inl (cpy n N))), (rh, .inl (cI, 2 * n, .inl (fun _ => 0))), (rc, .inl (cI, 2 * n, .inl (fun _ => 0)))]) := hD
  refine va_put (D := D) (ci := 0) (v := .ref rc) (ty := .array .int) (C := R_tb) (T := F_tb) (N := 10) hx hb hts i_tb t_tb t_tb_ok n_tb hown hK hP hD hS 0 rfl rfl 7 (by decide) (hts _ kf_tb_31) (fun _ h9 => h9) rfl (by decide +kernel) rfl rfl (Nat.le_of_ble_eq_true rfl) d_tb_grow_67 (fun H locs hP hD hS => ?_)
  have hP : va_P D cls ([(a, .inr (0, [.int mv, .int ct, .ref rk, .ref rv, .ref rb, .ref rf, .ref rh, .ref rc, .int fl, .int (nI mm)])), (qh, .inl (cI, n, .inl G)), (qc, .inl (cI, n, .inl C)), (qk, .inl (cI, n, .inl K)), (rk, .inl (cI, 2 * n, .inl (cpy n K))), (qv, .inl (cI, n, .inl V)), (rv, .inl (cI, 2 * n, .inl (cpy n V))), (qb, .inl (cI, n, .inl P)), (rb, .inl (cI, 2 * n, .inl (cpy n P))), (qf, .inl (cI, n, .inl N)), (rf, .inl (cI, 2 * n, .inl (cpy n N))), (rh, .inl (cI, 2 * n, .inl (fun _ => 0))), (rc, .inl (cI, 2 * n, .inl (fun _ => 0)))]) H := hP
  have hD : va_D A ([(a, .inr (0, [.int mv, .int ct, .ref rk, .ref rv, .ref rb, .ref rf, .ref rh, .ref rc, .int fl, .int (nI mm)])), (qh, .inl (cI, n, .inl G)), (qc, .inl (cI, n, .inl C)), (qk, .inl (cI, n, .inl K)), (rk, .inl (cI, 2 * n, .inl (cpy n K))), (qv, .inl (cI, n, .inl V)), (rv, .inl (cI, 2 * n, .inl (cpy n V))), (qb, .inl (cI, n, .inl P)), (rb, .inl (cI, 2 * n, .inl (cpy n P))), (qf, .inl (cI, n, .inl N)), (rf, .inl (cI, 2 * n, .inl (cpy n N))), (rh, .inl (cI, 2 * n, .inl (fun _ => 0))), (rc, .inl (cI, 2 * n, .inl (fun _ => 0)))]) := hD
  refine lv_iconst (v := 1) hx hb d_tb_grow_70 (by decide) ?_
  refine lv_istore_n (lv' := [(2, .int 1), (1, .int (nI (2 * n))), (0, .ref a)]) hx hb d_tb_grow_71 rfl hl (by decide) rfl (fun ls hl => ?_)
  refine W.widen (k := 6) (n := 6 * (2 * n)) (by omega) (by omega) ?_
  have hP : va_P D cls ([(a, .inr (0, [.int mv, .int ct, .ref rk, .ref rv, .ref rb, .ref rf, .ref rh, .ref rc, .int fl, .int (nI mm)])), (rk, .inl (cI, 2 * n, .inl (cpy n K))), (rv, .inl (cI, 2 * n, .inl (cpy n V))), (rb, .inl (cI, 2 * n, .inl (cpy n P))), (rf, .inl (cI, 2 * n, .inl (cpy n N))), (rh, .inl (cI, 2 * n, .inl (fun _ => 0))), (rc, .inl (cI, 2 * n, .inl (fun _ => 0)))]) H := hP.sub [0, 4, 6, 8, 10, 11, 12] rfl
  have hD : va_D A ([(a, .inr (0, [.int mv, .int ct, .ref rk, .ref rv, .ref rb, .ref rf, .ref rh, .ref rc, .int fl, .int (nI mm)])), (rk, .inl (cI, 2 * n, .inl (cpy n K))), (rv, .inl (cI, 2 * n, .inl (cpy n V))), (rb, .inl (cI, 2 * n, .inl (cpy n P))), (rf, .inl (cI, 2 * n, .inl (cpy n N))), (rh, .inl (cI, 2 * n, .inl (fun _ => 0))), (rc, .inl (cI, 2 * n, .inl (fun _ => 0)))]) := hD.sub [0, 4, 6, 8, 10, 11, 12] (by decide) rfl
  have hP : va_P D cls (tx cI a mv ct rk rv rb rf rh rc (2 * n) (cpy n K) (cpy n V) (cpy n P) (cpy n N) (fun _ => 0) (fun _ => 0) fl (nI mm)) H := hP
  have hD : va_D A (tx cI a mv ct rk rv rb rf rh rc (2 * n) (cpy n K) (cpy n V) (cpy n P) (cpy n N) (fun _ => 0) (fun _ => 0) fl (nI mm)) := hD
  have loop : ∀ (k i : Nat) (G C : Nat → Int32), i + k = mm → (∀ h, h < 2 * n → sg C (G h) (blR (2 * n) (cpy n K) i h) 0) → ∀ (H : Heap) (locs : List Loc), va_P D cls (tx cI a mv ct rk rv rb rf rh rc (2 * n) (cpy n K) (cpy n V) (cpy n P) (cpy n N) G C fl (nI mm)) H → va_D A (tx cI a mv ct rk rv rb rf rh rc (2 * n) (cpy n K) (cpy n V) (cpy n P) (cpy n N) G C fl (nI mm)) → va_S A s.heap H locs → ∀ ls : Array Slot, lv_has ls 3 [(0, .ref a), (1, .int (nI (2 * n))), (2, .int (nI (i + 1)))] → W p l e (rmL 2 6 (6 * (2 * n))) s m args below meth c H locs 6 (6 * (2 * n)) Q (F0 m 72 ls []) := by
    intro k
    induction k with
    | zero =>
      intro i G C hi hg H locs hP hD hS ls hl
      obtain rfl : mm = i := by omega
      refine lv_iload_n hx hb d_tb_grow_72 rfl (lv_at hl 2 rfl) ?_
      refine lv_aload_n hx hb d_tb_grow_73 rfl (lv_at hl 0 rfl) ?_
      refine va_get (D := D) (ci := 0) (v := .int (nI mm)) (C := R_tb) (T := F_tb) (N := 10) hx hb hts i_tb hown hK hP 0 rfl rfl 9 (by decide) (hts _ kf_tb_78) (fun _ h9 => h9) rfl d_tb_grow_74 ?_
      refine lv_icmp_gt (tgt := 91) hx hb d_tb_grow_77 (by decide) (fun _ => ?_) (fun z9 => absurd (nI_lt (by omega) (by omega)) z9)
      exact cg_vret (u := (rk, rv, rb, rf, rh, rc, G, C)) hQ hx hb hr hlk hK hP hD hS (⟨rfl, hg⟩) d_tb_grow_91
    | succ k ih =>
      intro i G C hi hg H locs hP hD hS ls hl
      refine lv_iload_n hx hb d_tb_grow_72 rfl (lv_at hl 2 rfl) ?_
      refine lv_aload_n hx hb d_tb_grow_73 rfl (lv_at hl 0 rfl) ?_
      refine va_get (D := D) (ci := 0) (v := .int (nI mm)) (C := R_tb) (T := F_tb) (N := 10) hx hb hts i_tb hown hK hP 0 rfl rfl 9 (by decide) (hts _ kf_tb_78) (fun _ h9 => h9) rfl d_tb_grow_74 ?_
      refine lv_icmp_gt (tgt := 91) hx hb d_tb_grow_77 (by decide) (fun z9 => absurd z9 (nI_nlt (by omega) (by omega))) (fun _ => ?_)
      refine lv_aload_n hx hb d_tb_grow_80 rfl (lv_at hl 0 rfl) ?_
      refine lv_iload_n hx hb d_tb_grow_81 rfl (lv_at hl 2 rfl) ?_
      refine cg_V (hn := 1) (As := [.int (nI (i + 1))]) (rest := []) (wr := []) (q0 := 0) (ci := 0) hx hb hml hown hts (c_tb_hook l D cI cT cP a mv ct rk rv rb rf rh rc (2 * n) (cpy n K) (cpy n V) (cpy n P) (cpy n N) G C fl (nI mm) hn (t + 1) et2 (by omega) (i + 1) (by omega)) km_tb_98 ki_tb_hook ks_tb_hook kn_tb kc_tb_hook (by decide +kernel) rfl ⟨Nat.le_of_ble_eq_true rfl, Nat.le_of_ble_eq_true rfl⟩ hK hP hD hS hA [0, 1, 2, 3, 4, 5, 6] [] rfl (by decide) rfl (by decide) (by decide) rfl rfl hl.1 rfl (Nat.le_of_ble_eq_true rfl) d_tb_grow_82 ⟨Nat.le_refl _, Nat.le_refl _⟩ (fun v u H locs hpost hP hD hS => ?_)
      subst hpost
      refine W.eq (g2 := F0 m 85 ls []) rfl ?_
      have hP : va_P D cls (tx cI a mv ct rk rv rb rf rh rc (2 * n) (cpy n K) (cpy n V) (cpy n P) (cpy n N) (upd G (hof (2 * n) (cpy n K (i + 1))) (nI (i + 1))) (upd C (i + 1) (G (hof (2 * n) (cpy n K (i + 1))))) fl (nI mm)) H := hP
      have hD : va_D A (tx cI a mv ct rk rv rb rf rh rc (2 * n) (cpy n K) (cpy n V) (cpy n P) (cpy n N) (upd G (hof (2 * n) (cpy n K (i + 1))) (nI (i + 1))) (upd C (i + 1) (G (hof (2 * n) (cpy n K (i + 1))))) fl (nI mm)) := hD
      refine lv_iinc (v := nI (i + 1 + 1)) (lv' := [(2, .int (nI (i + 1 + 1))), (0, .ref a), (1, .int (nI (2 * n)))]) hx hb d_tb_grow_85 hl (k := 2) rfl (nI_1 (i + 1)) (by decide) rfl (fun ls hl => ?_)
      refine lv_goto (tgt := 72) hx hb d_tb_grow_88 (by decide) ?_
      exact ih (i + 1) _ _ (by omega) (blR_add hg) _ _ hP hD hS ls (lv_sub hl [1, 2, 0] rfl)
  exact loop mm 0 _ _ (by omega) (fun h hh => rfl) _ _ hP hD hS ls (lv_sub hl [2, 1, 0] rfl)
end
section
-- Table: the state as a bundle; insert, constructor: printed by wip/whole/gen/tb4.py
abbrev TB : Type := Nat × Nat × Nat × Nat × Nat × Nat × (Nat → Int32) × (Nat → Int32) × (Nat → Int32) × (Nat → Int32) × (Nat → Int32) × (Nat → Int32) × Int32 × Nat × List Nat
/-- a Table's cells, its state in a bundle -/
abbrev tw (cI : ClassId) (a : Nat) (mv : Bool) (j : Nat) (u : TB) : va_W := tx cI a (mvI mv) (nI u.2.2.2.2.2.2.2.2.2.2.2.2.2.2.length) u.1 u.2.1 u.2.2.1 u.2.2.2.1 u.2.2.2.2.1 u.2.2.2.2.2.1 (2 ^ (4 + j)) u.2.2.2.2.2.2.1 u.2.2.2.2.2.2.2.1 u.2.2.2.2.2.2.2.2.1 u.2.2.2.2.2.2.2.2.2.1 u.2.2.2.2.2.2.2.2.2.2.1 u.2.2.2.2.2.2.2.2.2.2.2.1 u.2.2.2.2.2.2.2.2.2.2.2.2.1 (nI u.2.2.2.2.2.2.2.2.2.2.2.2.2.1)
/-- a Table of 16 * 2 ^ j places holds the entries L -/
def TL (j : Nat) (L : List (Int32 × Int32)) (u : TB) : Prop := ∃ (Fr : List Nat) (bl : Nat → List Nat), TA (2 ^ (4 + j)) j u.2.2.2.2.2.2.2.2.2.2.2.2.2.1 u.2.2.2.2.2.2.2.2.2.2.2.2.2.2 Fr ∧ TN u.2.2.2.2.2.2.2.2.1 u.2.2.2.2.2.2.2.2.2.1 u.2.2.2.2.2.2.2.2.2.2.2.2.2.2 ∧ TH (2 ^ (4 + j)) u.2.2.2.2.2.2.1 u.2.2.2.2.2.2.2.2.2.2.1 u.2.2.2.2.2.2.2.2.2.2.2.1 u.2.2.2.2.2.2.2.2.2.2.2.2.1 u.2.2.2.2.2.2.2.2.2.2.2.2.2.2 Fr bl ∧ (u.2.2.2.2.2.2.2.2.2.2.2.2.2.2.map u.2.2.2.2.2.2.1).Nodup ∧ L = kv u.2.2.2.2.2.2.1 u.2.2.2.2.2.2.2.1 u.2.2.2.2.2.2.2.2.2.2.2.2.2.2
/-- how long the rows are once one more entry has come -/
def nj (j len : Nat) : Nat := if len + 1 = 2 ^ (4 + j) then j + 1 else j
def mcT (j j' : Nat) : Nat := 6 * (j' - j)
def msT (j j' : Nat) : Nat := 6 * 2 ^ (5 + j') - 6 * 2 ^ (5 + j)
theorem nI_sub1 {n : Nat} (h : 0 < n) : nI n - 1 = nI (n - 1) := by
  have := nI_pred (n - 1)
  rwa [Nat.sub_add_cancel h] at this
theorem ins_all {n j mm i : Nat} {K V P N G C : Nat → Int32} {fl k v0 : Int32} {R Fr : List Nat} {bl : Nat → List Nat} (hTA : TA n j mm (R ++ [i]) Fr) (hTN : TN P N R) (hTH : TH n K G C fl R Fr bl) (hKn : (R.map K).Nodup) (hk : k ∉ R.map K) : TN (upd (upd P i (nI (ls_ 0 R))) 0 (nI i)) (upd (upd N (ls_ 0 R) (nI i)) i 0) (R ++ [i]) ∧ TH n (upd K i k) (upd G (hof n k) (nI i)) (upd C i (G (hof n k))) fl (R ++ [i]) Fr (blA bl (hof n k) i) ∧ ((R ++ [i]).map (upd K i k)).Nodup ∧ kv K V R ++ [(k, v0)] = kv (upd K i k) (upd V i v0) (R ++ [i]) ∧ i < n ∧ P 0 = nI (ls_ 0 R) := by
  have nd0 := ta_nd0 hTA
  have hi0 : i ∉ 0 :: R := by
    have h1 : (i :: 0 :: R).Perm (0 :: (R ++ [i])) := (List.Perm.swap 0 i R).trans (List.Perm.cons 0 (List.perm_append_singleton i R).symm)
    exact (List.nodup_cons.mp (h1.nodup_iff.mpr nd0)).1
  have hiR : i ∉ R := fun z => hi0 (List.mem_cons_of_mem _ z)
  have hiF : i ∉ Fr := fun z => (List.nodup_append.mp hTA.2.2.1).2.2 i (List.mem_append_right _ (List.mem_cons_self ..)) i z rfl
  have ndR : (0 :: R).Nodup := List.Nodup.sublist (List.Sublist.cons_cons 0 (List.sublist_append_left R [i])) nd0
  have hadd := tn_add ndR hi0 hTN
  have hmap : (R ++ [i]).map (upd K i k) = R.map K ++ [k] := by
    rw [List.map_append]
    congr 1
    · exact List.map_congr_left (fun y hy => pk_un (fun z => hiR (by rw [← z]; exact hy)))
    · show [upd K i k i] = [k]
      rw [pk_us]
  refine ⟨hadd.2, th_add hiR hiF hTH, ?_, ?_, (ta_in hTA (List.mem_append_right _ (List.mem_cons_self ..))).2.2, hadd.1⟩
  · rw [hmap]
    refine List.nodup_append.mpr ⟨hKn, by simp, fun y hy z hz q => ?_⟩
    have h2 : z = k := by simpa using hz
    exact hk (by rw [← h2, ← q]; exact hy)
  · show _ = List.map _ (R ++ [i])
    rw [List.map_append]
    congr 1
    · exact List.map_congr_left (fun y hy => by rw [pk_un (fun z => hiR (by rw [← z]; exact hy)), pk_un (fun z => hiR (by rw [← z]; exact hy))])
    · show [(k, v0)] = [(upd K i k i, upd V i v0 i)]
      rw [pk_us, pk_us]
set_option maxRecDepth 100000 in
set_option maxHeartbeats 4000000 in
/-- insert(k, v0) -/
theorem c_tb_insert (l : Launch) (D : va_G) (cI cT cP : ClassId) (a : Nat) (mv : Bool) (qk qv qb qf qh qc : Nat) (K V P N G C : Nat → Int32) (fl : Int32) (j mm : Nat) (R Fr : List Nat) (bl : Nat → List Nat) (hTA : TA (2 ^ (4 + j)) j mm R Fr) (hTN : TN P N R) (hTH : TH (2 ^ (4 + j)) K G C fl R Fr bl) (hKn : (R.map K).Nodup) (k v0 : Int32) (hk : k ∉ R.map K) (hlen : R.length < 2047) : Cg l y_tb_insert b_tb_insert 4 (none) 3 (mcT j (nj j R.length)) (msT j (nj j R.length)) D (ty3 cI cT cP) [.ref a, .int k, .int v0] (tx cI a (mvI mv) (nI R.length) qk qv qb qf qh qc (2 ^ (4 + j)) K V P N G C fl (nI mm)) (fun (v : Option Value) (u : TB) => v = none ∧ TL (nj j R.length) (kv K V R ++ [(k, v0)]) u) (fun u => tw cI a mv (nj j R.length) u) := by
  refine cg_enter rfl (Nat.le_of_ble_eq_true rfl) ?_
  intro p e s m below meth c args hx hb hr hlk hml hown hin hts A hA hK hP hD hS ls hl Q hQ
  have hl : lv_has ls 4 [(0, .ref a), (1, .int k), (2, .int v0)] := hl
  have hP : va_P D cls (tx cI a (mvI mv) (nI R.length) qk qv qb qf qh qc (2 ^ (4 + j)) K V P N G C fl (nI mm)) s.heap := hP
  have hD : va_D A (tx cI a (mvI mv) (nI R.length) qk qv qb qf qh qc (2 ^ (4 + j)) K V P N G C fl (nI mm)) := hD
  have hn0 := ta_len hTA
  have hn1 := ta_n hTA
  have fin : ∀ (n j2 mm : Nat) (qk qv qb qf qh qc : Nat) (K2 V2 P N G C : Nat → Int32) (fl : Int32) (Fr : List Nat) (bl : Nat → List Nat), TA n j2 mm R Fr → TN P N R → TH n K2 G C fl R Fr bl → (R.map K2).Nodup → k ∉ R.map K2 → kv K V R = kv K2 V2 R → R.length + 1 < n → j2 = nj j R.length → ∀ (H : Heap) (locs : List Loc), va_P D cls (tx cI a (mvI mv) (nI R.length) qk qv qb qf qh qc n K2 V2 P N G C fl (nI mm)) H → va_D A (tx cI a (mvI mv) (nI R.length) qk qv qb qf qh qc n K2 V2 P N G C fl (nI mm)) → va_S A s.heap H locs → ∀ ls : Array Slot, lv_has ls 4 [(0, .ref a), (1, .int k), (2, .int v0)] → W p l e (rmL 3 (mcT j (nj j R.length)) (msT j (nj j R.length))) s m args below meth c H locs (mcT j (nj j R.length)) (msT j (nj j R.length)) Q (F0 m 30 ls []) := by
    clear hP hD hS hTA hTN hTH hKn hk hl hn0 hn1
    intro n j2 mm qk qv qb qf qh qc K2 V2 P N G C fl Fr bl hTA hTN hTH hKn hk ekv hln ej H locs hP hD hS ls hl
    have hn : n < 2 ^ 31 := (ta_len hTA).2.2
    have et := hTA.1.1
    have ht : 4 + j2 ≤ 30 := by have := hTA.1.2; omega
    cases Fr with
    | nil =>
      have hfl : fl = 0 := hTH.1
      subst hfl
      have hTA2 : TA n j2 (mm + 1) (R ++ [mm + 1]) [] := ta_make hTA (by have := hTA.2.2.2.2; simp at this; omega)
      have hTH2 : TH n K2 G C 0 R [] bl := hTH
      obtain ⟨a1, a2, a3, a4, hin1, eP⟩ := ins_all (V := V2) (v0 := v0) hTA2 hTN hTH2 hKn hk
      refine lv_aload_n hx hb d_tb_insert_30 rfl (lv_at hl 0 rfl) ?_
      refine cg_V (hn := 0) (As := []) (rest := []) (wr := []) (q0 := 0) (ci := 0) hx hb hml hown hts (c_tb_freeSlot_n l D cI cT cP a (mvI mv) (nI R.length) qk qv qb qf qh qc n K2 V2 P N G C hn mm) km_tb_94 ki_tb_freeSlot ks_tb_freeSlot kn_tb kc_tb_freeSlot (by decide +kernel) rfl ⟨Nat.le_of_ble_eq_true rfl, Nat.le_of_ble_eq_true rfl⟩ hK hP hD hS hA [0, 1, 2, 3, 4, 5, 6] [] rfl (by decide) rfl (by decide) (by decide) rfl rfl hl.1 rfl (Nat.le_of_ble_eq_true rfl) d_tb_insert_31 ⟨Nat.le_refl _, Nat.le_refl _⟩ (fun v u H locs hpost hP hD hS => ?_)
      subst hpost
      refine W.eq (g2 := F0 m 34 ls [.int (nI (mm + 1))]) rfl ?_
      have hP : va_P D cls (tx cI a (mvI mv) (nI R.length) qk qv qb qf qh qc n K2 V2 P N G C 0 (nI (mm + 1))) H := hP
      have hD : va_D A (tx cI a (mvI mv) (nI R.length) qk qv qb qf qh qc n K2 V2 P N G C 0 (nI (mm + 1))) := hD
      refine lv_istore_n (lv' := [(3, .int (nI (mm + 1))), (0, .ref a), (1, .int k), (2, .int v0)]) hx hb d_tb_insert_34 rfl hl (by decide) rfl (fun ls hl => ?_)
      refine lv_aload_n hx hb d_tb_insert_35 rfl (lv_at hl 1 rfl) ?_
      refine va_get (D := D) (ci := 0) (v := .ref qk) (C := R_tb) (T := F_tb) (N := 10) hx hb hts i_tb hown hK hP 0 rfl rfl 2 (by decide) (hts _ kf_tb_15) (fun _ h9 => h9) rfl d_tb_insert_36 ?_
      refine lv_iload_n hx hb d_tb_insert_39 rfl (lv_at hl 0 rfl) ?_
      refine lv_iload_n hx hb d_tb_insert_40 rfl (lv_at hl 2 rfl) ?_
      refine wa_st (k := mm + 1) (x := k) hx hb hK hP hD hS 1 0 rfl rfl hin1 hn d_tb_insert_41 (fun H locs hP hD hS => ?_)
      have hP : va_P D cls (tx cI a (mvI mv) (nI R.length) qk qv qb qf qh qc n (upd K2 (mm + 1) k) V2 P N G C 0 (nI (mm + 1))) H := hP
      have hD : va_D A (tx cI a (mvI mv) (nI R.length) qk qv qb qf qh qc n (upd K2 (mm + 1) k) V2 P N G C 0 (nI (mm + 1))) := hD
      refine lv_aload_n hx hb d_tb_insert_42 rfl (lv_at hl 1 rfl) ?_
      refine va_get (D := D) (ci := 0) (v := .ref qv) (C := R_tb) (T := F_tb) (N := 10) hx hb hts i_tb hown hK hP 0 rfl rfl 3 (by decide) (hts _ kf_tb_19) (fun _ h9 => h9) rfl d_tb_insert_43 ?_
      refine lv_iload_n hx hb d_tb_insert_46 rfl (lv_at hl 0 rfl) ?_
      refine lv_iload_n hx hb d_tb_insert_47 rfl (lv_at hl 3 rfl) ?_
      refine wa_st (k := mm + 1) (x := v0) hx hb hK hP hD hS 2 0 rfl rfl hin1 hn d_tb_insert_48 (fun H locs hP hD hS => ?_)
      have hP : va_P D cls (tx cI a (mvI mv) (nI R.length) qk qv qb qf qh qc n (upd K2 (mm + 1) k) (upd V2 (mm + 1) v0) P N G C 0 (nI (mm + 1))) H := hP
      have hD : va_D A (tx cI a (mvI mv) (nI R.length) qk qv qb qf qh qc n (upd K2 (mm + 1) k) (upd V2 (mm + 1) v0) P N G C 0 (nI (mm + 1))) := hD
      refine lv_aload_n hx hb d_tb_insert_49 rfl (lv_at hl 1 rfl) ?_
      refine lv_iload_n hx hb d_tb_insert_50 rfl (lv_at hl 0 rfl) ?_
      refine cg_V (hn := 1) (As := [.int (nI (mm + 1))]) (rest := []) (wr := []) (q0 := 0) (ci := 0) hx hb hml hown hts (c_tb_hook l D cI cT cP a (mvI mv) (nI R.length) qk qv qb qf qh qc n (upd K2 (mm + 1) k) (upd V2 (mm + 1) v0) P N G C 0 (nI (mm + 1)) hn (4 + j2) et ht (mm + 1) hin1) km_tb_98 ki_tb_hook ks_tb_hook kn_tb kc_tb_hook (by decide +kernel) rfl ⟨Nat.le_of_ble_eq_true rfl, Nat.le_of_ble_eq_true rfl⟩ hK hP hD hS hA [0, 1, 2, 3, 4, 5, 6] [] rfl (by decide) rfl (by decide) (by decide) rfl rfl hl.1 rfl (Nat.le_of_ble_eq_true rfl) d_tb_insert_51 ⟨Nat.le_refl _, Nat.le_refl _⟩ (fun v u H locs hpost hP hD hS => ?_)
      subst hpost
      rw [pk_us] at hP hD
      refine W.eq (g2 := F0 m 54 ls []) rfl ?_
      have hP : va_P D cls (tx cI a (mvI mv) (nI R.length) qk qv qb qf qh qc n (upd K2 (mm + 1) k) (upd V2 (mm + 1) v0) P N (upd G (hof n k) (nI (mm + 1))) (upd C (mm + 1) (G (hof n k))) 0 (nI (mm + 1))) H := hP
      have hD : va_D A (tx cI a (mvI mv) (nI R.length) qk qv qb qf qh qc n (upd K2 (mm + 1) k) (upd V2 (mm + 1) v0) P N (upd G (hof n k) (nI (mm + 1))) (upd C (mm + 1) (G (hof n k))) 0 (nI (mm + 1))) := hD
      refine lv_aload_n hx hb d_tb_insert_54 rfl (lv_at hl 1 rfl) ?_
      refine lv_iload_n hx hb d_tb_insert_55 rfl (lv_at hl 0 rfl) ?_
      refine cg_V (hn := 1) (As := [.int (nI (mm + 1))]) (rest := []) (wr := []) (q0 := 0) (ci := 0) hx hb hml hown hts (c_tb_linkLast l D cI cT cP a (mvI mv) (nI R.length) qk qv qb qf qh qc n (upd K2 (mm + 1) k) (upd V2 (mm + 1) v0) P N (upd G (hof n k) (nI (mm + 1))) (upd C (mm + 1) (G (hof n k))) 0 (nI (mm + 1)) hn (mm + 1) (ls_ 0 R) hin1 (ta_ls hTA (l1 := R) (l2 := []) (by simp)) eP) km_tb_101 ki_tb_linkLast ks_tb_linkLast kn_tb kc_tb_linkLast (by decide +kernel) rfl ⟨Nat.le_of_ble_eq_true rfl, Nat.le_of_ble_eq_true rfl⟩ hK hP hD hS hA [0, 1, 2, 3, 4, 5, 6] [] rfl (by decide) rfl (by decide) (by decide) rfl rfl hl.1 rfl (Nat.le_of_ble_eq_true rfl) d_tb_insert_56 ⟨Nat.le_refl _, Nat.le_refl _⟩ (fun v u H locs hpost hP hD hS => ?_)
      subst hpost
      refine W.eq (g2 := F0 m 59 ls []) rfl ?_
      have hP : va_P D cls (tx cI a (mvI mv) (nI R.length) qk qv qb qf qh qc n (upd K2 (mm + 1) k) (upd V2 (mm + 1) v0) (upd (upd P (mm + 1) (nI (ls_ 0 R))) 0 (nI (mm + 1))) (upd (upd N (ls_ 0 R) (nI (mm + 1))) (mm + 1) 0) (upd G (hof n k) (nI (mm + 1))) (upd C (mm + 1) (G (hof n k))) 0 (nI (mm + 1))) H := hP
      have hD : va_D A (tx cI a (mvI mv) (nI R.length) qk qv qb qf qh qc n (upd K2 (mm + 1) k) (upd V2 (mm + 1) v0) (upd (upd P (mm + 1) (nI (ls_ 0 R))) 0 (nI (mm + 1))) (upd (upd N (ls_ 0 R) (nI (mm + 1))) (mm + 1) 0) (upd G (hof n k) (nI (mm + 1))) (upd C (mm + 1) (G (hof n k))) 0 (nI (mm + 1))) := hD
      refine lv_aload_n hx hb d_tb_insert_59 rfl (lv_at hl 1 rfl) ?_
      refine lv_dup hx hb d_tb_insert_60 rfl ?_
      refine va_get (D := D) (ci := 0) (v := .int (nI R.length)) (C := R_tb) (T := F_tb) (N := 10) hx hb hts i_tb hown hK hP 0 rfl rfl 1 (by decide) (hts _ kf_tb_52) (fun _ h9 => h9) rfl d_tb_insert_61 ?_
      refine lv_iconst (v := 1) hx hb d_tb_insert_64 (by decide) ?_
      refine lv_iadd hx hb d_tb_insert_65 ?_
      refine tp_i (y := nI (R ++ [(mm + 1)]).length) (by rw [List.length_append]; exact nI_1 _) ?_
      refine va_put (D := D) (ci := 0) (v := .int (nI (R ++ [(mm + 1)]).length)) (ty := .int) (C := R_tb) (T := F_tb) (N := 10) hx hb hts i_tb t_tb t_tb_ok n_tb hown hK hP hD hS 0 rfl rfl 1 (by decide) (hts _ kf_tb_52) (fun _ h9 => h9) rfl (by decide +kernel) rfl rfl (Nat.le_of_ble_eq_true rfl) d_tb_insert_66 (fun H locs hP hD hS => ?_)
      have hP : va_P D cls (tx cI a (mvI mv) (nI (R ++ [(mm + 1)]).length) qk qv qb qf qh qc n (upd K2 (mm + 1) k) (upd V2 (mm + 1) v0) (upd (upd P (mm + 1) (nI (ls_ 0 R))) 0 (nI (mm + 1))) (upd (upd N (ls_ 0 R) (nI (mm + 1))) (mm + 1) 0) (upd G (hof n k) (nI (mm + 1))) (upd C (mm + 1) (G (hof n k))) 0 (nI (mm + 1))) H := hP
      have hD : va_D A (tx cI a (mvI mv) (nI (R ++ [(mm + 1)]).length) qk qv qb qf qh qc n (upd K2 (mm + 1) k) (upd V2 (mm + 1) v0) (upd (upd P (mm + 1) (nI (ls_ 0 R))) 0 (nI (mm + 1))) (upd (upd N (ls_ 0 R) (nI (mm + 1))) (mm + 1) 0) (upd G (hof n k) (nI (mm + 1))) (upd C (mm + 1) (G (hof n k))) 0 (nI (mm + 1))) := hD
      subst ej
      subst et
      exact cg_vret (u := (qk, qv, qb, qf, qh, qc, (upd K2 (mm + 1) k), (upd V2 (mm + 1) v0), (upd (upd P (mm + 1) (nI (ls_ 0 R))) 0 (nI (mm + 1))), (upd (upd N (ls_ 0 R) (nI (mm + 1))) (mm + 1) 0), (upd G (hof (2 ^ (4 + nj j R.length)) k) (nI (mm + 1))), (upd C (mm + 1) (G (hof (2 ^ (4 + nj j R.length)) k))), 0, (mm + 1), R ++ [(mm + 1)])) hQ hx hb hr hlk hK hP hD hS (⟨rfl, [], _, hTA2, a1, a2, a3, by rw [ekv]; exact a4⟩) d_tb_insert_69
    | cons x Fr =>
      have hfl : fl = nI x := hTH.1.1
      subst hfl
      have hTA2 : TA n j2 mm (R ++ [x]) Fr := ta_take hTA
      have hTH2 : TH n K2 G C (C x) R Fr bl := ⟨hTH.1.2, hTH.2⟩
      have hxn := ta_inF hTA (List.mem_cons_self ..)
      obtain ⟨a1, a2, a3, a4, hin1, eP⟩ := ins_all (V := V2) (v0 := v0) hTA2 hTN hTH2 hKn hk
      refine lv_aload_n hx hb d_tb_insert_30 rfl (lv_at hl 0 rfl) ?_
      refine cg_V (hn := 0) (As := []) (rest := []) (wr := []) (q0 := 0) (ci := 0) hx hb hml hown hts (c_tb_freeSlot l D cI cT cP a (mvI mv) (nI R.length) qk qv qb qf qh qc n K2 V2 P N G C (nI mm) hn x hxn.2.2 hxn.1) km_tb_94 ki_tb_freeSlot ks_tb_freeSlot kn_tb kc_tb_freeSlot (by decide +kernel) rfl ⟨Nat.le_of_ble_eq_true rfl, Nat.le_of_ble_eq_true rfl⟩ hK hP hD hS hA [0, 1, 2, 3, 4, 5, 6] [] rfl (by decide) rfl (by decide) (by decide) rfl rfl hl.1 rfl (Nat.le_of_ble_eq_true rfl) d_tb_insert_31 ⟨Nat.le_refl _, Nat.le_refl _⟩ (fun v u H locs hpost hP hD hS => ?_)
      subst hpost
      refine W.eq (g2 := F0 m 34 ls [.int (nI x)]) rfl ?_
      have hP : va_P D cls (tx cI a (mvI mv) (nI R.length) qk qv qb qf qh qc n K2 V2 P N G C (C x) (nI mm)) H := hP
      have hD : va_D A (tx cI a (mvI mv) (nI R.length) qk qv qb qf qh qc n K2 V2 P N G C (C x) (nI mm)) := hD
      refine lv_istore_n (lv' := [(3, .int (nI x)), (0, .ref a), (1, .int k), (2, .int v0)]) hx hb d_tb_insert_34 rfl hl (by decide) rfl (fun ls hl => ?_)
      refine lv_aload_n hx hb d_tb_insert_35 rfl (lv_at hl 1 rfl) ?_
      refine va_get (D := D) (ci := 0) (v := .ref qk) (C := R_tb) (T := F_tb) (N := 10) hx hb hts i_tb hown hK hP 0 rfl rfl 2 (by decide) (hts _ kf_tb_15) (fun _ h9 => h9) rfl d_tb_insert_36 ?_
      refine lv_iload_n hx hb d_tb_insert_39 rfl (lv_at hl 0 rfl) ?_
      refine lv_iload_n hx hb d_tb_insert_40 rfl (lv_at hl 2 rfl) ?_
      refine wa_st (k := x) (x := k) hx hb hK hP hD hS 1 0 rfl rfl hin1 hn d_tb_insert_41 (fun H locs hP hD hS => ?_)
      have hP : va_P D cls (tx cI a (mvI mv) (nI R.length) qk qv qb qf qh qc n (upd K2 x k) V2 P N G C (C x) (nI mm)) H := hP
      have hD : va_D A (tx cI a (mvI mv) (nI R.length) qk qv qb qf qh qc n (upd K2 x k) V2 P N G C (C x) (nI mm)) := hD
      refine lv_aload_n hx hb d_tb_insert_42 rfl (lv_at hl 1 rfl) ?_
      refine va_get (D := D) (ci := 0) (v := .ref qv) (C := R_tb) (T := F_tb) (N := 10) hx hb hts i_tb hown hK hP 0 rfl rfl 3 (by decide) (hts _ kf_tb_19) (fun _ h9 => h9) rfl d_tb_insert_43 ?_
      refine lv_iload_n hx hb d_tb_insert_46 rfl (lv_at hl 0 rfl) ?_
      refine lv_iload_n hx hb d_tb_insert_47 rfl (lv_at hl 3 rfl) ?_
      refine wa_st (k := x) (x := v0) hx hb hK hP hD hS 2 0 rfl rfl hin1 hn d_tb_insert_48 (fun H locs hP hD hS => ?_)
      have hP : va_P D cls (tx cI a (mvI mv) (nI R.length) qk qv qb qf qh qc n (upd K2 x k) (upd V2 x v0) P N G C (C x) (nI mm)) H := hP
      have hD : va_D A (tx cI a (mvI mv) (nI R.length) qk qv qb qf qh qc n (upd K2 x k) (upd V2 x v0) P N G C (C x) (nI mm)) := hD
      refine lv_aload_n hx hb d_tb_insert_49 rfl (lv_at hl 1 rfl) ?_
      refine lv_iload_n hx hb d_tb_insert_50 rfl (lv_at hl 0 rfl) ?_
      refine cg_V (hn := 1) (As := [.int (nI x)]) (rest := []) (wr := []) (q0 := 0) (ci := 0) hx hb hml hown hts (c_tb_hook l D cI cT cP a (mvI mv) (nI R.length) qk qv qb qf qh qc n (upd K2 x k) (upd V2 x v0) P N G C (C x) (nI mm) hn (4 + j2) et ht x hin1) km_tb_98 ki_tb_hook ks_tb_hook kn_tb kc_tb_hook (by decide +kernel) rfl ⟨Nat.le_of_ble_eq_true rfl, Nat.le_of_ble_eq_true rfl⟩ hK hP hD hS hA [0, 1, 2, 3, 4, 5, 6] [] rfl (by decide) rfl (by decide) (by decide) rfl rfl hl.1 rfl (Nat.le_of_ble_eq_true rfl) d_tb_insert_51 ⟨Nat.le_refl _, Nat.le_refl _⟩ (fun v u H locs hpost hP hD hS => ?_)
      subst hpost
      rw [pk_us] at hP hD
      refine W.eq (g2 := F0 m 54 ls []) rfl ?_
      have hP : va_P D cls (tx cI a (mvI mv) (nI R.length) qk qv qb qf qh qc n (upd K2 x k) (upd V2 x v0) P N (upd G (hof n k) (nI x)) (upd C x (G (hof n k))) (C x) (nI mm)) H := hP
      have hD : va_D A (tx cI a (mvI mv) (nI R.length) qk qv qb qf qh qc n (upd K2 x k) (upd V2 x v0) P N (upd G (hof n k) (nI x)) (upd C x (G (hof n k))) (C x) (nI mm)) := hD
      refine lv_aload_n hx hb d_tb_insert_54 rfl (lv_at hl 1 rfl) ?_
      refine lv_iload_n hx hb d_tb_insert_55 rfl (lv_at hl 0 rfl) ?_
      refine cg_V (hn := 1) (As := [.int (nI x)]) (rest := []) (wr := []) (q0 := 0) (ci := 0) hx hb hml hown hts (c_tb_linkLast l D cI cT cP a (mvI mv) (nI R.length) qk qv qb qf qh qc n (upd K2 x k) (upd V2 x v0) P N (upd G (hof n k) (nI x)) (upd C x (G (hof n k))) (C x) (nI mm) hn x (ls_ 0 R) hin1 (ta_ls hTA (l1 := R) (l2 := []) (by simp)) eP) km_tb_101 ki_tb_linkLast ks_tb_linkLast kn_tb kc_tb_linkLast (by decide +kernel) rfl ⟨Nat.le_of_ble_eq_true rfl, Nat.le_of_ble_eq_true rfl⟩ hK hP hD hS hA [0, 1, 2, 3, 4, 5, 6] [] rfl (by decide) rfl (by decide) (by decide) rfl rfl hl.1 rfl (Nat.le_of_ble_eq_true rfl) d_tb_insert_56 ⟨Nat.le_refl _, Nat.le_refl _⟩ (fun v u H locs hpost hP hD hS => ?_)
      subst hpost
      refine W.eq (g2 := F0 m 59 ls []) rfl ?_
      have hP : va_P D cls (tx cI a (mvI mv) (nI R.length) qk qv qb qf qh qc n (upd K2 x k) (upd V2 x v0) (upd (upd P x (nI (ls_ 0 R))) 0 (nI x)) (upd (upd N (ls_ 0 R) (nI x)) x 0) (upd G (hof n k) (nI x)) (upd C x (G (hof n k))) (C x) (nI mm)) H := hP
      have hD : va_D A (tx cI a (mvI mv) (nI R.length) qk qv qb qf qh qc n (upd K2 x k) (upd V2 x v0) (upd (upd P x (nI (ls_ 0 R))) 0 (nI x)) (upd (upd N (ls_ 0 R) (nI x)) x 0) (upd G (hof n k) (nI x)) (upd C x (G (hof n k))) (C x) (nI mm)) := hD
      refine lv_aload_n hx hb d_tb_insert_59 rfl (lv_at hl 1 rfl) ?_
      refine lv_dup hx hb d_tb_insert_60 rfl ?_
      refine va_get (D := D) (ci := 0) (v := .int (nI R.length)) (C := R_tb) (T := F_tb) (N := 10) hx hb hts i_tb hown hK hP 0 rfl rfl 1 (by decide) (hts _ kf_tb_52) (fun _ h9 => h9) rfl d_tb_insert_61 ?_
      refine lv_iconst (v := 1) hx hb d_tb_insert_64 (by decide) ?_
      refine lv_iadd hx hb d_tb_insert_65 ?_
      refine tp_i (y := nI (R ++ [x]).length) (by rw [List.length_append]; exact nI_1 _) ?_
      refine va_put (D := D) (ci := 0) (v := .int (nI (R ++ [x]).length)) (ty := .int) (C := R_tb) (T := F_tb) (N := 10) hx hb hts i_tb t_tb t_tb_ok n_tb hown hK hP hD hS 0 rfl rfl 1 (by decide) (hts _ kf_tb_52) (fun _ h9 => h9) rfl (by decide +kernel) rfl rfl (Nat.le_of_ble_eq_true rfl) d_tb_insert_66 (fun H locs hP hD hS => ?_)
      have hP : va_P D cls (tx cI a (mvI mv) (nI (R ++ [x]).length) qk qv qb qf qh qc n (upd K2 x k) (upd V2 x v0) (upd (upd P x (nI (ls_ 0 R))) 0 (nI x)) (upd (upd N (ls_ 0 R) (nI x)) x 0) (upd G (hof n k) (nI x)) (upd C x (G (hof n k))) (C x) (nI mm)) H := hP
      have hD : va_D A (tx cI a (mvI mv) (nI (R ++ [x]).length) qk qv qb qf qh qc n (upd K2 x k) (upd V2 x v0) (upd (upd P x (nI (ls_ 0 R))) 0 (nI x)) (upd (upd N (ls_ 0 R) (nI x)) x 0) (upd G (hof n k) (nI x)) (upd C x (G (hof n k))) (C x) (nI mm)) := hD
      subst ej
      subst et
      exact cg_vret (u := (qk, qv, qb, qf, qh, qc, (upd K2 x k), (upd V2 x v0), (upd (upd P x (nI (ls_ 0 R))) 0 (nI x)), (upd (upd N (ls_ 0 R) (nI x)) x 0), (upd G (hof (2 ^ (4 + nj j R.length)) k) (nI x)), (upd C x (G (hof (2 ^ (4 + nj j R.length)) k))), (C x), mm, R ++ [x])) hQ hx hb hr hlk hK hP hD hS (⟨rfl, Fr, _, hTA2, a1, a2, a3, by rw [ekv]; exact a4⟩) d_tb_insert_69
  refine lv_aload_n hx hb d_tb_insert_0 rfl (lv_at hl 0 rfl) ?_
  refine va_get (D := D) (ci := 0) (v := .int (nI R.length)) (C := R_tb) (T := F_tb) (N := 10) hx hb hts i_tb hown hK hP 0 rfl rfl 1 (by decide) (hts _ kf_tb_52) (fun _ h9 => h9) rfl d_tb_insert_1 ?_
  refine lv_aload_n hx hb d_tb_insert_4 rfl (lv_at hl 0 rfl) ?_
  refine va_get (D := D) (ci := 0) (v := .ref qk) (C := R_tb) (T := F_tb) (N := 10) hx hb hts i_tb hown hK hP 0 rfl rfl 2 (by decide) (hts _ kf_tb_15) (fun _ h9 => h9) rfl d_tb_insert_5 ?_
  refine va_alen (v := nI (2 ^ (4 + j))) hx hb hK hP 1 0 rfl rfl rfl d_tb_insert_8 ?_
  refine lv_iconst (v := 1) hx hb d_tb_insert_9 (by decide) ?_
  refine lv_isub hx hb d_tb_insert_10 ?_
  refine tp_i (y := nI (2 ^ (4 + j) - 1)) (nI_sub1 (by omega)) ?_
  refine lv_icmp_ne (tgt := 30) hx hb d_tb_insert_11 (by decide) (fun c1 => ?_) (fun c1 => ?_)
  · have c2 : ¬ R.length + 1 = 2 ^ (4 + j) := fun z9 => c1 (by rw [show R.length = 2 ^ (4 + j) - 1 by omega])
    refine W.widen (k := mcT j (nj j R.length)) (n := msT j (nj j R.length)) (Nat.zero_le _) (Nat.zero_le _) ?_
    exact fin _ j mm qk qv qb qf qh qc K V P N G C fl Fr bl hTA hTN hTH hKn hk rfl (by omega) (by unfold nj; rw [if_neg c2]) _ _ hP hD hS ls (lv_sub hl [0, 1, 2] rfl)
  · have c2 : R.length + 1 = 2 ^ (4 + j) := by have := (nI_eq (by omega) (by omega)).mp c1; omega
    have hj7 : j < 7 := by
      have h7 := hTA.1.2
      rcases Nat.lt_or_ge j 7 with h | h
      · exact h
      · have : j = 7 := by omega
        subst this
        omega
    have enj : nj j R.length = j + 1 := by unfold nj; rw [if_pos c2]
    obtain ⟨eF, em, hTA2⟩ := ta_grow hTA c2 hj7
    subst eF
    have hfl : fl = 0 := hTH.1
    subst hfl
    have hmc : mcT j (nj j R.length) = 6 := by rw [enj]; unfold mcT; omega
    have hms : msT j (nj j R.length) = 6 * (2 * 2 ^ (4 + j)) := by
      rw [enj]
      unfold msT
      have e1 : 2 ^ (5 + (j + 1)) = 4 * 2 ^ (4 + j) := by rw [show 5 + (j + 1) = 4 + j + 2 by omega, Nat.pow_add]; omega
      have e2 : 2 ^ (5 + j) = 2 * 2 ^ (4 + j) := by rw [show 5 + j = 4 + j + 1 by omega, Nat.pow_succ]; omega
      omega
    refine lv_aload_n hx hb d_tb_insert_14 rfl (lv_at hl 0 rfl) ?_
    refine va_get (D := D) (ci := 0) (v := .ref qk) (C := R_tb) (T := F_tb) (N := 10) hx hb hts i_tb hown hK hP 0 rfl rfl 2 (by decide) (hts _ kf_tb_15) (fun _ h9 => h9) rfl d_tb_insert_15 ?_
    refine va_alen (v := nI (2 ^ (4 + j))) hx hb hK hP 1 0 rfl rfl rfl d_tb_insert_18 ?_
    refine lv_sipush (v := 2048) hx hb d_tb_insert_19 (by decide) ?_
    refine lv_icmp_lt (tgt := 26) hx hb d_tb_insert_22 (by decide) (fun _ => ?_) (fun z9 => absurd (nI_lt (a := 2 ^ (4 + j)) (b := 2048) (by omega) (by decide)) z9)
    refine lv_aload_n hx hb d_tb_insert_26 rfl (lv_at hl 0 rfl) ?_
    refine cg_V (hn := 0) (As := []) (rest := []) (wr := []) (q0 := 0) (ci := 0) hx hb hml hown hts (c_tb_grow l D cI cT cP a (mvI mv) (nI R.length) qk qv qb qf qh qc (2 ^ (4 + j)) K V P N G C 0 (4 + j) mm rfl (by omega) hTA.2.1) km_tb_91 ki_tb_grow ks_tb_grow kn_tb kc_tb_grow (by decide +kernel) rfl ⟨Nat.le_of_ble_eq_true rfl, Nat.le_of_ble_eq_true rfl⟩ hK hP hD hS hA [0, 1, 2, 3, 4, 5, 6] [] rfl (by decide) rfl (by decide) (by decide) rfl rfl hl.1 rfl (Nat.le_of_ble_eq_true rfl) d_tb_insert_27 ⟨by show _ ≤ mcT j (nj j R.length); omega, by show _ ≤ msT j (nj j R.length); omega⟩ (fun v u H locs hpost hP hD hS => ?_)
    obtain ⟨rk, rv, rb, rf, rh, rc, G2, C2⟩ := u
    obtain ⟨e9, hg⟩ := hpost
    subst e9
    refine W.eq (g2 := F0 m 30 ls []) rfl ?_
    have hP : va_P D cls (tx cI a (mvI mv) (nI R.length) rk rv rb rf rh rc (2 * 2 ^ (4 + j)) (cpy (2 ^ (4 + j)) K) (cpy (2 ^ (4 + j)) V) (cpy (2 ^ (4 + j)) P) (cpy (2 ^ (4 + j)) N) G2 C2 0 (nI mm)) H := hP
    have hD : va_D A (tx cI a (mvI mv) (nI R.length) rk rv rb rf rh rc (2 * 2 ^ (4 + j)) (cpy (2 ^ (4 + j)) K) (cpy (2 ^ (4 + j)) V) (cpy (2 ^ (4 + j)) P) (cpy (2 ^ (4 + j)) N) G2 C2 0 (nI mm)) := hD
    have hcp : ∀ (f : Nat → Int32) (y : Nat), y ∈ R → cpy (2 ^ (4 + j)) f y = f y := fun f y hy => cpy_in (ta_in hTA hy).2.2
    have hc0 : ∀ f : Nat → Int32, cpy (2 ^ (4 + j)) f 0 = f 0 := fun f => cpy_in (by omega)
    have hTN2 : TN (cpy (2 ^ (4 + j)) P) (cpy (2 ^ (4 + j)) N) R := by
      refine ⟨?_, ?_⟩
      · rw [hc0]; exact sg_cong (fun y hy => hcp N y hy) hTN.1
      · rw [hc0]; exact sg_cong (fun y hy => hcp P y (List.mem_reverse.mp hy)) hTN.2
    have hmK : R.map (cpy (2 ^ (4 + j)) K) = R.map K := List.map_congr_left (fun y hy => hcp K y hy)
    have hkv : kv K V R = kv (cpy (2 ^ (4 + j)) K) (cpy (2 ^ (4 + j)) V) R := List.map_congr_left (fun y hy => by rw [hcp K y hy, hcp V y hy])
    refine W.widen (k := mcT j (nj j R.length)) (n := msT j (nj j R.length)) (by omega) (by omega) ?_
    exact fin _ (j + 1) mm rk rv rb rf rh rc _ _ _ _ G2 C2 0 [] _ hTA2 hTN2 (th_grow hTA2 hg) (by rw [hmK]; exact hKn) (by rw [hmK]; exact hk) hkv (by omega) enj.symm _ _ hP hD hS ls (lv_sub hl [0, 1, 2] rfl)
set_option maxRecDepth 100000 in
set_option maxHeartbeats 4000000 in
/-- new Table(mv) -/
theorem c_tb_init (l : Launch) (D : va_G) (cI cT cP : ClassId) (a : Nat) (mv : Bool) : Cg l y_tb_init b_tb_init 2 (none) 1 6 96 D (ty3 cI cT cP) [.ref a, .int (mvI mv)] ([(a, .inr (0, [.int 0, .int 0, .null, .null, .null, .null, .null, .null, .int 0, .int 0]))]) (fun (v : Option Value) (u : TB) => v = none ∧ TL 0 [] u) (fun u => tw cI a mv 0 u) := by
  refine cg_enter rfl (Nat.le_of_ble_eq_true rfl) ?_
  intro p e s m below meth c args hx hb hr hlk hml hown hin hts A hA hK hP hD hS ls hl Q hQ
  have hl : lv_has ls 2 [(0, .ref a), (1, .int (mvI mv))] := hl
  have hP : va_P D cls ([(a, .inr (0, [.int 0, .int 0, .null, .null, .null, .null, .null, .null, .int 0, .int 0]))]) s.heap := hP
  have hD : va_D A ([(a, .inr (0, [.int 0, .int 0, .null, .null, .null, .null, .null, .null, .int 0, .int 0]))]) := hD
  refine lv_aload_n hx hb d_tb_init_0 rfl (lv_at hl 0 rfl) ?_
  refine W.objInit hx hb hown (hts _ km_tb_3) (hts _ ki_jo_init) (hts _ kc_jo_init) rfl (by rw [hml]; exact hl.1) rfl d_tb_init_1 (Nat.le_of_ble_eq_true rfl) (Nat.le_of_ble_eq_true rfl) ?_
  refine lv_aload_n hx hb d_tb_init_4 rfl (lv_at hl 0 rfl) ?_
  refine lv_iload_n hx hb d_tb_init_5 rfl (lv_at hl 1 rfl) ?_
  refine va_putF (D := D) (ci := 0) (v := .int (mvI mv)) (ty := .boolean) (C := R_tb) (T := F_tb) (N := 10) hx hb hts i_tb t_tb t_tb_ok n_tb hown hK hP hD hS 0 rfl rfl 0 (by decide) (hts _ kf_tb_9) (fun _ h9 => h9) rfl hin rfl (by decide +kernel) (by cases mv <;> rfl) (by cases mv <;> rfl) (Nat.le_of_ble_eq_true rfl) d_tb_init_6 (fun H locs hP hD hS => ?_)
  have hP : va_P D cls ([(a, .inr (0, [.int (mvI mv), .int 0, .null, .null, .null, .null, .null, .null, .int 0, .int 0]))]) H := hP
  have hD : va_D A ([(a, .inr (0, [.int (mvI mv), .int 0, .null, .null, .null, .null, .null, .null, .int 0, .int 0]))]) := hD
  refine lv_aload_n hx hb d_tb_init_9 rfl (lv_at hl 0 rfl) ?_
  refine lv_bipush (v := 16) hx hb d_tb_init_10 (by decide) ?_
  refine wa_new (k := 16) hx hb hts hK hP hD hS hA (by decide) (by decide) (by decide) d_tb_init_12 (fun rk H hP hD hS => ?_)
  have hP : va_P D cls ([(a, .inr (0, [.int (mvI mv), .int 0, .null, .null, .null, .null, .null, .null, .int 0, .int 0])), (rk, .inl (cI, 16, .inl (fun _ => 0)))]) H := hP
  have hD : va_D A ([(a, .inr (0, [.int (mvI mv), .int 0, .null, .null, .null, .null, .null, .null, .int 0, .int 0])), (rk, .inl (cI, 16, .inl (fun _ => 0)))]) := hD
  refine va_put (D := D) (ci := 0) (v := .ref rk) (ty := .array .int) (C := R_tb) (T := F_tb) (N := 10) hx hb hts i_tb t_tb t_tb_ok n_tb hown hK hP hD hS 0 rfl rfl 2 (by decide) (hts _ kf_tb_15) (fun _ h9 => h9) rfl (by decide +kernel) rfl rfl (Nat.le_of_ble_eq_true rfl) d_tb_init_14 (fun H locs hP hD hS => ?_)
  have hP : va_P D cls ([(a, .inr (0, [.int (mvI mv), .int 0, .ref rk, .null, .null, .null, .null, .null, .int 0, .int 0])), (rk, .inl (cI, 16, .inl (fun _ => 0)))]) H := hP
  have hD : va_D A ([(a, .inr (0, [.int (mvI mv), .int 0, .ref rk, .null, .null, .null, .null, .null, .int 0, .int 0])), (rk, .inl (cI, 16, .inl (fun _ => 0)))]) := hD
  refine lv_aload_n hx hb d_tb_init_17 rfl (lv_at hl 0 rfl) ?_
  refine lv_bipush (v := 16) hx hb d_tb_init_18 (by decide) ?_
  refine wa_new (k := 16) hx hb hts hK hP hD hS hA (by decide) (by decide) (by decide) d_tb_init_20 (fun rv H hP hD hS => ?_)
  have hP : va_P D cls ([(a, .inr (0, [.int (mvI mv), .int 0, .ref rk, .null, .null, .null, .null, .null, .int 0, .int 0])), (rk, .inl (cI, 16, .inl (fun _ => 0))), (rv, .inl (cI, 16, .inl (fun _ => 0)))]) H := hP
  have hD : va_D A ([(a, .inr (0, [.int (mvI mv), .int 0, .ref rk, .null, .null, .null, .null, .null, .int 0, .int 0])), (rk, .inl (cI, 16, .inl (fun _ => 0))), (rv, .inl (cI, 16, .inl (fun _ => 0)))]) := hD
  refine va_put (D := D) (ci := 0) (v := .ref rv) (ty := .array .int) (C := R_tb) (T := F_tb) (N := 10) hx hb hts i_tb t_tb t_tb_ok n_tb hown hK hP hD hS 0 rfl rfl 3 (by decide) (hts _ kf_tb_19) (fun _ h9 => h9) rfl (by decide +kernel) rfl rfl (Nat.le_of_ble_eq_true rfl) d_tb_init_22 (fun H locs hP hD hS => ?_)
  have hP : va_P D cls ([(a, .inr (0, [.int (mvI mv), .int 0, .ref rk, .ref rv, .null, .null, .null, .null, .int 0, .int 0])), (rk, .inl (cI, 16, .inl (fun _ => 0))), (rv, .inl (cI, 16, .inl (fun _ => 0)))]) H := hP
  have hD : va_D A ([(a, .inr (0, [.int (mvI mv), .int 0, .ref rk, .ref rv, .null, .null, .null, .null, .int 0, .int 0])), (rk, .inl (cI, 16, .inl (fun _ => 0))), (rv, .inl (cI, 16, .inl (fun _ => 0)))]) := hD
  refine lv_aload_n hx hb d_tb_init_25 rfl (lv_at hl 0 rfl) ?_
  refine lv_bipush (v := 16) hx hb d_tb_init_26 (by decide) ?_
  refine wa_new (k := 16) hx hb hts hK hP hD hS hA (by decide) (by decide) (by decide) d_tb_init_28 (fun rb H hP hD hS => ?_)
  have hP : va_P D cls ([(a, .inr (0, [.int (mvI mv), .int 0, .ref rk, .ref rv, .null, .null, .null, .null, .int 0, .int 0])), (rk, .inl (cI, 16, .inl (fun _ => 0))), (rv, .inl (cI, 16, .inl (fun _ => 0))), (rb, .inl (cI, 16, .inl (fun _ => 0)))]) H := hP
  have hD : va_D A ([(a, .inr (0, [.int (mvI mv), .int 0, .ref rk, .ref rv, .null, .null, .null, .null, .int 0, .int 0])), (rk, .inl (cI, 16, .inl (fun _ => 0))), (rv, .inl (cI, 16, .inl (fun _ => 0))), (rb, .inl (cI, 16, .inl (fun _ => 0)))]) := hD
  refine va_put (D := D) (ci := 0) (v := .ref rb) (ty := .array .int) (C := R_tb) (T := F_tb) (N := 10) hx hb hts i_tb t_tb t_tb_ok n_tb hown hK hP hD hS 0 rfl rfl 4 (by decide) (hts _ kf_tb_22) (fun _ h9 => h9) rfl (by decide +kernel) rfl rfl (Nat.le_of_ble_eq_true rfl) d_tb_init_30 (fun H locs hP hD hS => ?_)
  have hP : va_P D cls ([(a, .inr (0, [.int (mvI mv), .int 0, .ref rk, .ref rv, .ref rb, .null, .null, .null, .int 0, .int 0])), (rk, .inl (cI, 16, .inl (fun _ => 0))), (rv, .inl (cI, 16, .inl (fun _ => 0))), (rb, .inl (cI, 16, .inl (fun _ => 0)))]) H := hP
  have hD : va_D A ([(a, .inr (0, [.int (mvI mv), .int 0, .ref rk, .ref rv, .ref rb, .null, .null, .null, .int 0, .int 0])), (rk, .inl (cI, 16, .inl (fun _ => 0))), (rv, .inl (cI, 16, .inl (fun _ => 0))), (rb, .inl (cI, 16, .inl (fun _ => 0)))]) := hD
  refine lv_aload_n hx hb d_tb_init_33 rfl (lv_at hl 0 rfl) ?_
  refine lv_bipush (v := 16) hx hb d_tb_init_34 (by decide) ?_
  refine wa_new (k := 16) hx hb hts hK hP hD hS hA (by decide) (by decide) (by decide) d_tb_init_36 (fun rf H hP hD hS => ?_)
  have hP : va_P D cls ([(a, .inr (0, [.int (mvI mv), .int 0, .ref rk, .ref rv, .ref rb, .null, .null, .null, .int 0, .int 0])), (rk, .inl (cI, 16, .inl (fun _ => 0))), (rv, .inl (cI, 16, .inl (fun _ => 0))), (rb, .inl (cI, 16, .inl (fun _ => 0))), (rf, .inl (cI, 16, .inl (fun _ => 0)))]) H := hP
  have hD : va_D A ([(a, .inr (0, [.int (mvI mv), .int 0, .ref rk, .ref rv, .ref rb, .null, .null, .null, .int 0, .int 0])), (rk, .inl (cI, 16, .inl (fun _ => 0))), (rv, .inl (cI, 16, .inl (fun _ => 0))), (rb, .inl (cI, 16, .inl (fun _ => 0))), (rf, .inl (cI, 16, .inl (fun _ => 0)))]) := hD
  refine va_put (D := D) (ci := 0) (v := .ref rf) (ty := .array .int) (C := R_tb) (T := F_tb) (N := 10) hx hb hts i_tb t_tb t_tb_ok n_tb hown hK hP hD hS 0 rfl rfl 5 (by decide) (hts _ kf_tb_25) (fun _ h9 => h9) rfl (by decide +kernel) rfl rfl (Nat.le_of_ble_eq_true rfl) d_tb_init_38 (fun H locs hP hD hS => ?_)
  have hP : va_P D cls ([(a, .inr (0, [.int (mvI mv), .int 0, .ref rk, .ref rv, .ref rb, .ref rf, .null, .null, .int 0, .int 0])), (rk, .inl (cI, 16, .inl (fun _ => 0))), (rv, .inl (cI, 16, .inl (fun _ => 0))), (rb, .inl (cI, 16, .inl (fun _ => 0))), (rf, .inl (cI, 16, .inl (fun _ => 0)))]) H := hP
  have hD : va_D A ([(a, .inr (0, [.int (mvI mv), .int 0, .ref rk, .ref rv, .ref rb, .ref rf, .null, .null, .int 0, .int 0])), (rk, .inl (cI, 16, .inl (fun _ => 0))), (rv, .inl (cI, 16, .inl (fun _ => 0))), (rb, .inl (cI, 16, .inl (fun _ => 0))), (rf, .inl (cI, 16, .inl (fun _ => 0)))]) := hD
  refine lv_aload_n hx hb d_tb_init_41 rfl (lv_at hl 0 rfl) ?_
  refine lv_bipush (v := 16) hx hb d_tb_init_42 (by decide) ?_
  refine wa_new (k := 16) hx hb hts hK hP hD hS hA (by decide) (by decide) (by decide) d_tb_init_44 (fun rh H hP hD hS => ?_)
  have hP : va_P D cls ([(a, .inr (0, [.int (mvI mv), .int 0, .ref rk, .ref rv, .ref rb, .ref rf, .null, .null, .int 0, .int 0])), (rk, .inl (cI, 16, .inl (fun _ => 0))), (rv, .inl (cI, 16, .inl (fun _ => 0))), (rb, .inl (cI, 16, .inl (fun _ => 0))), (rf, .inl (cI, 16, .inl (fun _ => 0))), (rh, .inl (cI, 16, .inl (fun _ => 0)))]) H := hP
  have hD : va_D A ([(a, .inr (0, [.int (mvI mv), .int 0, .ref rk, .ref rv, .ref rb, .ref rf, .null, .null, .int 0, .int 0])), (rk, .inl (cI, 16, .inl (fun _ => 0))), (rv, .inl (cI, 16, .inl (fun _ => 0))), (rb, .inl (cI, 16, .inl (fun _ => 0))), (rf, .inl (cI, 16, .inl (fun _ => 0))), (rh, .inl (cI, 16, .inl (fun _ => 0)))]) := hD
  refine va_put (D := D) (ci := 0) (v := .ref rh) (ty := .array .int) (C := R_tb) (T := F_tb) (N := 10) hx hb hts i_tb t_tb t_tb_ok n_tb hown hK hP hD hS 0 rfl rfl 6 (by decide) (hts _ kf_tb_28) (fun _ h9 => h9) rfl (by decide +kernel) rfl rfl (Nat.le_of_ble_eq_true rfl) d_tb_init_46 (fun H locs hP hD hS => ?_)
  have hP : va_P D cls ([(a, .inr (0, [.int (mvI mv), .int 0, .ref rk, .ref rv, .ref rb, .ref rf, .ref rh, .null, .int 0, .int 0])), (rk, .inl (cI, 16, .inl (fun _ => 0))), (rv, .inl (cI, 16, .inl (fun _ => 0))), (rb, .inl (cI, 16, .inl (fun _ => 0))), (rf, .inl (cI, 16, .inl (fun _ => 0))), (rh, .inl (cI, 16, .inl (fun _ => 0)))]) H := hP
  have hD : va_D A ([(a, .inr (0, [.int (mvI mv), .int 0, .ref rk, .ref rv, .ref rb, .ref rf, .ref rh, .null, .int 0, .int 0])), (rk, .inl (cI, 16, .inl (fun _ => 0))), (rv, .inl (cI, 16, .inl (fun _ => 0))), (rb, .inl (cI, 16, .inl (fun _ => 0))), (rf, .inl (cI, 16, .inl (fun _ => 0))), (rh, .inl (cI, 16, .inl (fun _ => 0)))]) := hD
  refine lv_aload_n hx hb d_tb_init_49 rfl (lv_at hl 0 rfl) ?_
  refine lv_bipush (v := 16) hx hb d_tb_init_50 (by decide) ?_
  refine wa_new (k := 16) hx hb hts hK hP hD hS hA (by decide) (by decide) (by decide) d_tb_init_52 (fun rc H hP hD hS => ?_)
  have hP : va_P D cls ([(a, .inr (0, [.int (mvI mv), .int 0, .ref rk, .ref rv, .ref rb, .ref rf, .ref rh, .null, .int 0, .int 0])), (rk, .inl (cI, 16, .inl (fun _ => 0))), (rv, .inl (cI, 16, .inl (fun _ => 0))), (rb, .inl (cI, 16, .inl (fun _ => 0))), (rf, .inl (cI, 16, .inl (fun _ => 0))), (rh, .inl (cI, 16, .inl (fun _ => 0))), (rc, .inl (cI, 16, .inl (fun _ => 0)))]) H := hP
  have hD : va_D A ([(a, .inr (0, [.int (mvI mv), .int 0, .ref rk, .ref rv, .ref rb, .ref rf, .ref rh, .null, .int 0, .int 0])), (rk, .inl (cI, 16, .inl (fun _ => 0))), (rv, .inl (cI, 16, .inl (fun _ => 0))), (rb, .inl (cI, 16, .inl (fun _ => 0))), (rf, .inl (cI, 16, .inl (fun _ => 0))), (rh, .inl (cI, 16, .inl (fun _ => 0))), (rc, .inl (cI, 16, .inl (fun _ => 0)))]) := hD
  refine va_put (D := D) (ci := 0) (v := .ref rc) (ty := .array .int) (C := R_tb) (T := F_tb) (N := 10) hx hb hts i_tb t_tb t_tb_ok n_tb hown hK hP hD hS 0 rfl rfl 7 (by decide) (hts _ kf_tb_31) (fun _ h9 => h9) rfl (by decide +kernel) rfl rfl (Nat.le_of_ble_eq_true rfl) d_tb_init_54 (fun H locs hP hD hS => ?_)
  have hP : va_P D cls ([(a, .inr (0, [.int (mvI mv), .int 0, .ref rk, .ref rv, .ref rb, .ref rf, .ref rh, .ref rc, .int 0, .int 0])), (rk, .inl (cI, 16, .inl (fun _ => 0))), (rv, .inl (cI, 16, .inl (fun _ => 0))), (rb, .inl (cI, 16, .inl (fun _ => 0))), (rf, .inl (cI, 16, .inl (fun _ => 0))), (rh, .inl (cI, 16, .inl (fun _ => 0))), (rc, .inl (cI, 16, .inl (fun _ => 0)))]) H := hP
  have hD : va_D A ([(a, .inr (0, [.int (mvI mv), .int 0, .ref rk, .ref rv, .ref rb, .ref rf, .ref rh, .ref rc, .int 0, .int 0])), (rk, .inl (cI, 16, .inl (fun _ => 0))), (rv, .inl (cI, 16, .inl (fun _ => 0))), (rb, .inl (cI, 16, .inl (fun _ => 0))), (rf, .inl (cI, 16, .inl (fun _ => 0))), (rh, .inl (cI, 16, .inl (fun _ => 0))), (rc, .inl (cI, 16, .inl (fun _ => 0)))]) := hD
  have hP : va_P D cls ([(a, .inr (0, [.int (mvI mv), .int 0, .ref rk, .ref rv, .ref rb, .ref rf, .ref rh, .ref rc, .int 0, .int 0])), (rk, .inl (cI, 16, .inl (fun _ => 0))), (rv, .inl (cI, 16, .inl (fun _ => 0))), (rb, .inl (cI, 16, .inl (fun _ => 0))), (rf, .inl (cI, 16, .inl (fun _ => 0))), (rh, .inl (cI, 16, .inl (fun _ => 0))), (rc, .inl (cI, 16, .inl (fun _ => 0)))]) H := hP.sub [0, 1, 2, 3, 4, 5, 6] rfl
  have hD : va_D A ([(a, .inr (0, [.int (mvI mv), .int 0, .ref rk, .ref rv, .ref rb, .ref rf, .ref rh, .ref rc, .int 0, .int 0])), (rk, .inl (cI, 16, .inl (fun _ => 0))), (rv, .inl (cI, 16, .inl (fun _ => 0))), (rb, .inl (cI, 16, .inl (fun _ => 0))), (rf, .inl (cI, 16, .inl (fun _ => 0))), (rh, .inl (cI, 16, .inl (fun _ => 0))), (rc, .inl (cI, 16, .inl (fun _ => 0)))]) := hD.sub [0, 1, 2, 3, 4, 5, 6] (by decide) rfl
  exact cg_vret (u := (rk, rv, rb, rf, rh, rc, (fun _ => 0), (fun _ => 0), (fun _ => 0), (fun _ => 0), (fun _ => 0), (fun _ => 0), 0, 0, [])) hQ hx hb hr hlk hK hP hD hS (⟨rfl, [], fun _ => [], ⟨⟨rfl, by decide⟩, by show 0 < 2 ^ (4 + 0); decide, by simp, fun x => by simp; omega, rfl⟩, ⟨rfl, rfl⟩, ⟨rfl, fun h hh => ⟨rfl, List.Perm.refl _⟩⟩, by simp, rfl⟩) d_tb_init_57
end
section
-- Table, outer methods (1): printed by wip/whole/gen/tb5.py
theorem opt_cases {α : Type} (o : Option α) : o = none ∨ ∃ x, o = some x := by
  cases o with
  | none => exact Or.inl rfl
  | some x => exact Or.inr ⟨x, rfl⟩
theorem tn_empty {P N : Nat → Int32} : TN (upd P 0 0) (upd N 0 0) [] := ⟨pk_us, pk_us⟩
theorem us_none {mv : Bool} {k : Int32} {L : List (Int32 × Int32)} (h : lk k L = none) : us mv k L = L := by
  unfold us
  rw [h]
  cases mv <;> rfl
theorem kv_at {K V : Nat → Int32} {R : List Nat} {x : Nat} (hx : x ∈ R) (nd : (R.map K).Nodup) : lk (K x) (kv K V R) = some (V x) := by
  obtain ⟨l1, l2, e⟩ := List.append_of_mem hx
  subst e
  exact (kv_split nd).1
theorem kv_out {K V : Nat → Int32} {R : List Nat} {k : Int32} (h : k ∉ R.map K) : lk k (kv K V R) = none := lk_none (by rw [ks_kv]; exact h)
def njs (j : Nat) (k : Int32) (L : List (Int32 × Int32)) : Nat := match lk k L with
  | none => nj j L.length
  | some _ => j
/-- add -/
def ad (mv : Bool) (k v : Int32) (L : List (Int32 × Int32)) : List (Int32 × Int32) := match lk k L with
  | none => L ++ [(k, v)]
  | some _ => us mv k L
/-- take -/
def tk (k v : Int32) (L : List (Int32 × Int32)) : List (Int32 × Int32) := if lk k L = some v then del k L else L
def zI (b : Bool) : Int32 := if b then 1 else 0
theorem an_none {o : Option Int32} : an o = 1099511627776 ↔ o = none := by
  cases o with
  | none => exact ⟨fun _ => rfl, fun _ => rfl⟩
  | some v =>
    refine ⟨fun h => ?_, fun h => by cases h⟩
    have h1 : v.toInt64.toInt = (1099511627776 : Int64).toInt := by
      have h : v.toInt64 = 1099511627776 := h
      rw [h]
    rw [Int32.toInt_toInt64] at h1
    have h2 := Int32.toInt_lt v
    have h3 : (1099511627776 : Int64).toInt = 1099511627776 := by decide
    omega
theorem lg_eq {x y : Int64} : lg_cmp x y = 0 ↔ x = y := by
  unfold lg_cmp
  by_cases h : x > y
  · rw [if_pos h]
    refine ⟨fun z => absurd z (by decide), fun z => ?_⟩
    rw [z] at h
    exact absurd h (by simp)
  · rw [if_neg h]
    by_cases h2 : x = y
    · rw [if_pos h2]
      exact ⟨fun _ => h2, fun _ => rfl⟩
    · rw [if_neg h2]
      exact ⟨fun z => absurd z (by decide), fun z => absurd z h2⟩
set_option maxRecDepth 100000 in
set_option maxHeartbeats 4000000 in
/-- lookUp(k) -/
theorem c_tb_lookUp (l : Launch) (D : va_G) (cI cT cP : ClassId) (a : Nat) (mv : Bool) (j : Nat) (L : List (Int32 × Int32)) (u0 : TB) (hL : TL j L u0) (k : Int32) : Cg l y_tb_lookUp b_tb_lookUp 3 (some .long) 2 0 0 D (ty3 cI cT cP) [.ref a, .int k] (tw cI a mv j u0) (fun (v : Option Value) (u : TB) => v = some (.long (an (lk k L))) ∧ TL j (us mv k L) u) (fun u => tw cI a mv j u) := by
  obtain ⟨qk, qv, qb, qf, qh, qc, K, V, P, N, G, C, fl, mm, R⟩ := u0
  obtain ⟨Fr, bl, hTA, hTN, hTH, hKn, eL⟩ := hL
  have hTA : TA (2 ^ (4 + j)) j mm R Fr := hTA
  have hTN : TN P N R := hTN
  have hTH : TH (2 ^ (4 + j)) K G C fl R Fr bl := hTH
  have hKn : (R.map K).Nodup := hKn
  have eL : L = kv K V R := eL
  have hLl : L.length = R.length := by rw [eL]; exact List.length_map ..
  have hn : 2 ^ (4 + j) < 2 ^ 31 := (ta_len hTA).2.2
  have hRl : R.length < 2 ^ 31 := (ta_len hTA).2.1
  refine cg_enter rfl (Nat.le_of_ble_eq_true rfl) ?_
  intro p e s m below meth c args hx hb hr hlk hml hown hin hts A hA hK hP hD hS ls hl Q hQ
  have hl : lv_has ls 3 [(0, .ref a), (1, .int k)] := hl
  have hP : va_P D cls (tx cI a (mvI mv) (nI R.length) qk qv qb qf qh qc (2 ^ (4 + j)) K V P N G C fl (nI mm)) s.heap := hP
  have hD : va_D A (tx cI a (mvI mv) (nI R.length) qk qv qb qf qh qc (2 ^ (4 + j)) K V P N G C fl (nI mm)) := hD
  refine lv_aload_n hx hb d_tb_lookUp_0 rfl (lv_at hl 0 rfl) ?_
  refine lv_iload_n hx hb d_tb_lookUp_1 rfl (lv_at hl 1 rfl) ?_
  refine cg_V (hn := 1) (As := [.int k]) (rest := []) (wr := []) (q0 := 0) (ci := 0) hx hb hml hown hts (c_tb_slotOf l D cI cT cP a (mvI mv) qk qv qb qf qh qc (2 ^ (4 + j)) K V P N G C fl (nI mm) j mm R Fr bl hTA hTH hKn k) km_tb_34 ki_tb_slotOf ks_tb_slotOf kn_tb kc_tb_slotOf (by decide +kernel) rfl ⟨Nat.le_of_ble_eq_true rfl, Nat.le_of_ble_eq_true rfl⟩ hK hP hD hS hA [0, 1, 2, 3, 4, 5, 6] [] rfl (by decide) rfl (by decide) (by decide) rfl rfl hl.1 rfl (Nat.le_of_ble_eq_true rfl) d_tb_lookUp_2 ⟨Nat.zero_le _, Nat.zero_le _⟩ (fun v u H locs hpost hP hD hS => ?_)
  subst hpost
  refine W.eq (g2 := F0 m 5 ls [.int (nI (sl K k R))]) rfl ?_
  have hP : va_P D cls (tx cI a (mvI mv) (nI R.length) qk qv qb qf qh qc (2 ^ (4 + j)) K V P N G C fl (nI mm)) H := hP
  have hD : va_D A (tx cI a (mvI mv) (nI R.length) qk qv qb qf qh qc (2 ^ (4 + j)) K V P N G C fl (nI mm)) := hD
  rcases sl_cases K k R with ⟨e0, hno⟩ | ⟨hxR, hke⟩
  · rw [e0]
    have hkL : lk k L = none := by rw [eL]; exact kv_out hno
    refine lv_istore_n (lv' := [(2, .int (nI 0)), (0, .ref a), (1, .int k)]) hx hb d_tb_lookUp_5 rfl hl (by decide) rfl (fun ls hl => ?_)
    refine lv_iload_n hx hb d_tb_lookUp_6 rfl (lv_at hl 0 rfl) ?_
    refine lv_if_ne (tgt := 14) hx hb d_tb_lookUp_7 (by decide) (fun z9 => absurd rfl z9) (fun _ => ?_)
    refine lv_ldc2 hx hb hown (hts _ kk_tb_42) d_tb_lookUp_10 ?_
    exact cg_lret (u := (qk, qv, qb, qf, qh, qc, K, V, P, N, G, C, fl, mm, R)) hQ hx hb hr hlk hK hP hD hS (⟨by rw [hkL]; rfl, by rw [us_none hkL]; exact ⟨Fr, bl, hTA, hTN, hTH, hKn, eL⟩⟩) d_tb_lookUp_13
  · generalize sl K k R = x at *
    have hxn := ta_in hTA hxR
    have hkL : lk k L = some (V x) := by rw [eL, ← hke]; exact kv_at hxR hKn
    refine lv_istore_n (lv' := [(2, .int (nI x)), (0, .ref a), (1, .int k)]) hx hb d_tb_lookUp_5 rfl hl (by decide) rfl (fun ls hl => ?_)
    refine lv_iload_n hx hb d_tb_lookUp_6 rfl (lv_at hl 0 rfl) ?_
    refine lv_if_ne (tgt := 14) hx hb d_tb_lookUp_7 (by decide) (fun _ => ?_) (fun z9 => absurd z9 (nI_ne0 hxn.1 (by omega)))
    refine lv_aload_n hx hb d_tb_lookUp_14 rfl (lv_at hl 1 rfl) ?_
    refine lv_iload_n hx hb d_tb_lookUp_15 rfl (lv_at hl 0 rfl) ?_
    refine cg_V (hn := 1) (As := [.int (nI x)]) (rest := []) (wr := []) (q0 := 0) (ci := 0) hx hb hml hown hts (c_tb_use l D cI cT cP a mv qk qv qb qf qh qc (2 ^ (4 + j)) K V P N G C fl (nI mm) (nI R.length) j mm R Fr hTA hTN hKn x hxR) km_tb_44 ki_tb_use ks_tb_use kn_tb kc_tb_use (by decide +kernel) rfl ⟨Nat.le_of_ble_eq_true rfl, Nat.le_of_ble_eq_true rfl⟩ hK hP hD hS hA [0, 1, 2, 3, 4, 5, 6] [] rfl (by decide) rfl (by decide) (by decide) rfl rfl hl.1 rfl (Nat.le_of_ble_eq_true rfl) d_tb_lookUp_16 ⟨Nat.zero_le _, Nat.zero_le _⟩ (fun v u H locs hpost hP hD hS => ?_)
    obtain ⟨P2, N2⟩ := u
    obtain ⟨e9, R2, hp2, hTN2, ek2⟩ := hpost
    subst e9
    rw [← hp2.length_eq] at hP hD
    refine W.eq (g2 := F0 m 19 ls []) rfl ?_
    have hP : va_P D cls (tx cI a (mvI mv) (nI R2.length) qk qv qb qf qh qc (2 ^ (4 + j)) K V P2 N2 G C fl (nI mm)) H := hP
    have hD : va_D A (tx cI a (mvI mv) (nI R2.length) qk qv qb qf qh qc (2 ^ (4 + j)) K V P2 N2 G C fl (nI mm)) := hD
    have hTN2 : TN P2 N2 R2 := hTN2
    have hKn2 : (R2.map K).Nodup := (hp2.map K).nodup_iff.mpr hKn
    refine lv_aload_n hx hb d_tb_lookUp_19 rfl (lv_at hl 1 rfl) ?_
    refine va_get (D := D) (ci := 0) (v := .ref qv) (C := R_tb) (T := F_tb) (N := 10) hx hb hts i_tb hown hK hP 0 rfl rfl 3 (by decide) (hts _ kf_tb_19) (fun _ h9 => h9) rfl d_tb_lookUp_20 ?_
    refine lv_iload_n hx hb d_tb_lookUp_23 rfl (lv_at hl 0 rfl) ?_
    refine wa_ld (k := x) hx hb hK hP 2 0 rfl rfl hxn.2.2 hn d_tb_lookUp_24 ?_
    refine lv_i2l (v := (V x).toInt64) hx hb d_tb_lookUp_25 rfl ?_
    exact cg_lret (u := (qk, qv, qb, qf, qh, qc, K, V, P2, N2, G, C, fl, mm, R2)) hQ hx hb hr hlk hK hP hD hS (⟨by rw [hkL]; rfl, Fr, bl, ta_perm hTA hp2, hTN2, th_perm hTH hp2, hKn2, by rw [eL, ← hke]; exact ek2.symm⟩) d_tb_lookUp_26
set_option maxRecDepth 100000 in
set_option maxHeartbeats 4000000 in
/-- store(k, v0) -/
theorem c_tb_store (l : Launch) (D : va_G) (cI cT cP : ClassId) (a : Nat) (mv : Bool) (j : Nat) (L : List (Int32 × Int32)) (u0 : TB) (hL : TL j L u0) (k v0 : Int32) (hlen : L.length < 2047) : Cg l y_tb_store b_tb_store 6 (some .long) 4 (mcT j (njs j k L)) (msT j (njs j k L)) D (ty3 cI cT cP) [.ref a, .int k, .int v0] (tw cI a mv j u0) (fun (v : Option Value) (u : TB) => v = some (.long (an (lk k L))) ∧ TL (njs j k L) (st mv k v0 L) u) (fun u => tw cI a mv (njs j k L) u) := by
  obtain ⟨qk, qv, qb, qf, qh, qc, K, V, P, N, G, C, fl, mm, R⟩ := u0
  obtain ⟨Fr, bl, hTA, hTN, hTH, hKn, eL⟩ := hL
  have hTA : TA (2 ^ (4 + j)) j mm R Fr := hTA
  have hTN : TN P N R := hTN
  have hTH : TH (2 ^ (4 + j)) K G C fl R Fr bl := hTH
  have hKn : (R.map K).Nodup := hKn
  have eL : L = kv K V R := eL
  have hLl : L.length = R.length := by rw [eL]; exact List.length_map ..
  have hn : 2 ^ (4 + j) < 2 ^ 31 := (ta_len hTA).2.2
  have hRl : R.length < 2 ^ 31 := (ta_len hTA).2.1
  refine cg_enter rfl (Nat.le_of_ble_eq_true rfl) ?_
  intro p e s m below meth c args hx hb hr hlk hml hown hin hts A hA hK hP hD hS ls hl Q hQ
  have hl : lv_has ls 6 [(0, .ref a), (1, .int k), (2, .int v0)] := hl
  have hP : va_P D cls (tx cI a (mvI mv) (nI R.length) qk qv qb qf qh qc (2 ^ (4 + j)) K V P N G C fl (nI mm)) s.heap := hP
  have hD : va_D A (tx cI a (mvI mv) (nI R.length) qk qv qb qf qh qc (2 ^ (4 + j)) K V P N G C fl (nI mm)) := hD
  refine lv_aload_n hx hb d_tb_store_0 rfl (lv_at hl 0 rfl) ?_
  refine lv_iload_n hx hb d_tb_store_1 rfl (lv_at hl 1 rfl) ?_
  refine cg_V (hn := 1) (As := [.int k]) (rest := []) (wr := []) (q0 := 0) (ci := 0) hx hb hml hown hts (c_tb_slotOf l D cI cT cP a (mvI mv) qk qv qb qf qh qc (2 ^ (4 + j)) K V P N G C fl (nI mm) j mm R Fr bl hTA hTH hKn k) km_tb_34 ki_tb_slotOf ks_tb_slotOf kn_tb kc_tb_slotOf (by decide +kernel) rfl ⟨Nat.le_of_ble_eq_true rfl, Nat.le_of_ble_eq_true rfl⟩ hK hP hD hS hA [0, 1, 2, 3, 4, 5, 6] [] rfl (by decide) rfl (by decide) (by decide) rfl rfl hl.1 rfl (Nat.le_of_ble_eq_true rfl) d_tb_store_2 ⟨Nat.zero_le _, Nat.zero_le _⟩ (fun v u H locs hpost hP hD hS => ?_)
  subst hpost
  refine W.eq (g2 := F0 m 5 ls [.int (nI (sl K k R))]) rfl ?_
  have hP : va_P D cls (tx cI a (mvI mv) (nI R.length) qk qv qb qf qh qc (2 ^ (4 + j)) K V P N G C fl (nI mm)) H := hP
  have hD : va_D A (tx cI a (mvI mv) (nI R.length) qk qv qb qf qh qc (2 ^ (4 + j)) K V P N G C fl (nI mm)) := hD
  rcases sl_cases K k R with ⟨e0, hno⟩ | ⟨hxR, hke⟩
  · rw [e0]
    have hkL : lk k L = none := by rw [eL]; exact kv_out hno
    have ej : njs j k L = nj j R.length := by unfold njs; rw [hkL, hLl]
    refine lv_istore_n (lv' := [(3, .int (nI 0)), (0, .ref a), (1, .int k), (2, .int v0)]) hx hb d_tb_store_5 rfl hl (by decide) rfl (fun ls hl => ?_)
    refine lv_iload_n hx hb d_tb_store_6 rfl (lv_at hl 0 rfl) ?_
    refine lv_if_ne (tgt := 20) hx hb d_tb_store_7 (by decide) (fun z9 => absurd rfl z9) (fun _ => ?_)
    refine lv_aload_n hx hb d_tb_store_10 rfl (lv_at hl 1 rfl) ?_
    refine lv_iload_n hx hb d_tb_store_11 rfl (lv_at hl 2 rfl) ?_
    refine lv_iload_n hx hb d_tb_store_12 rfl (lv_at hl 3 rfl) ?_
    refine cg_V (hn := 2) (As := [.int k, .int v0]) (rest := []) (wr := []) (q0 := 0) (ci := 0) hx hb hml hown hts (c_tb_insert l D cI cT cP a mv qk qv qb qf qh qc K V P N G C fl j mm R Fr bl hTA hTN hTH hKn k v0 hno (by omega)) km_tb_38 ki_tb_insert ks_tb_insert kn_tb kc_tb_insert (by decide +kernel) rfl ⟨Nat.le_of_ble_eq_true rfl, Nat.le_of_ble_eq_true rfl⟩ hK hP hD hS hA [0, 1, 2, 3, 4, 5, 6] [] rfl (by decide) rfl (by decide) (by decide) rfl rfl hl.1 rfl (Nat.le_of_ble_eq_true rfl) d_tb_store_13 ⟨Nat.le_of_eq (by show 0 + mcT j (nj j R.length) = mcT j (njs j k L); rw [ej, Nat.zero_add]), Nat.le_of_eq (by show 0 + msT j (nj j R.length) = msT j (njs j k L); rw [ej, Nat.zero_add])⟩ (fun v u H locs hpost hP hD hS => ?_)
    obtain ⟨e9, hT2⟩ := hpost
    subst e9
    rw [← ej] at hP hD hT2
    refine W.eq (g2 := F0 m 16 ls []) rfl ?_
    have hP : va_P D cls (tw cI a mv (njs j k L) u) H := hP
    have hD : va_D A (tw cI a mv (njs j k L) u) := hD
    refine W.widen (k := mcT j (njs j k L)) (n := msT j (njs j k L)) (Nat.le_of_eq (by rw [ej]; simp)) (Nat.le_of_eq (by rw [ej]; simp)) ?_
    refine lv_ldc2 hx hb hown (hts _ kk_tb_42) d_tb_store_16 ?_
    exact cg_lret (u := u) hQ hx hb hr hlk hK hP hD hS (⟨by rw [hkL]; rfl, by unfold st; rw [hkL]; show TL _ (L ++ [(k, v0)]) u; rw [eL] at hT2 ⊢; exact hT2⟩) d_tb_store_19
  · generalize sl K k R = x at *
    have hxn := ta_in hTA hxR
    have hkL : lk k L = some (V x) := by rw [eL, ← hke]; exact kv_at hxR hKn
    have ej : njs j k L = j := by unfold njs; rw [hkL]
    refine lv_istore_n (lv' := [(3, .int (nI x)), (0, .ref a), (1, .int k), (2, .int v0)]) hx hb d_tb_store_5 rfl hl (by decide) rfl (fun ls hl => ?_)
    refine lv_iload_n hx hb d_tb_store_6 rfl (lv_at hl 0 rfl) ?_
    refine lv_if_ne (tgt := 20) hx hb d_tb_store_7 (by decide) (fun _ => ?_) (fun z9 => absurd z9 (nI_ne0 hxn.1 (by omega)))
    refine lv_aload_n hx hb d_tb_store_20 rfl (lv_at hl 1 rfl) ?_
    refine va_get (D := D) (ci := 0) (v := .ref qv) (C := R_tb) (T := F_tb) (N := 10) hx hb hts i_tb hown hK hP 0 rfl rfl 3 (by decide) (hts _ kf_tb_19) (fun _ h9 => h9) rfl d_tb_store_21 ?_
    refine lv_iload_n hx hb d_tb_store_24 rfl (lv_at hl 0 rfl) ?_
    refine wa_ld (k := x) hx hb hK hP 2 0 rfl rfl hxn.2.2 hn d_tb_store_25 ?_
    refine lv_i2l (v := (V x).toInt64) hx hb d_tb_store_26 rfl ?_
    refine lv_lstore (lv' := [(4, .long (V x).toInt64), (3, .int (nI x)), (0, .ref a), (1, .int k), (2, .int v0)]) hx hb d_tb_store_27 hl (by decide) rfl (fun ls hl => ?_)
    refine lv_aload_n hx hb d_tb_store_29 rfl (lv_at hl 2 rfl) ?_
    refine va_get (D := D) (ci := 0) (v := .ref qv) (C := R_tb) (T := F_tb) (N := 10) hx hb hts i_tb hown hK hP 0 rfl rfl 3 (by decide) (hts _ kf_tb_19) (fun _ h9 => h9) rfl d_tb_store_30 ?_
    refine lv_iload_n hx hb d_tb_store_33 rfl (lv_at hl 1 rfl) ?_
    refine lv_iload_n hx hb d_tb_store_34 rfl (lv_at hl 4 rfl) ?_
    refine wa_st (k := x) (x := v0) hx hb hK hP hD hS 2 0 rfl rfl hxn.2.2 hn d_tb_store_35 (fun H locs hP hD hS => ?_)
    have hP : va_P D cls (tx cI a (mvI mv) (nI R.length) qk qv qb qf qh qc (2 ^ (4 + j)) K (upd V x v0) P N G C fl (nI mm)) H := hP
    have hD : va_D A (tx cI a (mvI mv) (nI R.length) qk qv qb qf qh qc (2 ^ (4 + j)) K (upd V x v0) P N G C fl (nI mm)) := hD
    refine lv_aload_n hx hb d_tb_store_36 rfl (lv_at hl 2 rfl) ?_
    refine lv_iload_n hx hb d_tb_store_37 rfl (lv_at hl 1 rfl) ?_
    refine cg_V (hn := 1) (As := [.int (nI x)]) (rest := []) (wr := []) (q0 := 0) (ci := 0) hx hb hml hown hts (c_tb_use l D cI cT cP a mv qk qv qb qf qh qc (2 ^ (4 + j)) K (upd V x v0) P N G C fl (nI mm) (nI R.length) j mm R Fr hTA hTN hKn x hxR) km_tb_44 ki_tb_use ks_tb_use kn_tb kc_tb_use (by decide +kernel) rfl ⟨Nat.le_of_ble_eq_true rfl, Nat.le_of_ble_eq_true rfl⟩ hK hP hD hS hA [0, 1, 2, 3, 4, 5, 6] [] rfl (by decide) rfl (by decide) (by decide) rfl rfl hl.1 rfl (Nat.le_of_ble_eq_true rfl) d_tb_store_38 ⟨Nat.zero_le _, Nat.zero_le _⟩ (fun v u H locs hpost hP hD hS => ?_)
    obtain ⟨P2, N2⟩ := u
    obtain ⟨e9, R2, hp2, hTN2, ek2⟩ := hpost
    subst e9
    rw [← hp2.length_eq] at hP hD
    refine W.eq (g2 := F0 m 41 ls []) rfl ?_
    have hP : va_P D cls (tx cI a (mvI mv) (nI R2.length) qk qv qb qf qh qc (2 ^ (4 + j)) K (upd V x v0) P2 N2 G C fl (nI mm)) H := hP
    have hD : va_D A (tx cI a (mvI mv) (nI R2.length) qk qv qb qf qh qc (2 ^ (4 + j)) K (upd V x v0) P2 N2 G C fl (nI mm)) := hD
    have hTN2 : TN P2 N2 R2 := hTN2
    have hKn2 : (R2.map K).Nodup := (hp2.map K).nodup_iff.mpr hKn
    refine W.widen (k := mcT j (njs j k L)) (n := msT j (njs j k L)) (by show 0 + 0 + 0 ≤ _; exact Nat.zero_le _) (by show 0 + 0 + 0 ≤ _; exact Nat.zero_le _) ?_
    refine lv_lload hx hb d_tb_store_41 (lv_at hl 0 rfl) ?_
    have ekv : st mv k v0 L = kv K (upd V x v0) R2 := by
      unfold st
      rw [hkL]
      show us mv k (setv k v0 L) = _
      obtain ⟨l1, l2, eR⟩ := List.append_of_mem hxR
      have h3 := (kv_split (K := K) (V := V) (l1 := l1) (l2 := l2) (x := x) (by rw [← eR]; exact hKn)).2.2 v0
      rw [← eR, hke, ← eL] at h3
      rw [h3, ek2, hke]
    have hP : va_P D cls (tw cI a mv (njs j k L) (qk, qv, qb, qf, qh, qc, K, upd V x v0, P2, N2, G, C, fl, mm, R2)) H := by rw [ej]; exact hP
    have hD : va_D A (tw cI a mv (njs j k L) (qk, qv, qb, qf, qh, qc, K, upd V x v0, P2, N2, G, C, fl, mm, R2)) := by rw [ej]; exact hD
    exact cg_lret (u := (qk, qv, qb, qf, qh, qc, K, upd V x v0, P2, N2, G, C, fl, mm, R2)) hQ hx hb hr hlk hK hP hD hS (⟨by rw [hkL]; rfl, by rw [ej]; exact ⟨Fr, bl, ta_perm hTA hp2, hTN2, th_perm hTH hp2, hKn2, ekv⟩⟩) d_tb_store_43
set_option maxRecDepth 100000 in
set_option maxHeartbeats 4000000 in
/-- storeIfNew(k, v0) -/
theorem c_tb_storeIfNew (l : Launch) (D : va_G) (cI cT cP : ClassId) (a : Nat) (mv : Bool) (j : Nat) (L : List (Int32 × Int32)) (u0 : TB) (hL : TL j L u0) (k v0 : Int32) (hlen : L.length < 2047) : Cg l y_tb_storeIfNew b_tb_storeIfNew 5 (some .long) 4 (mcT j (njs j k L)) (msT j (njs j k L)) D (ty3 cI cT cP) [.ref a, .int k, .int v0] (tw cI a mv j u0) (fun (v : Option Value) (u : TB) => v = some (.long (an (lk k L))) ∧ TL (njs j k L) (ad mv k v0 L) u) (fun u => tw cI a mv (njs j k L) u) := by
  obtain ⟨qk, qv, qb, qf, qh, qc, K, V, P, N, G, C, fl, mm, R⟩ := u0
  obtain ⟨Fr, bl, hTA, hTN, hTH, hKn, eL⟩ := hL
  have hTA : TA (2 ^ (4 + j)) j mm R Fr := hTA
  have hTN : TN P N R := hTN
  have hTH : TH (2 ^ (4 + j)) K G C fl R Fr bl := hTH
  have hKn : (R.map K).Nodup := hKn
  have eL : L = kv K V R := eL
  have hLl : L.length = R.length := by rw [eL]; exact List.length_map ..
  have hn : 2 ^ (4 + j) < 2 ^ 31 := (ta_len hTA).2.2
  have hRl : R.length < 2 ^ 31 := (ta_len hTA).2.1
  refine cg_enter rfl (Nat.le_of_ble_eq_true rfl) ?_
  intro p e s m below meth c args hx hb hr hlk hml hown hin hts A hA hK hP hD hS ls hl Q hQ
  have hl : lv_has ls 5 [(0, .ref a), (1, .int k), (2, .int v0)] := hl
  have hP : va_P D cls (tx cI a (mvI mv) (nI R.length) qk qv qb qf qh qc (2 ^ (4 + j)) K V P N G C fl (nI mm)) s.heap := hP
  have hD : va_D A (tx cI a (mvI mv) (nI R.length) qk qv qb qf qh qc (2 ^ (4 + j)) K V P N G C fl (nI mm)) := hD
  refine lv_aload_n hx hb d_tb_storeIfNew_0 rfl (lv_at hl 0 rfl) ?_
  refine lv_iload_n hx hb d_tb_storeIfNew_1 rfl (lv_at hl 1 rfl) ?_
  refine cg_V (hn := 1) (As := [.int k]) (rest := []) (wr := []) (q0 := 0) (ci := 0) hx hb hml hown hts (c_tb_lookUp l D cI cT cP a mv j L (qk, qv, qb, qf, qh, qc, K, V, P, N, G, C, fl, mm, R) ⟨Fr, bl, hTA, hTN, hTH, hKn, eL⟩ k) km_tb_48 ki_tb_lookUp ks_tb_lookUp kn_tb kc_tb_lookUp (by decide +kernel) rfl ⟨Nat.le_of_ble_eq_true rfl, Nat.le_of_ble_eq_true rfl⟩ hK hP hD hS hA [0, 1, 2, 3, 4, 5, 6] [] rfl (by decide) rfl (by decide) (by decide) rfl rfl hl.1 rfl (Nat.le_of_ble_eq_true rfl) d_tb_storeIfNew_2 ⟨Nat.zero_le _, Nat.zero_le _⟩ (fun v u H locs hpost hP hD hS => ?_)
  obtain ⟨e9, hT2⟩ := hpost
  subst e9
  refine W.eq (g2 := F0 m 5 ls [.long (an (lk k L))]) rfl ?_
  have hP : va_P D cls (tw cI a mv j u) H := hP
  have hD : va_D A (tw cI a mv j u) := hD
  clear hTA hTN hTH hKn eL hLl hn hRl
  obtain ⟨qk, qv, qb, qf, qh, qc, K, V, P, N, G, C, fl, mm, R⟩ := u
  obtain ⟨Fr, bl, hTA, hTN, hTH, hKn, eL⟩ := hT2
  have hTA : TA (2 ^ (4 + j)) j mm R Fr := hTA
  have hTN : TN P N R := hTN
  have hTH : TH (2 ^ (4 + j)) K G C fl R Fr bl := hTH
  have hKn : (R.map K).Nodup := hKn
  have eL : us mv k L = kv K V R := eL
  rcases opt_cases (lk k L) with hkL | ⟨v9, hkL⟩
  · rw [us_none hkL] at eL
    have hLl : L.length = R.length := by rw [eL]; exact List.length_map ..
    have hno : k ∉ R.map K := by
      have h1 := lk_key.mp hkL
      rw [eL, ks_kv] at h1
      exact h1
    have ej : njs j k L = nj j R.length := by unfold njs; rw [hkL, hLl]
    have e8 : an (lk k L) = 1099511627776 := by rw [hkL]; rfl
    have hP : va_P D cls (tx cI a (mvI mv) (nI R.length) qk qv qb qf qh qc (2 ^ (4 + j)) K V P N G C fl (nI mm)) H := hP
    have hD : va_D A (tx cI a (mvI mv) (nI R.length) qk qv qb qf qh qc (2 ^ (4 + j)) K V P N G C fl (nI mm)) := hD
    refine lv_lstore_n (lv' := [(3, .long (an (lk k L))), (0, .ref a), (1, .int k), (2, .int v0)]) hx hb d_tb_storeIfNew_5 rfl hl (by decide) rfl (fun ls hl => ?_)
    refine lv_lload_n hx hb d_tb_storeIfNew_6 rfl (lv_at hl 0 rfl) ?_
    refine lv_ldc2 hx hb hown (hts _ kk_tb_42) d_tb_storeIfNew_7 ?_
    refine W.lcmp hx hb d_tb_storeIfNew_10 ?_
    refine lv_if_ne (tgt := 20) hx hb d_tb_storeIfNew_11 (by decide) (fun z9 => absurd (lg_eq.mpr e8) z9) (fun _ => ?_)
    refine lv_aload_n hx hb d_tb_storeIfNew_14 rfl (lv_at hl 1 rfl) ?_
    refine lv_iload_n hx hb d_tb_storeIfNew_15 rfl (lv_at hl 2 rfl) ?_
    refine lv_iload_n hx hb d_tb_storeIfNew_16 rfl (lv_at hl 3 rfl) ?_
    refine cg_V (hn := 2) (As := [.int k, .int v0]) (rest := []) (wr := []) (q0 := 0) (ci := 0) hx hb hml hown hts (c_tb_insert l D cI cT cP a mv qk qv qb qf qh qc K V P N G C fl j mm R Fr bl hTA hTN hTH hKn k v0 hno (by omega)) km_tb_38 ki_tb_insert ks_tb_insert kn_tb kc_tb_insert (by decide +kernel) rfl ⟨Nat.le_of_ble_eq_true rfl, Nat.le_of_ble_eq_true rfl⟩ hK hP hD hS hA [0, 1, 2, 3, 4, 5, 6] [] rfl (by decide) rfl (by decide) (by decide) rfl rfl hl.1 rfl (Nat.le_of_ble_eq_true rfl) d_tb_storeIfNew_17 ⟨Nat.le_of_eq (by show 0 + mcT j (nj j R.length) = mcT j (njs j k L); rw [ej, Nat.zero_add]), Nat.le_of_eq (by show 0 + msT j (nj j R.length) = msT j (njs j k L); rw [ej, Nat.zero_add])⟩ (fun v u H locs hpost hP hD hS => ?_)
    obtain ⟨e9, hT2⟩ := hpost
    subst e9
    rw [← ej] at hP hD hT2
    refine W.eq (g2 := F0 m 20 ls []) rfl ?_
    have hP : va_P D cls (tw cI a mv (njs j k L) u) H := hP
    have hD : va_D A (tw cI a mv (njs j k L) u) := hD
    refine W.widen (k := mcT j (njs j k L)) (n := msT j (njs j k L)) (Nat.le_of_eq (by rw [ej]; simp)) (Nat.le_of_eq (by rw [ej]; simp)) ?_
    refine lv_lload_n hx hb d_tb_storeIfNew_20 rfl (lv_at hl 0 rfl) ?_
    exact cg_lret (u := u) hQ hx hb hr hlk hK hP hD hS (⟨rfl, by unfold ad; rw [hkL]; show TL _ (L ++ [(k, v0)]) u; rw [eL] at hT2 ⊢; exact hT2⟩) d_tb_storeIfNew_21
  · have ej : njs j k L = j := by unfold njs; rw [hkL]
    have e8 : ¬ an (lk k L) = 1099511627776 := fun z9 => by rw [an_none.mp z9] at hkL; cases hkL
    have hP : va_P D cls (tx cI a (mvI mv) (nI R.length) qk qv qb qf qh qc (2 ^ (4 + j)) K V P N G C fl (nI mm)) H := hP
    have hD : va_D A (tx cI a (mvI mv) (nI R.length) qk qv qb qf qh qc (2 ^ (4 + j)) K V P N G C fl (nI mm)) := hD
    refine lv_lstore_n (lv' := [(3, .long (an (lk k L))), (0, .ref a), (1, .int k), (2, .int v0)]) hx hb d_tb_storeIfNew_5 rfl hl (by decide) rfl (fun ls hl => ?_)
    refine lv_lload_n hx hb d_tb_storeIfNew_6 rfl (lv_at hl 0 rfl) ?_
    refine lv_ldc2 hx hb hown (hts _ kk_tb_42) d_tb_storeIfNew_7 ?_
    refine W.lcmp hx hb d_tb_storeIfNew_10 ?_
    refine lv_if_ne (tgt := 20) hx hb d_tb_storeIfNew_11 (by decide) (fun _ => ?_) (fun z9 => absurd z9 (fun z9 => e8 (lg_eq.mp z9)))
    refine lv_lload_n hx hb d_tb_storeIfNew_20 rfl (lv_at hl 0 rfl) ?_
    refine W.widen (k := mcT j (njs j k L)) (n := msT j (njs j k L)) (by show 0 + 0 ≤ _; exact Nat.zero_le _) (by show 0 + 0 ≤ _; exact Nat.zero_le _) ?_
    have hP : va_P D cls (tw cI a mv (njs j k L) (qk, qv, qb, qf, qh, qc, K, V, P, N, G, C, fl, mm, R)) H := by rw [ej]; exact hP
    have hD : va_D A (tw cI a mv (njs j k L) (qk, qv, qb, qf, qh, qc, K, V, P, N, G, C, fl, mm, R)) := by rw [ej]; exact hD
    exact cg_lret (u := (qk, qv, qb, qf, qh, qc, K, V, P, N, G, C, fl, mm, R)) hQ hx hb hr hlk hK hP hD hS (⟨rfl, by rw [ej]; exact ⟨Fr, bl, hTA, hTN, hTH, hKn, by unfold ad; rw [hkL]; exact eL⟩⟩) d_tb_storeIfNew_21
set_option maxRecDepth 100000 in
set_option maxHeartbeats 4000000 in
/-- holdsKey(k) -/
theorem c_tb_holdsKey (l : Launch) (D : va_G) (cI cT cP : ClassId) (a : Nat) (mv : Bool) (j : Nat) (L : List (Int32 × Int32)) (u0 : TB) (hL : TL j L u0) (k : Int32) : Cg l y_tb_holdsKey b_tb_holdsKey 2 (some .boolean) 2 0 0 D (ty3 cI cT cP) [.ref a, .int k] (tw cI a mv j u0) (fun (v : Option Value) (u : Unit) => v = some (.int (zI (lk k L).isSome))) (fun u => tw cI a mv j u0) := by
  obtain ⟨qk, qv, qb, qf, qh, qc, K, V, P, N, G, C, fl, mm, R⟩ := u0
  obtain ⟨Fr, bl, hTA, hTN, hTH, hKn, eL⟩ := hL
  have hTA : TA (2 ^ (4 + j)) j mm R Fr := hTA
  have hTN : TN P N R := hTN
  have hTH : TH (2 ^ (4 + j)) K G C fl R Fr bl := hTH
  have hKn : (R.map K).Nodup := hKn
  have eL : L = kv K V R := eL
  have hLl : L.length = R.length := by rw [eL]; exact List.length_map ..
  have hn : 2 ^ (4 + j) < 2 ^ 31 := (ta_len hTA).2.2
  have hRl : R.length < 2 ^ 31 := (ta_len hTA).2.1
  refine cg_enter rfl (Nat.le_of_ble_eq_true rfl) ?_
  intro p e s m below meth c args hx hb hr hlk hml hown hin hts A hA hK hP hD hS ls hl Q hQ
  have hl : lv_has ls 2 [(0, .ref a), (1, .int k)] := hl
  have hP : va_P D cls (tx cI a (mvI mv) (nI R.length) qk qv qb qf qh qc (2 ^ (4 + j)) K V P N G C fl (nI mm)) s.heap := hP
  have hD : va_D A (tx cI a (mvI mv) (nI R.length) qk qv qb qf qh qc (2 ^ (4 + j)) K V P N G C fl (nI mm)) := hD
  refine lv_aload_n hx hb d_tb_holdsKey_0 rfl (lv_at hl 0 rfl) ?_
  refine lv_iload_n hx hb d_tb_holdsKey_1 rfl (lv_at hl 1 rfl) ?_
  refine cg_V (hn := 1) (As := [.int k]) (rest := []) (wr := []) (q0 := 0) (ci := 0) hx hb hml hown hts (c_tb_slotOf l D cI cT cP a (mvI mv) qk qv qb qf qh qc (2 ^ (4 + j)) K V P N G C fl (nI mm) j mm R Fr bl hTA hTH hKn k) km_tb_34 ki_tb_slotOf ks_tb_slotOf kn_tb kc_tb_slotOf (by decide +kernel) rfl ⟨Nat.le_of_ble_eq_true rfl, Nat.le_of_ble_eq_true rfl⟩ hK hP hD hS hA [0, 1, 2, 3, 4, 5, 6] [] rfl (by decide) rfl (by decide) (by decide) rfl rfl hl.1 rfl (Nat.le_of_ble_eq_true rfl) d_tb_holdsKey_2 ⟨Nat.zero_le _, Nat.zero_le _⟩ (fun v u H locs hpost hP hD hS => ?_)
  subst hpost
  refine W.eq (g2 := F0 m 5 ls [.int (nI (sl K k R))]) rfl ?_
  have hP : va_P D cls (tx cI a (mvI mv) (nI R.length) qk qv qb qf qh qc (2 ^ (4 + j)) K V P N G C fl (nI mm)) H := hP
  have hD : va_D A (tx cI a (mvI mv) (nI R.length) qk qv qb qf qh qc (2 ^ (4 + j)) K V P N G C fl (nI mm)) := hD
  rcases sl_cases K k R with ⟨e0, hno⟩ | ⟨hxR, hke⟩
  · rw [e0]
    have hkL : lk k L = none := by rw [eL]; exact kv_out hno
    refine lv_if_eq (tgt := 12) hx hb d_tb_holdsKey_5 (by decide) (fun _ => ?_) (fun z9 => absurd rfl z9)
    refine lv_iconst (v := 0) hx hb d_tb_holdsKey_12 (by decide) ?_
    exact cg_zret (u := ()) hQ hx hb hr hlk hK hP hD hS rfl (by rw [hkL]; rfl) d_tb_holdsKey_13
  · generalize sl K k R = x at *
    have hxn := ta_in hTA hxR
    have hkL : lk k L = some (V x) := by rw [eL, ← hke]; exact kv_at hxR hKn
    refine lv_if_eq (tgt := 12) hx hb d_tb_holdsKey_5 (by decide) (fun z9 => absurd z9 (nI_ne0 hxn.1 (by omega))) (fun _ => ?_)
    refine lv_iconst (v := 1) hx hb d_tb_holdsKey_8 (by decide) ?_
    refine lv_goto (tgt := 13) hx hb d_tb_holdsKey_9 (by decide) ?_
    exact cg_zret (u := ()) hQ hx hb hr hlk hK hP hD hS rfl (by rw [hkL]; rfl) d_tb_holdsKey_13
set_option maxRecDepth 100000 in
set_option maxHeartbeats 4000000 in
/-- dropKey(k) -/
theorem c_tb_dropKey (l : Launch) (D : va_G) (cI cT cP : ClassId) (a : Nat) (mv : Bool) (j : Nat) (L : List (Int32 × Int32)) (u0 : TB) (hL : TL j L u0) (k : Int32) : Cg l y_tb_dropKey b_tb_dropKey 5 (some .long) 3 0 0 D (ty3 cI cT cP) [.ref a, .int k] (tw cI a mv j u0) (fun (v : Option Value) (u : TB) => v = some (.long (an (lk k L))) ∧ TL j (del k L) u) (fun u => tw cI a mv j u) := by
  obtain ⟨qk, qv, qb, qf, qh, qc, K, V, P, N, G, C, fl, mm, R⟩ := u0
  obtain ⟨Fr, bl, hTA, hTN, hTH, hKn, eL⟩ := hL
  have hTA : TA (2 ^ (4 + j)) j mm R Fr := hTA
  have hTN : TN P N R := hTN
  have hTH : TH (2 ^ (4 + j)) K G C fl R Fr bl := hTH
  have hKn : (R.map K).Nodup := hKn
  have eL : L = kv K V R := eL
  have hLl : L.length = R.length := by rw [eL]; exact List.length_map ..
  have hn : 2 ^ (4 + j) < 2 ^ 31 := (ta_len hTA).2.2
  have hRl : R.length < 2 ^ 31 := (ta_len hTA).2.1
  refine cg_enter rfl (Nat.le_of_ble_eq_true rfl) ?_
  intro p e s m below meth c args hx hb hr hlk hml hown hin hts A hA hK hP hD hS ls hl Q hQ
  have hl : lv_has ls 5 [(0, .ref a), (1, .int k)] := hl
  have hP : va_P D cls (tx cI a (mvI mv) (nI R.length) qk qv qb qf qh qc (2 ^ (4 + j)) K V P N G C fl (nI mm)) s.heap := hP
  have hD : va_D A (tx cI a (mvI mv) (nI R.length) qk qv qb qf qh qc (2 ^ (4 + j)) K V P N G C fl (nI mm)) := hD
  refine lv_aload_n hx hb d_tb_dropKey_0 rfl (lv_at hl 0 rfl) ?_
  refine lv_iload_n hx hb d_tb_dropKey_1 rfl (lv_at hl 1 rfl) ?_
  refine cg_V (hn := 1) (As := [.int k]) (rest := []) (wr := []) (q0 := 0) (ci := 0) hx hb hml hown hts (c_tb_slotOf l D cI cT cP a (mvI mv) qk qv qb qf qh qc (2 ^ (4 + j)) K V P N G C fl (nI mm) j mm R Fr bl hTA hTH hKn k) km_tb_34 ki_tb_slotOf ks_tb_slotOf kn_tb kc_tb_slotOf (by decide +kernel) rfl ⟨Nat.le_of_ble_eq_true rfl, Nat.le_of_ble_eq_true rfl⟩ hK hP hD hS hA [0, 1, 2, 3, 4, 5, 6] [] rfl (by decide) rfl (by decide) (by decide) rfl rfl hl.1 rfl (Nat.le_of_ble_eq_true rfl) d_tb_dropKey_2 ⟨Nat.zero_le _, Nat.zero_le _⟩ (fun v u H locs hpost hP hD hS => ?_)
  subst hpost
  refine W.eq (g2 := F0 m 5 ls [.int (nI (sl K k R))]) rfl ?_
  have hP : va_P D cls (tx cI a (mvI mv) (nI R.length) qk qv qb qf qh qc (2 ^ (4 + j)) K V P N G C fl (nI mm)) H := hP
  have hD : va_D A (tx cI a (mvI mv) (nI R.length) qk qv qb qf qh qc (2 ^ (4 + j)) K V P N G C fl (nI mm)) := hD
  rcases sl_cases K k R with ⟨e0, hno⟩ | ⟨hxR, hke⟩
  · rw [e0]
    have hkL : lk k L = none := by rw [eL]; exact kv_out hno
    refine lv_istore_n (lv' := [(2, .int (nI 0)), (0, .ref a), (1, .int k)]) hx hb d_tb_dropKey_5 rfl hl (by decide) rfl (fun ls hl => ?_)
    refine lv_iload_n hx hb d_tb_dropKey_6 rfl (lv_at hl 0 rfl) ?_
    refine lv_if_ne (tgt := 14) hx hb d_tb_dropKey_7 (by decide) (fun z9 => absurd rfl z9) (fun _ => ?_)
    refine lv_ldc2 hx hb hown (hts _ kk_tb_42) d_tb_dropKey_10 ?_
    exact cg_lret (u := (qk, qv, qb, qf, qh, qc, K, V, P, N, G, C, fl, mm, R)) hQ hx hb hr hlk hK hP hD hS (⟨by rw [hkL]; rfl, by rw [del_out (lk_key.mp hkL)]; exact ⟨Fr, bl, hTA, hTN, hTH, hKn, eL⟩⟩) d_tb_dropKey_13
  · generalize sl K k R = x at *
    have hxn := ta_in hTA hxR
    have hkL : lk k L = some (V x) := by rw [eL, ← hke]; exact kv_at hxR hKn
    refine lv_istore_n (lv' := [(2, .int (nI x)), (0, .ref a), (1, .int k)]) hx hb d_tb_dropKey_5 rfl hl (by decide) rfl (fun ls hl => ?_)
    refine lv_iload_n hx hb d_tb_dropKey_6 rfl (lv_at hl 0 rfl) ?_
    refine lv_if_ne (tgt := 14) hx hb d_tb_dropKey_7 (by decide) (fun _ => ?_) (fun z9 => absurd z9 (nI_ne0 hxn.1 (by omega)))
    refine lv_aload_n hx hb d_tb_dropKey_14 rfl (lv_at hl 1 rfl) ?_
    refine va_get (D := D) (ci := 0) (v := .ref qv) (C := R_tb) (T := F_tb) (N := 10) hx hb hts i_tb hown hK hP 0 rfl rfl 3 (by decide) (hts _ kf_tb_19) (fun _ h9 => h9) rfl d_tb_dropKey_15 ?_
    refine lv_iload_n hx hb d_tb_dropKey_18 rfl (lv_at hl 0 rfl) ?_
    refine wa_ld (k := x) hx hb hK hP 2 0 rfl rfl hxn.2.2 hn d_tb_dropKey_19 ?_
    refine lv_i2l (v := (V x).toInt64) hx hb d_tb_dropKey_20 rfl ?_
    refine lv_lstore_n (lv' := [(3, .long (V x).toInt64), (2, .int (nI x)), (0, .ref a), (1, .int k)]) hx hb d_tb_dropKey_21 rfl hl (by decide) rfl (fun ls hl => ?_)
    refine lv_aload_n hx hb d_tb_dropKey_22 rfl (lv_at hl 2 rfl) ?_
    refine lv_iload_n hx hb d_tb_dropKey_23 rfl (lv_at hl 1 rfl) ?_
    obtain ⟨l1, l2, eR⟩ := List.append_of_mem hxR
    subst eR
    obtain ⟨q1, q2, q3⟩ := tn_cut (ta_nd0 hTA) hTN
    have hdel : del (K x) L = kv K V (l1 ++ l2) := by rw [eL]; exact (kv_split hKn).2.1
    have hKn2 : ((l1 ++ l2).map K).Nodup := List.Nodup.sublist (List.Sublist.map K (List.Sublist.append_left (List.sublist_cons_self ..) _)) hKn
    refine cg_V (hn := 1) (As := [.int (nI x)]) (rest := []) (wr := []) (q0 := 0) (ci := 0) hx hb hml hown hts (c_tb_drop l D cI cT cP a (mvI mv) qk qv qb qf qh qc (2 ^ (4 + j)) K V P N G C fl (nI mm) j mm x l1 l2 Fr bl hTA hTN hTH hKn) km_tb_60 ki_tb_drop ks_tb_drop kn_tb kc_tb_drop (by decide +kernel) rfl ⟨Nat.le_of_ble_eq_true rfl, Nat.le_of_ble_eq_true rfl⟩ hK hP hD hS hA [0, 1, 2, 3, 4, 5, 6] [] rfl (by decide) rfl (by decide) (by decide) rfl rfl hl.1 rfl (Nat.le_of_ble_eq_true rfl) d_tb_dropKey_24 ⟨Nat.zero_le _, Nat.zero_le _⟩ (fun v u H locs hpost hP hD hS => ?_)
    obtain ⟨G2, C2⟩ := u
    obtain ⟨e9, bl2, hTH2⟩ := hpost
    subst e9
    have hTH2 : TH (2 ^ (4 + j)) K G2 C2 (nI x) (l1 ++ l2) (x :: Fr) bl2 := hTH2
    refine W.eq (g2 := F0 m 27 ls []) rfl ?_
    have hP : va_P D cls (tx cI a (mvI mv) (nI (l1 ++ l2).length) qk qv qb qf qh qc (2 ^ (4 + j)) K V (upd P (hd_ 0 l2) (nI (ls_ 0 l1))) (upd N (ls_ 0 l1) (nI (hd_ 0 l2))) G2 C2 (nI x) (nI mm)) H := hP
    have hD : va_D A (tx cI a (mvI mv) (nI (l1 ++ l2).length) qk qv qb qf qh qc (2 ^ (4 + j)) K V (upd P (hd_ 0 l2) (nI (ls_ 0 l1))) (upd N (ls_ 0 l1) (nI (hd_ 0 l2))) G2 C2 (nI x) (nI mm)) := hD
    refine lv_lload_n hx hb d_tb_dropKey_27 rfl (lv_at hl 0 rfl) ?_
    exact cg_lret (u := (qk, qv, qb, qf, qh, qc, K, V, (upd P (hd_ 0 l2) (nI (ls_ 0 l1))), (upd N (ls_ 0 l1) (nI (hd_ 0 l2))), G2, C2, nI x, mm, l1 ++ l2)) hQ hx hb hr hlk hK hP hD hS (⟨by rw [hkL]; rfl, ⟨x :: Fr, bl2, ta_del hTA, q3, hTH2, hKn2, by rw [← hke]; exact hdel⟩⟩) d_tb_dropKey_28
set_option maxRecDepth 100000 in
set_option maxHeartbeats 4000000 in
/-- dropPair(k, v0) -/
theorem c_tb_dropPair (l : Launch) (D : va_G) (cI cT cP : ClassId) (a : Nat) (mv : Bool) (j : Nat) (L : List (Int32 × Int32)) (u0 : TB) (hL : TL j L u0) (k v0 : Int32) : Cg l y_tb_dropPair b_tb_dropPair 4 (some .boolean) 3 0 0 D (ty3 cI cT cP) [.ref a, .int k, .int v0] (tw cI a mv j u0) (fun (v : Option Value) (u : TB) => v = some (.int (zI (decide (lk k L = some v0)))) ∧ TL j (tk k v0 L) u) (fun u => tw cI a mv j u) := by
  obtain ⟨qk, qv, qb, qf, qh, qc, K, V, P, N, G, C, fl, mm, R⟩ := u0
  obtain ⟨Fr, bl, hTA, hTN, hTH, hKn, eL⟩ := hL
  have hTA : TA (2 ^ (4 + j)) j mm R Fr := hTA
  have hTN : TN P N R := hTN
  have hTH : TH (2 ^ (4 + j)) K G C fl R Fr bl := hTH
  have hKn : (R.map K).Nodup := hKn
  have eL : L = kv K V R := eL
  have hLl : L.length = R.length := by rw [eL]; exact List.length_map ..
  have hn : 2 ^ (4 + j) < 2 ^ 31 := (ta_len hTA).2.2
  have hRl : R.length < 2 ^ 31 := (ta_len hTA).2.1
  refine cg_enter rfl (Nat.le_of_ble_eq_true rfl) ?_
  intro p e s m below meth c args hx hb hr hlk hml hown hin hts A hA hK hP hD hS ls hl Q hQ
  have hl : lv_has ls 4 [(0, .ref a), (1, .int k), (2, .int v0)] := hl
  have hP : va_P D cls (tx cI a (mvI mv) (nI R.length) qk qv qb qf qh qc (2 ^ (4 + j)) K V P N G C fl (nI mm)) s.heap := hP
  have hD : va_D A (tx cI a (mvI mv) (nI R.length) qk qv qb qf qh qc (2 ^ (4 + j)) K V P N G C fl (nI mm)) := hD
  refine lv_aload_n hx hb d_tb_dropPair_0 rfl (lv_at hl 0 rfl) ?_
  refine lv_iload_n hx hb d_tb_dropPair_1 rfl (lv_at hl 1 rfl) ?_
  refine cg_V (hn := 1) (As := [.int k]) (rest := []) (wr := []) (q0 := 0) (ci := 0) hx hb hml hown hts (c_tb_slotOf l D cI cT cP a (mvI mv) qk qv qb qf qh qc (2 ^ (4 + j)) K V P N G C fl (nI mm) j mm R Fr bl hTA hTH hKn k) km_tb_34 ki_tb_slotOf ks_tb_slotOf kn_tb kc_tb_slotOf (by decide +kernel) rfl ⟨Nat.le_of_ble_eq_true rfl, Nat.le_of_ble_eq_true rfl⟩ hK hP hD hS hA [0, 1, 2, 3, 4, 5, 6] [] rfl (by decide) rfl (by decide) (by decide) rfl rfl hl.1 rfl (Nat.le_of_ble_eq_true rfl) d_tb_dropPair_2 ⟨Nat.zero_le _, Nat.zero_le _⟩ (fun v u H locs hpost hP hD hS => ?_)
  subst hpost
  refine W.eq (g2 := F0 m 5 ls [.int (nI (sl K k R))]) rfl ?_
  have hP : va_P D cls (tx cI a (mvI mv) (nI R.length) qk qv qb qf qh qc (2 ^ (4 + j)) K V P N G C fl (nI mm)) H := hP
  have hD : va_D A (tx cI a (mvI mv) (nI R.length) qk qv qb qf qh qc (2 ^ (4 + j)) K V P N G C fl (nI mm)) := hD
  rcases sl_cases K k R with ⟨e0, hno⟩ | ⟨hxR, hke⟩
  · rw [e0]
    have hkL : lk k L = none := by rw [eL]; exact kv_out hno
    refine lv_istore_n (lv' := [(3, .int (nI 0)), (0, .ref a), (1, .int k), (2, .int v0)]) hx hb d_tb_dropPair_5 rfl hl (by decide) rfl (fun ls hl => ?_)
    refine lv_iload_n hx hb d_tb_dropPair_6 rfl (lv_at hl 0 rfl) ?_
    refine lv_if_eq (tgt := 20) hx hb d_tb_dropPair_7 (by decide) (fun _ => ?_) (fun z9 => absurd rfl z9)
    refine lv_iconst (v := 0) hx hb d_tb_dropPair_20 (by decide) ?_
    exact cg_zret (u := (qk, qv, qb, qf, qh, qc, K, V, P, N, G, C, fl, mm, R)) hQ hx hb hr hlk hK hP hD hS rfl (⟨by rw [hkL]; rfl, by unfold tk; rw [hkL, if_neg (by simp)]; exact ⟨Fr, bl, hTA, hTN, hTH, hKn, eL⟩⟩) d_tb_dropPair_21
  · generalize sl K k R = x at *
    have hxn := ta_in hTA hxR
    have hkL : lk k L = some (V x) := by rw [eL, ← hke]; exact kv_at hxR hKn
    refine lv_istore_n (lv' := [(3, .int (nI x)), (0, .ref a), (1, .int k), (2, .int v0)]) hx hb d_tb_dropPair_5 rfl hl (by decide) rfl (fun ls hl => ?_)
    refine lv_iload_n hx hb d_tb_dropPair_6 rfl (lv_at hl 0 rfl) ?_
    refine lv_if_eq (tgt := 20) hx hb d_tb_dropPair_7 (by decide) (fun z9 => absurd z9 (nI_ne0 hxn.1 (by omega))) (fun _ => ?_)
    refine lv_aload_n hx hb d_tb_dropPair_10 rfl (lv_at hl 1 rfl) ?_
    refine va_get (D := D) (ci := 0) (v := .ref qv) (C := R_tb) (T := F_tb) (N := 10) hx hb hts i_tb hown hK hP 0 rfl rfl 3 (by decide) (hts _ kf_tb_19) (fun _ h9 => h9) rfl d_tb_dropPair_11 ?_
    refine lv_iload_n hx hb d_tb_dropPair_14 rfl (lv_at hl 0 rfl) ?_
    refine wa_ld (k := x) hx hb hK hP 2 0 rfl rfl hxn.2.2 hn d_tb_dropPair_15 ?_
    refine lv_iload_n hx hb d_tb_dropPair_16 rfl (lv_at hl 3 rfl) ?_
    refine lv_icmp_eq (tgt := 22) hx hb d_tb_dropPair_17 (by decide) (fun c1 => ?_) (fun c1 => ?_)
    · refine lv_aload_n hx hb d_tb_dropPair_22 rfl (lv_at hl 1 rfl) ?_
      refine lv_iload_n hx hb d_tb_dropPair_23 rfl (lv_at hl 0 rfl) ?_
      obtain ⟨l1, l2, eR⟩ := List.append_of_mem hxR
      subst eR
      obtain ⟨q1, q2, q3⟩ := tn_cut (ta_nd0 hTA) hTN
      have hdel : del (K x) L = kv K V (l1 ++ l2) := by rw [eL]; exact (kv_split hKn).2.1
      have hKn2 : ((l1 ++ l2).map K).Nodup := List.Nodup.sublist (List.Sublist.map K (List.Sublist.append_left (List.sublist_cons_self ..) _)) hKn
      refine cg_V (hn := 1) (As := [.int (nI x)]) (rest := []) (wr := []) (q0 := 0) (ci := 0) hx hb hml hown hts (c_tb_drop l D cI cT cP a (mvI mv) qk qv qb qf qh qc (2 ^ (4 + j)) K V P N G C fl (nI mm) j mm x l1 l2 Fr bl hTA hTN hTH hKn) km_tb_60 ki_tb_drop ks_tb_drop kn_tb kc_tb_drop (by decide +kernel) rfl ⟨Nat.le_of_ble_eq_true rfl, Nat.le_of_ble_eq_true rfl⟩ hK hP hD hS hA [0, 1, 2, 3, 4, 5, 6] [] rfl (by decide) rfl (by decide) (by decide) rfl rfl hl.1 rfl (Nat.le_of_ble_eq_true rfl) d_tb_dropPair_24 ⟨Nat.zero_le _, Nat.zero_le _⟩ (fun v u H locs hpost hP hD hS => ?_)
      obtain ⟨G2, C2⟩ := u
      obtain ⟨e9, bl2, hTH2⟩ := hpost
      subst e9
      have hTH2 : TH (2 ^ (4 + j)) K G2 C2 (nI x) (l1 ++ l2) (x :: Fr) bl2 := hTH2
      refine W.eq (g2 := F0 m 27 ls []) rfl ?_
      have hP : va_P D cls (tx cI a (mvI mv) (nI (l1 ++ l2).length) qk qv qb qf qh qc (2 ^ (4 + j)) K V (upd P (hd_ 0 l2) (nI (ls_ 0 l1))) (upd N (ls_ 0 l1) (nI (hd_ 0 l2))) G2 C2 (nI x) (nI mm)) H := hP
      have hD : va_D A (tx cI a (mvI mv) (nI (l1 ++ l2).length) qk qv qb qf qh qc (2 ^ (4 + j)) K V (upd P (hd_ 0 l2) (nI (ls_ 0 l1))) (upd N (ls_ 0 l1) (nI (hd_ 0 l2))) G2 C2 (nI x) (nI mm)) := hD
      refine lv_iconst (v := 1) hx hb d_tb_dropPair_27 (by decide) ?_
      exact cg_zret (u := (qk, qv, qb, qf, qh, qc, K, V, (upd P (hd_ 0 l2) (nI (ls_ 0 l1))), (upd N (ls_ 0 l1) (nI (hd_ 0 l2))), G2, C2, nI x, mm, l1 ++ l2)) hQ hx hb hr hlk hK hP hD hS rfl (⟨by rw [hkL, decide_eq_true (by rw [c1])]; rfl, by unfold tk; rw [hkL, if_pos (by rw [c1])]; exact ⟨x :: Fr, bl2, ta_del hTA, q3, hTH2, hKn2, by rw [← hke]; exact hdel⟩⟩) d_tb_dropPair_28
    · refine lv_iconst (v := 0) hx hb d_tb_dropPair_20 (by decide) ?_
      exact cg_zret (u := (qk, qv, qb, qf, qh, qc, K, V, P, N, G, C, fl, mm, R)) hQ hx hb hr hlk hK hP hD hS rfl (⟨by rw [hkL, decide_eq_false (fun z9 => c1 (Option.some.inj z9))]; rfl, by unfold tk; rw [hkL, if_neg (fun z9 => c1 (Option.some.inj z9))]; exact ⟨Fr, bl, hTA, hTN, hTH, hKn, eL⟩⟩) d_tb_dropPair_21
set_option maxRecDepth 100000 in
set_option maxHeartbeats 4000000 in
/-- dropAll() -/
theorem c_tb_dropAll (l : Launch) (D : va_G) (cI cT cP : ClassId) (a : Nat) (mv : Bool) (j : Nat) (L : List (Int32 × Int32)) (u0 : TB) (hL : TL j L u0) : Cg l y_tb_dropAll b_tb_dropAll 2 (some .int) 1 0 0 D (ty3 cI cT cP) [.ref a] (tw cI a mv j u0) (fun (v : Option Value) (u : TB) => v = some (.int (nI L.length)) ∧ TL j [] u) (fun u => tw cI a mv j u) := by
  obtain ⟨qk, qv, qb, qf, qh, qc, K, V, P, N, G, C, fl, mm, R⟩ := u0
  obtain ⟨Fr, bl, hTA, hTN, hTH, hKn, eL⟩ := hL
  have hTA : TA (2 ^ (4 + j)) j mm R Fr := hTA
  have hTN : TN P N R := hTN
  have hTH : TH (2 ^ (4 + j)) K G C fl R Fr bl := hTH
  have hKn : (R.map K).Nodup := hKn
  have eL : L = kv K V R := eL
  have hLl : L.length = R.length := by rw [eL]; exact List.length_map ..
  have hn : 2 ^ (4 + j) < 2 ^ 31 := (ta_len hTA).2.2
  have hRl : R.length < 2 ^ 31 := (ta_len hTA).2.1
  refine cg_enter rfl (Nat.le_of_ble_eq_true rfl) ?_
  intro p e s m below meth c args hx hb hr hlk hml hown hin hts A hA hK hP hD hS ls hl Q hQ
  have hl : lv_has ls 2 [(0, .ref a)] := hl
  have hP : va_P D cls (tx cI a (mvI mv) (nI R.length) qk qv qb qf qh qc (2 ^ (4 + j)) K V P N G C fl (nI mm)) s.heap := hP
  have hD : va_D A (tx cI a (mvI mv) (nI R.length) qk qv qb qf qh qc (2 ^ (4 + j)) K V P N G C fl (nI mm)) := hD
  refine lv_aload_n hx hb d_tb_dropAll_0 rfl (lv_at hl 0 rfl) ?_
  refine va_get (D := D) (ci := 0) (v := .int (nI R.length)) (C := R_tb) (T := F_tb) (N := 10) hx hb hts i_tb hown hK hP 0 rfl rfl 1 (by decide) (hts _ kf_tb_52) (fun _ h9 => h9) rfl d_tb_dropAll_1 ?_
  refine lv_istore_n (lv' := [(1, .int (nI R.length)), (0, .ref a)]) hx hb d_tb_dropAll_4 rfl hl (by decide) rfl (fun ls hl => ?_)
  refine lv_aload_n hx hb d_tb_dropAll_5 rfl (lv_at hl 1 rfl) ?_
  refine va_get (D := D) (ci := 0) (v := .ref qh) (C := R_tb) (T := F_tb) (N := 10) hx hb hts i_tb hown hK hP 0 rfl rfl 6 (by decide) (hts _ kf_tb_28) (fun _ h9 => h9) rfl d_tb_dropAll_6 ?_
  refine lv_iconst (v := 0) hx hb d_tb_dropAll_9 (by decide) ?_
  have hP : va_P D cls ([(a, .inr (0, [.int (mvI mv), .int (nI R.length), .ref qk, .ref qv, .ref qb, .ref qf, .ref qh, .ref qc, .int fl, .int (nI mm)])), (qk, .inl (cI, (2 ^ (4 + j)), .inl K)), (qv, .inl (cI, (2 ^ (4 + j)), .inl V)), (qb, .inl (cI, (2 ^ (4 + j)), .inl P)), (qf, .inl (cI, (2 ^ (4 + j)), .inl N)), (qh, .inl (cI, (2 ^ (4 + j)), .inl G)), (qc, .inl (cI, (2 ^ (4 + j)), .inl C))]) s.heap := hP
  have hD : va_D A ([(a, .inr (0, [.int (mvI mv), .int (nI R.length), .ref qk, .ref qv, .ref qb, .ref qf, .ref qh, .ref qc, .int fl, .int (nI mm)])), (qk, .inl (cI, (2 ^ (4 + j)), .inl K)), (qv, .inl (cI, (2 ^ (4 + j)), .inl V)), (qb, .inl (cI, (2 ^ (4 + j)), .inl P)), (qf, .inl (cI, (2 ^ (4 + j)), .inl N)), (qh, .inl (cI, (2 ^ (4 + j)), .inl G)), (qc, .inl (cI, (2 ^ (4 + j)), .inl C))]) := hD
  refine cg_S (hn := 2) (As := [.ref qh, .int 0]) (rest := []) (wr := [(a, .inr (0, [.int (mvI mv), .int (nI R.length), .ref qk, .ref qv, .ref qb, .ref qf, .ref qh, .ref qc, .int fl, .int (nI mm)])), (qk, .inl (cI, (2 ^ (4 + j)), .inl K)), (qv, .inl (cI, (2 ^ (4 + j)), .inl V)), (qb, .inl (cI, (2 ^ (4 + j)), .inl P)), (qf, .inl (cI, (2 ^ (4 + j)), .inl N)), (qc, .inl (cI, (2 ^ (4 + j)), .inl C))]) hx hb hml hown hts (c_ja_fill l D cI cT cP qh (2 ^ (4 + j)) G 0 hn) km_tb_69 kt_ja_fill kn_ja kc_ja_fill (by decide +kernel) rfl ⟨Nat.le_of_ble_eq_true rfl, Nat.le_of_ble_eq_true rfl⟩ hK hP hD hS hA [5] [0, 1, 2, 3, 4, 6] rfl (by decide) rfl (by decide) (by decide) hl.1 rfl (Nat.le_of_ble_eq_true rfl) d_tb_dropAll_10 ⟨Nat.zero_le _, Nat.zero_le _⟩ (fun v G2 H locs hpost hP hD hS => ?_)
  obtain ⟨e9, hG2⟩ := hpost
  subst e9
  refine W.eq (g2 := F0 m 13 ls []) rfl ?_
  have hP : va_P D cls ([(a, .inr (0, [.int (mvI mv), .int (nI R.length), .ref qk, .ref qv, .ref qb, .ref qf, .ref qh, .ref qc, .int fl, .int (nI mm)])), (qk, .inl (cI, (2 ^ (4 + j)), .inl K)), (qv, .inl (cI, (2 ^ (4 + j)), .inl V)), (qb, .inl (cI, (2 ^ (4 + j)), .inl P)), (qf, .inl (cI, (2 ^ (4 + j)), .inl N)), (qc, .inl (cI, (2 ^ (4 + j)), .inl C)), (qh, .inl (cI, (2 ^ (4 + j)), .inl G2))]) H := hP
  have hD : va_D A ([(a, .inr (0, [.int (mvI mv), .int (nI R.length), .ref qk, .ref qv, .ref qb, .ref qf, .ref qh, .ref qc, .int fl, .int (nI mm)])), (qk, .inl (cI, (2 ^ (4 + j)), .inl K)), (qv, .inl (cI, (2 ^ (4 + j)), .inl V)), (qb, .inl (cI, (2 ^ (4 + j)), .inl P)), (qf, .inl (cI, (2 ^ (4 + j)), .inl N)), (qc, .inl (cI, (2 ^ (4 + j)), .inl C)), (qh, .inl (cI, (2 ^ (4 + j)), .inl G2))]) := hD
  have hP : va_P D cls ([(a, .inr (0, [.int (mvI mv), .int (nI R.length), .ref qk, .ref qv, .ref qb, .ref qf, .ref qh, .ref qc, .int fl, .int (nI mm)])), (qk, .inl (cI, (2 ^ (4 + j)), .inl K)), (qv, .inl (cI, (2 ^ (4 + j)), .inl V)), (qb, .inl (cI, (2 ^ (4 + j)), .inl P)), (qf, .inl (cI, (2 ^ (4 + j)), .inl N)), (qh, .inl (cI, (2 ^ (4 + j)), .inl G2)), (qc, .inl (cI, (2 ^ (4 + j)), .inl C))]) H := hP.sub [0, 1, 2, 3, 4, 6, 5] rfl
  have hD : va_D A ([(a, .inr (0, [.int (mvI mv), .int (nI R.length), .ref qk, .ref qv, .ref qb, .ref qf, .ref qh, .ref qc, .int fl, .int (nI mm)])), (qk, .inl (cI, (2 ^ (4 + j)), .inl K)), (qv, .inl (cI, (2 ^ (4 + j)), .inl V)), (qb, .inl (cI, (2 ^ (4 + j)), .inl P)), (qf, .inl (cI, (2 ^ (4 + j)), .inl N)), (qh, .inl (cI, (2 ^ (4 + j)), .inl G2)), (qc, .inl (cI, (2 ^ (4 + j)), .inl C))]) := hD.sub [0, 1, 2, 3, 4, 6, 5] (by decide) rfl
  have hP : va_P D cls (tx cI a (mvI mv) (nI R.length) qk qv qb qf qh qc (2 ^ (4 + j)) K V P N G2 C fl (nI mm)) H := hP
  have hD : va_D A (tx cI a (mvI mv) (nI R.length) qk qv qb qf qh qc (2 ^ (4 + j)) K V P N G2 C fl (nI mm)) := hD
  refine lv_aload_n hx hb d_tb_dropAll_13 rfl (lv_at hl 1 rfl) ?_
  refine va_get (D := D) (ci := 0) (v := .ref qb) (C := R_tb) (T := F_tb) (N := 10) hx hb hts i_tb hown hK hP 0 rfl rfl 4 (by decide) (hts _ kf_tb_22) (fun _ h9 => h9) rfl d_tb_dropAll_14 ?_
  refine lv_iconst (v := 0) hx hb d_tb_dropAll_17 (by decide) ?_
  refine lv_iconst (v := 0) hx hb d_tb_dropAll_18 (by decide) ?_
  refine wa_st (k := 0) (x := 0) hx hb hK hP hD hS 3 0 rfl rfl (by have := ta_n hTA; omega) hn d_tb_dropAll_19 (fun H locs hP hD hS => ?_)
  have hP : va_P D cls (tx cI a (mvI mv) (nI R.length) qk qv qb qf qh qc (2 ^ (4 + j)) K V (upd P 0 0) N G2 C fl (nI mm)) H := hP
  have hD : va_D A (tx cI a (mvI mv) (nI R.length) qk qv qb qf qh qc (2 ^ (4 + j)) K V (upd P 0 0) N G2 C fl (nI mm)) := hD
  refine lv_aload_n hx hb d_tb_dropAll_20 rfl (lv_at hl 1 rfl) ?_
  refine va_get (D := D) (ci := 0) (v := .ref qf) (C := R_tb) (T := F_tb) (N := 10) hx hb hts i_tb hown hK hP 0 rfl rfl 5 (by decide) (hts _ kf_tb_25) (fun _ h9 => h9) rfl d_tb_dropAll_21 ?_
  refine lv_iconst (v := 0) hx hb d_tb_dropAll_24 (by decide) ?_
  refine lv_iconst (v := 0) hx hb d_tb_dropAll_25 (by decide) ?_
  refine wa_st (k := 0) (x := 0) hx hb hK hP hD hS 4 0 rfl rfl (by have := ta_n hTA; omega) hn d_tb_dropAll_26 (fun H locs hP hD hS => ?_)
  have hP : va_P D cls (tx cI a (mvI mv) (nI R.length) qk qv qb qf qh qc (2 ^ (4 + j)) K V (upd P 0 0) (upd N 0 0) G2 C fl (nI mm)) H := hP
  have hD : va_D A (tx cI a (mvI mv) (nI R.length) qk qv qb qf qh qc (2 ^ (4 + j)) K V (upd P 0 0) (upd N 0 0) G2 C fl (nI mm)) := hD
  refine lv_aload_n hx hb d_tb_dropAll_27 rfl (lv_at hl 1 rfl) ?_
  refine lv_iconst (v := 0) hx hb d_tb_dropAll_28 (by decide) ?_
  refine va_put (D := D) (ci := 0) (v := .int 0) (ty := .int) (C := R_tb) (T := F_tb) (N := 10) hx hb hts i_tb t_tb t_tb_ok n_tb hown hK hP hD hS 0 rfl rfl 8 (by decide) (hts _ kf_tb_75) (fun _ h9 => h9) rfl (by decide +kernel) rfl rfl (Nat.le_of_ble_eq_true rfl) d_tb_dropAll_29 (fun H locs hP hD hS => ?_)
  have hP : va_P D cls (tx cI a (mvI mv) (nI R.length) qk qv qb qf qh qc (2 ^ (4 + j)) K V (upd P 0 0) (upd N 0 0) G2 C 0 (nI mm)) H := hP
  have hD : va_D A (tx cI a (mvI mv) (nI R.length) qk qv qb qf qh qc (2 ^ (4 + j)) K V (upd P 0 0) (upd N 0 0) G2 C 0 (nI mm)) := hD
  refine lv_aload_n hx hb d_tb_dropAll_32 rfl (lv_at hl 1 rfl) ?_
  refine lv_iconst (v := 0) hx hb d_tb_dropAll_33 (by decide) ?_
  refine va_put (D := D) (ci := 0) (v := .int 0) (ty := .int) (C := R_tb) (T := F_tb) (N := 10) hx hb hts i_tb t_tb t_tb_ok n_tb hown hK hP hD hS 0 rfl rfl 9 (by decide) (hts _ kf_tb_78) (fun _ h9 => h9) rfl (by decide +kernel) rfl rfl (Nat.le_of_ble_eq_true rfl) d_tb_dropAll_34 (fun H locs hP hD hS => ?_)
  have hP : va_P D cls (tx cI a (mvI mv) (nI R.length) qk qv qb qf qh qc (2 ^ (4 + j)) K V (upd P 0 0) (upd N 0 0) G2 C 0 0) H := hP
  have hD : va_D A (tx cI a (mvI mv) (nI R.length) qk qv qb qf qh qc (2 ^ (4 + j)) K V (upd P 0 0) (upd N 0 0) G2 C 0 0) := hD
  refine lv_aload_n hx hb d_tb_dropAll_37 rfl (lv_at hl 1 rfl) ?_
  refine lv_iconst (v := 0) hx hb d_tb_dropAll_38 (by decide) ?_
  refine va_put (D := D) (ci := 0) (v := .int 0) (ty := .int) (C := R_tb) (T := F_tb) (N := 10) hx hb hts i_tb t_tb t_tb_ok n_tb hown hK hP hD hS 0 rfl rfl 1 (by decide) (hts _ kf_tb_52) (fun _ h9 => h9) rfl (by decide +kernel) rfl rfl (Nat.le_of_ble_eq_true rfl) d_tb_dropAll_39 (fun H locs hP hD hS => ?_)
  have hP : va_P D cls (tx cI a (mvI mv) 0 qk qv qb qf qh qc (2 ^ (4 + j)) K V (upd P 0 0) (upd N 0 0) G2 C 0 0) H := hP
  have hD : va_D A (tx cI a (mvI mv) 0 qk qv qb qf qh qc (2 ^ (4 + j)) K V (upd P 0 0) (upd N 0 0) G2 C 0 0) := hD
  refine lv_iload_n hx hb d_tb_dropAll_42 rfl (lv_at hl 0 rfl) ?_
  exact cg_iret (u := (qk, qv, qb, qf, qh, qc, K, V, upd P 0 0, upd N 0 0, G2, C, 0, 0, [])) hQ hx hb hr hlk hK hP hD hS (⟨by rw [hLl], [], fun _ => [], ⟨hTA.1, by show 0 < 2 ^ (4 + j); have := ta_n hTA; omega, by simp, fun x => by simp; omega, rfl⟩, tn_empty, ⟨rfl, fun h hh => ⟨hG2 h hh, List.Perm.refl _⟩⟩, by simp, rfl⟩) d_tb_dropAll_43
end
section
-- Table, outer methods (2): printed by wip/whole/gen/tb6.py
def hvl (x : Int32) (L : List (Int32 × Int32)) : Bool := L.any (fun e => decide (e.2 = x))
def en (e : Int32 × Int32) : Int64 := 31 * e.1.toInt64 + e.2.toInt64
def sm (L : List (Int32 × Int32)) : Int64 := L.foldl (fun t e => t + en e) 0
def rs (b : Int32) (L : List (Int32 × Int32)) : List (Int32 × Int32) := L.map (fun e => (e.1, e.2 + b))
/-- the slot at a place -/
def sa (q : Int32) (R : List Nat) : Nat := if q < 0 then 0 else R.getD q.toNatClampNeg 0
theorem getD_hd (l1 l2 : List Nat) : (l1 ++ l2).getD l1.length 0 = hd_ 0 l2 := by
  rw [List.getD_eq_getElem?_getD, List.getElem?_append_right (Nat.le_refl _), Nat.sub_self]
  cases l2 <;> rfl
theorem sm_snoc {K V : Nat → Int32} {l1 : List Nat} {x : Nat} : sm (kv K V (l1 ++ [x])) = sm (kv K V l1) + (31 * (K x).toInt64 + (V x).toInt64) := by
  unfold sm kv
  rw [List.map_append, List.foldl_append]
  rfl
set_option maxRecDepth 100000 in
set_option maxHeartbeats 4000000 in
/-- holdsValue(x0) -/
theorem c_tb_holdsValue (l : Launch) (D : va_G) (cI cT cP : ClassId) (a : Nat) (mv : Bool) (j : Nat) (L : List (Int32 × Int32)) (u0 : TB) (hL : TL j L u0) (x0 : Int32) : Cg l y_tb_holdsValue b_tb_holdsValue 4 (some .boolean) 0 0 0 D (ty3 cI cT cP) [.ref a, .int x0] (tw cI a mv j u0) (fun (v : Option Value) (u : Unit) => v = some (.int (zI (hvl x0 L)))) (fun u => tw cI a mv j u0) := by
  obtain ⟨qk, qv, qb, qf, qh, qc, K, V, P, N, G, C, fl, mm, R⟩ := u0
  obtain ⟨Fr, bl, hTA, hTN, hTH, hKn, eL⟩ := hL
  have hTA : TA (2 ^ (4 + j)) j mm R Fr := hTA
  have hTN : TN P N R := hTN
  have hTH : TH (2 ^ (4 + j)) K G C fl R Fr bl := hTH
  have hKn : (R.map K).Nodup := hKn
  have eL : L = kv K V R := eL
  have hLl : L.length = R.length := by rw [eL]; exact List.length_map ..
  have hn : 2 ^ (4 + j) < 2 ^ 31 := (ta_len hTA).2.2
  have hRl : R.length < 2 ^ 31 := (ta_len hTA).2.1
  refine cg_enter rfl (Nat.le_of_ble_eq_true rfl) ?_
  intro p e s m below meth c args hx hb hr hlk hml hown hin hts A hA hK hP hD hS ls hl Q hQ
  have hl : lv_has ls 4 [(0, .ref a), (1, .int x0)] := hl
  have hP : va_P D cls (tx cI a (mvI mv) (nI R.length) qk qv qb qf qh qc (2 ^ (4 + j)) K V P N G C fl (nI mm)) s.heap := hP
  have hD : va_D A (tx cI a (mvI mv) (nI R.length) qk qv qb qf qh qc (2 ^ (4 + j)) K V P N G C fl (nI mm)) := hD
  refine lv_aload_n hx hb d_tb_holdsValue_0 rfl (lv_at hl 0 rfl) ?_
  refine va_get (D := D) (ci := 0) (v := .ref qf) (C := R_tb) (T := F_tb) (N := 10) hx hb hts i_tb hown hK hP 0 rfl rfl 5 (by decide) (hts _ kf_tb_25) (fun _ h9 => h9) rfl d_tb_holdsValue_1 ?_
  refine lv_iconst (v := 0) hx hb d_tb_holdsValue_4 (by decide) ?_
  refine wa_ld (k := 0) hx hb hK hP 4 0 rfl rfl (by have := ta_n hTA; omega) hn d_tb_holdsValue_5 ?_
  refine tp_i (y := nI (hd_ 0 R)) (sg_hd0 hTN.1) ?_
  refine lv_istore_n (lv' := [(2, .int (nI (hd_ 0 R))), (0, .ref a), (1, .int x0)]) hx hb d_tb_holdsValue_6 rfl hl (by decide) rfl (fun ls hl => ?_)
  refine lv_iconst (v := 0) hx hb d_tb_holdsValue_7 (by decide) ?_
  refine lv_istore_n (lv' := [(3, .int 0), (2, .int (nI (hd_ 0 R))), (0, .ref a), (1, .int x0)]) hx hb d_tb_holdsValue_8 rfl hl (by decide) rfl (fun ls hl => ?_)
  have loop : ∀ (l2 l1 : List Nat), R = l1 ++ l2 → (∀ y, y ∈ l1 → ¬ V y = x0) → ∀ ls : Array Slot, lv_has ls 4 [(0, .ref a), (1, .int x0), (2, .int (nI (hd_ 0 l2))), (3, .int (nI l1.length))] → W p l e (rmL 0 0 0) s m args below meth c s.heap [] 0 0 Q (F0 m 9 ls []) := by
    intro l2
    induction l2 with
    | nil =>
      intro l1 eR hno ls hl
      have hl1 : l1 = R := by rw [eR, List.append_nil]
      have hf : hvl x0 L = false := by
        rw [eL]
        unfold hvl kv
        rw [List.any_eq_false]
        intro q hq
        obtain ⟨y, hy, rfl⟩ := List.mem_map.mp hq
        simpa using hno y (by rw [hl1]; exact hy)
      refine lv_iload_n hx hb d_tb_holdsValue_9 rfl (lv_at hl 3 rfl) ?_
      refine lv_aload_n hx hb d_tb_holdsValue_10 rfl (lv_at hl 0 rfl) ?_
      refine va_get (D := D) (ci := 0) (v := .int (nI R.length)) (C := R_tb) (T := F_tb) (N := 10) hx hb hts i_tb hown hK hP 0 rfl rfl 1 (by decide) (hts _ kf_tb_52) (fun _ h9 => h9) rfl d_tb_holdsValue_11 ?_
      refine lv_icmp_ge (tgt := 42) hx hb d_tb_holdsValue_14 (by decide) (fun _ => ?_) (fun z9 => absurd (by rw [hl1]; exact nI_le (Nat.le_refl _) hRl) z9)
      refine lv_iconst (v := 0) hx hb d_tb_holdsValue_42 (by decide) ?_
      exact cg_zret (u := ()) hQ hx hb hr hlk hK hP hD hS rfl (by rw [hf]; rfl) d_tb_holdsValue_43
    | cons x l2 ih =>
      intro l1 eR hno ls hl
      have hxR : x ∈ R := by rw [eR]; exact List.mem_append_right _ (List.mem_cons_self ..)
      have hxn := ta_in hTA hxR
      have hlt : l1.length < R.length := by rw [eR, List.length_append, List.length_cons]; omega
      have sN : N x = nI (hd_ 0 l2) := sg_hd0 (sg_app.mp (show sg N (N 0) (l1 ++ x :: l2) 0 by rw [← eR]; exact hTN.1)).2
      have hl : lv_has ls 4 [(0, .ref a), (1, .int x0), (2, .int (nI x)), (3, .int (nI l1.length))] := hl
      refine lv_iload_n hx hb d_tb_holdsValue_9 rfl (lv_at hl 3 rfl) ?_
      refine lv_aload_n hx hb d_tb_holdsValue_10 rfl (lv_at hl 0 rfl) ?_
      refine va_get (D := D) (ci := 0) (v := .int (nI R.length)) (C := R_tb) (T := F_tb) (N := 10) hx hb hts i_tb hown hK hP 0 rfl rfl 1 (by decide) (hts _ kf_tb_52) (fun _ h9 => h9) rfl d_tb_holdsValue_11 ?_
      refine lv_icmp_ge (tgt := 42) hx hb d_tb_holdsValue_14 (by decide) (fun z9 => absurd z9 (nI_ge hlt hRl)) (fun _ => ?_)
      refine lv_aload_n hx hb d_tb_holdsValue_17 rfl (lv_at hl 0 rfl) ?_
      refine va_get (D := D) (ci := 0) (v := .ref qv) (C := R_tb) (T := F_tb) (N := 10) hx hb hts i_tb hown hK hP 0 rfl rfl 3 (by decide) (hts _ kf_tb_19) (fun _ h9 => h9) rfl d_tb_holdsValue_18 ?_
      refine lv_iload_n hx hb d_tb_holdsValue_21 rfl (lv_at hl 2 rfl) ?_
      refine wa_ld (k := x) hx hb hK hP 2 0 rfl rfl hxn.2.2 hn d_tb_holdsValue_22 ?_
      refine lv_iload_n hx hb d_tb_holdsValue_23 rfl (lv_at hl 1 rfl) ?_
      refine lv_icmp_ne (tgt := 29) hx hb d_tb_holdsValue_24 (by decide) (fun c1 => ?_) (fun c1 => ?_)
      · refine lv_aload_n hx hb d_tb_holdsValue_29 rfl (lv_at hl 0 rfl) ?_
        refine va_get (D := D) (ci := 0) (v := .ref qf) (C := R_tb) (T := F_tb) (N := 10) hx hb hts i_tb hown hK hP 0 rfl rfl 5 (by decide) (hts _ kf_tb_25) (fun _ h9 => h9) rfl d_tb_holdsValue_30 ?_
        refine lv_iload_n hx hb d_tb_holdsValue_33 rfl (lv_at hl 2 rfl) ?_
        refine wa_ld (k := x) hx hb hK hP 4 0 rfl rfl hxn.2.2 hn d_tb_holdsValue_34 ?_
        refine tp_i (y := nI (hd_ 0 l2)) sN ?_
        refine lv_istore_n (lv' := [(2, .int (nI (hd_ 0 l2))), (0, .ref a), (1, .int x0), (3, .int (nI l1.length))]) hx hb d_tb_holdsValue_35 rfl hl (by decide) rfl (fun ls hl => ?_)
        refine lv_iinc (v := nI (l1 ++ [x]).length) (lv' := [(3, .int (nI (l1 ++ [x]).length)), (2, .int (nI (hd_ 0 l2))), (0, .ref a), (1, .int x0)]) hx hb d_tb_holdsValue_36 hl (k := 3) rfl (inc_l l1 x) (by decide) rfl (fun ls hl => ?_)
        refine lv_goto (tgt := 9) hx hb d_tb_holdsValue_39 (by decide) ?_
        exact ih (l1 ++ [x]) (by rw [eR]; simp) (fun y hy => by
            rcases List.mem_append.mp hy with h1 | h1
            · exact hno y h1
            · rw [List.mem_singleton.mp h1]; exact c1) ls (lv_sub hl [2, 3, 1, 0] rfl)
      · refine lv_iconst (v := 1) hx hb d_tb_holdsValue_27 (by decide) ?_
        exact cg_zret (u := ()) hQ hx hb hr hlk hK hP hD hS rfl (by rw [show hvl x0 L = true from by rw [eL]; unfold hvl kv; exact List.any_eq_true.mpr ⟨_, List.mem_map.mpr ⟨x, hxR, rfl⟩, decide_eq_true c1⟩]; rfl) d_tb_holdsValue_28
  exact loop R [] rfl (fun y hy => absurd hy List.not_mem_nil) ls (lv_sub hl [2, 3, 1, 0] rfl)
set_option maxRecDepth 100000 in
set_option maxHeartbeats 4000000 in
/-- slotAt(q0) -/
theorem c_tb_slotAt (l : Launch) (D : va_G) (cI cT cP : ClassId) (a : Nat) (mv : Bool) (j : Nat) (L : List (Int32 × Int32)) (u0 : TB) (hL : TL j L u0) (q0 : Int32) : Cg l y_tb_slotAt b_tb_slotAt 4 (some .int) 0 0 0 D (ty3 cI cT cP) [.ref a, .int q0] (tw cI a mv j u0) (fun (v : Option Value) (u : Unit) => v = some (.int (nI (sa q0 u0.2.2.2.2.2.2.2.2.2.2.2.2.2.2)))) (fun u => tw cI a mv j u0) := by
  obtain ⟨qk, qv, qb, qf, qh, qc, K, V, P, N, G, C, fl, mm, R⟩ := u0
  obtain ⟨Fr, bl, hTA, hTN, hTH, hKn, eL⟩ := hL
  have hTA : TA (2 ^ (4 + j)) j mm R Fr := hTA
  have hTN : TN P N R := hTN
  have hTH : TH (2 ^ (4 + j)) K G C fl R Fr bl := hTH
  have hKn : (R.map K).Nodup := hKn
  have eL : L = kv K V R := eL
  have hLl : L.length = R.length := by rw [eL]; exact List.length_map ..
  have hn : 2 ^ (4 + j) < 2 ^ 31 := (ta_len hTA).2.2
  have hRl : R.length < 2 ^ 31 := (ta_len hTA).2.1
  refine cg_enter rfl (Nat.le_of_ble_eq_true rfl) ?_
  intro p e s m below meth c args hx hb hr hlk hml hown hin hts A hA hK hP hD hS ls hl Q hQ
  have hl : lv_has ls 4 [(0, .ref a), (1, .int q0)] := hl
  have hP : va_P D cls (tx cI a (mvI mv) (nI R.length) qk qv qb qf qh qc (2 ^ (4 + j)) K V P N G C fl (nI mm)) s.heap := hP
  have hD : va_D A (tx cI a (mvI mv) (nI R.length) qk qv qb qf qh qc (2 ^ (4 + j)) K V P N G C fl (nI mm)) := hD
  rcases pk_ix q0 hRl with h1 | h1 | ⟨i, h1, h2⟩
  · refine lv_iload_n hx hb d_tb_slotAt_0 rfl (lv_at hl 1 rfl) ?_
    refine lv_if_lt (tgt := 12) hx hb d_tb_slotAt_1 (by decide) (fun _ => ?_) (fun z9 => absurd h1 z9)
    refine lv_iconst (v := 0) hx hb d_tb_slotAt_12 (by decide) ?_
    exact cg_iret (u := ()) hQ hx hb hr hlk hK hP hD hS (by show some (Value.int 0) = some (.int (nI (sa q0 R))); unfold sa; rw [if_pos h1]; rfl) d_tb_slotAt_13
  · have h0 : ¬ q0 < 0 := fun z9 => by
      have h3 := nI_pos' hRl
      rw [Int32.le_iff_toInt_le] at h1 h3
      rw [Int32.lt_iff_toInt_lt] at z9
      omega
    have hs : sa q0 R = 0 := by
      unfold sa
      rw [if_neg h0, List.getD_eq_getElem?_getD, List.getElem?_eq_none]
      · rfl
      · obtain ⟨i, hi, e⟩ := nI_of h0
        rw [e] at h1 ⊢
        rw [nI_clamp hi]
        exact (nI_leI hRl hi).mp h1
    refine lv_iload_n hx hb d_tb_slotAt_0 rfl (lv_at hl 1 rfl) ?_
    refine lv_if_lt (tgt := 12) hx hb d_tb_slotAt_1 (by decide) (fun z9 => absurd z9 h0) (fun _ => ?_)
    refine lv_iload_n hx hb d_tb_slotAt_4 rfl (lv_at hl 1 rfl) ?_
    refine lv_aload_n hx hb d_tb_slotAt_5 rfl (lv_at hl 0 rfl) ?_
    refine va_get (D := D) (ci := 0) (v := .int (nI R.length)) (C := R_tb) (T := F_tb) (N := 10) hx hb hts i_tb hown hK hP 0 rfl rfl 1 (by decide) (hts _ kf_tb_52) (fun _ h9 => h9) rfl d_tb_slotAt_6 ?_
    refine lv_icmp_lt (tgt := 14) hx hb d_tb_slotAt_9 (by decide) (fun z9 => absurd z9 (fun z9 => absurd h1 (by rw [Int32.le_iff_toInt_le]; rw [Int32.lt_iff_toInt_lt] at z9; omega))) (fun _ => ?_)
    refine lv_iconst (v := 0) hx hb d_tb_slotAt_12 (by decide) ?_
    exact cg_iret (u := ()) hQ hx hb hr hlk hK hP hD hS (by show some (Value.int 0) = some (.int (nI (sa q0 R))); rw [hs]; rfl) d_tb_slotAt_13
  · subst h2
    have hs : sa (nI i) R = R.getD i 0 := by
      unfold sa
      rw [if_neg (nI_pos (by omega)), nI_clamp (by omega)]
    refine lv_iload_n hx hb d_tb_slotAt_0 rfl (lv_at hl 1 rfl) ?_
    refine lv_if_lt (tgt := 12) hx hb d_tb_slotAt_1 (by decide) (fun z9 => absurd z9 (nI_pos (by omega))) (fun _ => ?_)
    refine lv_iload_n hx hb d_tb_slotAt_4 rfl (lv_at hl 1 rfl) ?_
    refine lv_aload_n hx hb d_tb_slotAt_5 rfl (lv_at hl 0 rfl) ?_
    refine va_get (D := D) (ci := 0) (v := .int (nI R.length)) (C := R_tb) (T := F_tb) (N := 10) hx hb hts i_tb hown hK hP 0 rfl rfl 1 (by decide) (hts _ kf_tb_52) (fun _ h9 => h9) rfl d_tb_slotAt_6 ?_
    refine lv_icmp_lt (tgt := 14) hx hb d_tb_slotAt_9 (by decide) (fun _ => ?_) (fun z9 => absurd (nI_lt h1 hRl) z9)
    refine lv_aload_n hx hb d_tb_slotAt_14 rfl (lv_at hl 0 rfl) ?_
    refine va_get (D := D) (ci := 0) (v := .ref qf) (C := R_tb) (T := F_tb) (N := 10) hx hb hts i_tb hown hK hP 0 rfl rfl 5 (by decide) (hts _ kf_tb_25) (fun _ h9 => h9) rfl d_tb_slotAt_15 ?_
    refine lv_iconst (v := 0) hx hb d_tb_slotAt_18 (by decide) ?_
    refine wa_ld (k := 0) hx hb hK hP 4 0 rfl rfl (by have := ta_n hTA; omega) hn d_tb_slotAt_19 ?_
    refine tp_i (y := nI (hd_ 0 R)) (sg_hd0 hTN.1) ?_
    refine lv_istore_n (lv' := [(2, .int (nI (hd_ 0 R))), (0, .ref a), (1, .int (nI i))]) hx hb d_tb_slotAt_20 rfl hl (by decide) rfl (fun ls hl => ?_)
    refine lv_iconst (v := 0) hx hb d_tb_slotAt_21 (by decide) ?_
    refine lv_istore_n (lv' := [(3, .int 0), (2, .int (nI (hd_ 0 R))), (0, .ref a), (1, .int (nI i))]) hx hb d_tb_slotAt_22 rfl hl (by decide) rfl (fun ls hl => ?_)
    have loop : ∀ (k : Nat) (l1 l2 : List Nat), R = l1 ++ l2 → l1.length + k = i → ∀ ls : Array Slot, lv_has ls 4 [(0, .ref a), (1, .int (nI i)), (2, .int (nI (hd_ 0 l2))), (3, .int (nI l1.length))] → W p l e (rmL 0 0 0) s m args below meth c s.heap [] 0 0 Q (F0 m 23 ls []) := by
      intro k
      induction k with
      | zero =>
        intro l1 l2 eR hk ls hl
        refine lv_iload_n hx hb d_tb_slotAt_23 rfl (lv_at hl 3 rfl) ?_
        refine lv_iload_n hx hb d_tb_slotAt_24 rfl (lv_at hl 1 rfl) ?_
        refine lv_icmp_ge (tgt := 41) hx hb d_tb_slotAt_25 (by decide) (fun _ => ?_) (fun z9 => absurd (nI_le (by omega) (by omega)) z9)
        refine lv_iload_n hx hb d_tb_slotAt_41 rfl (lv_at hl 2 rfl) ?_
        exact cg_iret (u := ()) hQ hx hb hr hlk hK hP hD hS (by show some (Value.int (nI (hd_ 0 l2))) = some (.int (nI (sa (nI i) R))); rw [hs, ← hk, Nat.add_zero, eR, getD_hd]) d_tb_slotAt_42
      | succ k ih =>
        intro l1 l2 eR hk ls hl
        cases l2 with
        | nil =>
          exact absurd h1 (by rw [eR, List.append_nil]; omega)
        | cons x l2 =>
          have hxR : x ∈ R := by rw [eR]; exact List.mem_append_right _ (List.mem_cons_self ..)
          have hxn := ta_in hTA hxR
          have hlt : l1.length < R.length := by rw [eR, List.length_append, List.length_cons]; omega
          have sN : N x = nI (hd_ 0 l2) := sg_hd0 (sg_app.mp (show sg N (N 0) (l1 ++ x :: l2) 0 by rw [← eR]; exact hTN.1)).2
          have hl : lv_has ls 4 [(0, .ref a), (1, .int (nI i)), (2, .int (nI x)), (3, .int (nI l1.length))] := hl
          refine lv_iload_n hx hb d_tb_slotAt_23 rfl (lv_at hl 3 rfl) ?_
          refine lv_iload_n hx hb d_tb_slotAt_24 rfl (lv_at hl 1 rfl) ?_
          refine lv_icmp_ge (tgt := 41) hx hb d_tb_slotAt_25 (by decide) (fun z9 => absurd z9 (nI_ge (by omega) (by omega))) (fun _ => ?_)
          refine lv_aload_n hx hb d_tb_slotAt_28 rfl (lv_at hl 0 rfl) ?_
          refine va_get (D := D) (ci := 0) (v := .ref qf) (C := R_tb) (T := F_tb) (N := 10) hx hb hts i_tb hown hK hP 0 rfl rfl 5 (by decide) (hts _ kf_tb_25) (fun _ h9 => h9) rfl d_tb_slotAt_29 ?_
          refine lv_iload_n hx hb d_tb_slotAt_32 rfl (lv_at hl 2 rfl) ?_
          refine wa_ld (k := x) hx hb hK hP 4 0 rfl rfl hxn.2.2 hn d_tb_slotAt_33 ?_
          refine tp_i (y := nI (hd_ 0 l2)) sN ?_
          refine lv_istore_n (lv' := [(2, .int (nI (hd_ 0 l2))), (0, .ref a), (1, .int (nI i)), (3, .int (nI l1.length))]) hx hb d_tb_slotAt_34 rfl hl (by decide) rfl (fun ls hl => ?_)
          refine lv_iinc (v := nI (l1 ++ [x]).length) (lv' := [(3, .int (nI (l1 ++ [x]).length)), (2, .int (nI (hd_ 0 l2))), (0, .ref a), (1, .int (nI i))]) hx hb d_tb_slotAt_35 hl (k := 3) rfl (inc_l l1 x) (by decide) rfl (fun ls hl => ?_)
          refine lv_goto (tgt := 23) hx hb d_tb_slotAt_38 (by decide) ?_
          exact ih (l1 ++ [x]) l2 (by rw [eR]; simp) (by rw [List.length_append, List.length_cons, List.length_nil]; omega) ls (lv_sub hl [2, 3, 1, 0] rfl)
    exact loop i [] R rfl (by simp) ls (lv_sub hl [2, 3, 1, 0] rfl)
set_option maxRecDepth 100000 in
set_option maxHeartbeats 4000000 in
/-- total() -/
theorem c_tb_total (l : Launch) (D : va_G) (cI cT cP : ClassId) (a : Nat) (mv : Bool) (j : Nat) (L : List (Int32 × Int32)) (u0 : TB) (hL : TL j L u0) : Cg l y_tb_total b_tb_total 5 (some .long) 0 0 0 D (ty3 cI cT cP) [.ref a] (tw cI a mv j u0) (fun (v : Option Value) (u : Unit) => v = some (.long (sm L))) (fun u => tw cI a mv j u0) := by
  obtain ⟨qk, qv, qb, qf, qh, qc, K, V, P, N, G, C, fl, mm, R⟩ := u0
  obtain ⟨Fr, bl, hTA, hTN, hTH, hKn, eL⟩ := hL
  have hTA : TA (2 ^ (4 + j)) j mm R Fr := hTA
  have hTN : TN P N R := hTN
  have hTH : TH (2 ^ (4 + j)) K G C fl R Fr bl := hTH
  have hKn : (R.map K).Nodup := hKn
  have eL : L = kv K V R := eL
  have hLl : L.length = R.length := by rw [eL]; exact List.length_map ..
  have hn : 2 ^ (4 + j) < 2 ^ 31 := (ta_len hTA).2.2
  have hRl : R.length < 2 ^ 31 := (ta_len hTA).2.1
  refine cg_enter rfl (Nat.le_of_ble_eq_true rfl) ?_
  intro p e s m below meth c args hx hb hr hlk hml hown hin hts A hA hK hP hD hS ls hl Q hQ
  have hl : lv_has ls 5 [(0, .ref a)] := hl
  have hP : va_P D cls (tx cI a (mvI mv) (nI R.length) qk qv qb qf qh qc (2 ^ (4 + j)) K V P N G C fl (nI mm)) s.heap := hP
  have hD : va_D A (tx cI a (mvI mv) (nI R.length) qk qv qb qf qh qc (2 ^ (4 + j)) K V P N G C fl (nI mm)) := hD
  refine lv_lconst (v := 0) hx hb d_tb_total_0 (by decide) ?_
  refine lv_lstore_n (lv' := [(1, .long 0), (0, .ref a)]) hx hb d_tb_total_1 rfl hl (by decide) rfl (fun ls hl => ?_)
  refine lv_aload_n hx hb d_tb_total_2 rfl (lv_at hl 1 rfl) ?_
  refine va_get (D := D) (ci := 0) (v := .ref qf) (C := R_tb) (T := F_tb) (N := 10) hx hb hts i_tb hown hK hP 0 rfl rfl 5 (by decide) (hts _ kf_tb_25) (fun _ h9 => h9) rfl d_tb_total_3 ?_
  refine lv_iconst (v := 0) hx hb d_tb_total_6 (by decide) ?_
  refine wa_ld (k := 0) hx hb hK hP 4 0 rfl rfl (by have := ta_n hTA; omega) hn d_tb_total_7 ?_
  refine tp_i (y := nI (hd_ 0 R)) (sg_hd0 hTN.1) ?_
  refine lv_istore_n (lv' := [(3, .int (nI (hd_ 0 R))), (1, .long 0), (0, .ref a)]) hx hb d_tb_total_8 rfl hl (by decide) rfl (fun ls hl => ?_)
  refine lv_iconst (v := 0) hx hb d_tb_total_9 (by decide) ?_
  refine lv_istore (lv' := [(4, .int 0), (3, .int (nI (hd_ 0 R))), (1, .long 0), (0, .ref a)]) hx hb d_tb_total_10 hl (by decide) rfl (fun ls hl => ?_)
  have loop : ∀ (l2 l1 : List Nat), R = l1 ++ l2 → ∀ ls : Array Slot, lv_has ls 5 [(0, .ref a), (1, .long (sm (kv K V l1))), (3, .int (nI (hd_ 0 l2))), (4, .int (nI l1.length))] → W p l e (rmL 0 0 0) s m args below meth c s.heap [] 0 0 Q (F0 m 12 ls []) := by
    intro l2
    induction l2 with
    | nil =>
      intro l1 eR ls hl
      have hl1 : l1 = R := by rw [eR, List.append_nil]
      refine lv_iload hx hb d_tb_total_12 (lv_at hl 3 rfl) ?_
      refine lv_aload_n hx hb d_tb_total_14 rfl (lv_at hl 0 rfl) ?_
      refine va_get (D := D) (ci := 0) (v := .int (nI R.length)) (C := R_tb) (T := F_tb) (N := 10) hx hb hts i_tb hown hK hP 0 rfl rfl 1 (by decide) (hts _ kf_tb_52) (fun _ h9 => h9) rfl d_tb_total_15 ?_
      refine lv_icmp_ge (tgt := 56) hx hb d_tb_total_18 (by decide) (fun _ => ?_) (fun z9 => absurd (by rw [hl1]; exact nI_le (Nat.le_refl _) hRl) z9)
      refine lv_lload_n hx hb d_tb_total_56 rfl (lv_at hl 1 rfl) ?_
      exact cg_lret (u := ()) hQ hx hb hr hlk hK hP hD hS (by rw [hl1, eL]) d_tb_total_57
    | cons x l2 ih =>
      intro l1 eR ls hl
      have hxR : x ∈ R := by rw [eR]; exact List.mem_append_right _ (List.mem_cons_self ..)
      have hxn := ta_in hTA hxR
      have hlt : l1.length < R.length := by rw [eR, List.length_append, List.length_cons]; omega
      have sN : N x = nI (hd_ 0 l2) := sg_hd0 (sg_app.mp (show sg N (N 0) (l1 ++ x :: l2) 0 by rw [← eR]; exact hTN.1)).2
      have hl : lv_has ls 5 [(0, .ref a), (1, .long (sm (kv K V l1))), (3, .int (nI x)), (4, .int (nI l1.length))] := hl
      refine lv_iload hx hb d_tb_total_12 (lv_at hl 3 rfl) ?_
      refine lv_aload_n hx hb d_tb_total_14 rfl (lv_at hl 0 rfl) ?_
      refine va_get (D := D) (ci := 0) (v := .int (nI R.length)) (C := R_tb) (T := F_tb) (N := 10) hx hb hts i_tb hown hK hP 0 rfl rfl 1 (by decide) (hts _ kf_tb_52) (fun _ h9 => h9) rfl d_tb_total_15 ?_
      refine lv_icmp_ge (tgt := 56) hx hb d_tb_total_18 (by decide) (fun z9 => absurd z9 (nI_ge hlt hRl)) (fun _ => ?_)
      refine lv_lload_n hx hb d_tb_total_21 rfl (lv_at hl 1 rfl) ?_
      refine lv_ldc2 hx hb hown (hts _ kk_tb_85) d_tb_total_22 ?_
      refine lv_aload_n hx hb d_tb_total_25 rfl (lv_at hl 0 rfl) ?_
      refine va_get (D := D) (ci := 0) (v := .ref qk) (C := R_tb) (T := F_tb) (N := 10) hx hb hts i_tb hown hK hP 0 rfl rfl 2 (by decide) (hts _ kf_tb_15) (fun _ h9 => h9) rfl d_tb_total_26 ?_
      refine lv_iload_n hx hb d_tb_total_29 rfl (lv_at hl 2 rfl) ?_
      refine wa_ld (k := x) hx hb hK hP 1 0 rfl rfl hxn.2.2 hn d_tb_total_30 ?_
      refine lv_i2l (v := (K x).toInt64) hx hb d_tb_total_31 rfl ?_
      refine lv_lmul hx hb d_tb_total_32 ?_
      refine lv_aload_n hx hb d_tb_total_33 rfl (lv_at hl 0 rfl) ?_
      refine va_get (D := D) (ci := 0) (v := .ref qv) (C := R_tb) (T := F_tb) (N := 10) hx hb hts i_tb hown hK hP 0 rfl rfl 3 (by decide) (hts _ kf_tb_19) (fun _ h9 => h9) rfl d_tb_total_34 ?_
      refine lv_iload_n hx hb d_tb_total_37 rfl (lv_at hl 2 rfl) ?_
      refine wa_ld (k := x) hx hb hK hP 2 0 rfl rfl hxn.2.2 hn d_tb_total_38 ?_
      refine lv_i2l (v := (V x).toInt64) hx hb d_tb_total_39 rfl ?_
      refine lv_ladd hx hb d_tb_total_40 ?_
      refine lv_ladd hx hb d_tb_total_41 ?_
      refine tp_l (y := sm (kv K V (l1 ++ [x]))) sm_snoc.symm ?_
      refine lv_lstore_n (lv' := [(1, .long (sm (kv K V (l1 ++ [x])))), (0, .ref a), (3, .int (nI x)), (4, .int (nI l1.length))]) hx hb d_tb_total_42 rfl hl (by decide) rfl (fun ls hl => ?_)
      refine lv_aload_n hx hb d_tb_total_43 rfl (lv_at hl 1 rfl) ?_
      refine va_get (D := D) (ci := 0) (v := .ref qf) (C := R_tb) (T := F_tb) (N := 10) hx hb hts i_tb hown hK hP 0 rfl rfl 5 (by decide) (hts _ kf_tb_25) (fun _ h9 => h9) rfl d_tb_total_44 ?_
      refine lv_iload_n hx hb d_tb_total_47 rfl (lv_at hl 2 rfl) ?_
      refine wa_ld (k := x) hx hb hK hP 4 0 rfl rfl hxn.2.2 hn d_tb_total_48 ?_
      refine tp_i (y := nI (hd_ 0 l2)) sN ?_
      refine lv_istore_n (lv' := [(3, .int (nI (hd_ 0 l2))), (1, .long (sm (kv K V (l1 ++ [x])))), (0, .ref a), (4, .int (nI l1.length))]) hx hb d_tb_total_49 rfl hl (by decide) rfl (fun ls hl => ?_)
      refine lv_iinc (v := nI (l1 ++ [x]).length) (lv' := [(4, .int (nI (l1 ++ [x]).length)), (3, .int (nI (hd_ 0 l2))), (1, .long (sm (kv K V (l1 ++ [x])))), (0, .ref a)]) hx hb d_tb_total_50 hl (k := 3) rfl (inc_l l1 x) (by decide) rfl (fun ls hl => ?_)
      refine lv_goto (tgt := 12) hx hb d_tb_total_53 (by decide) ?_
      exact ih (l1 ++ [x]) (by rw [eR]; simp) ls (lv_sub hl [3, 2, 1, 0] rfl)
  exact loop R [] rfl ls (lv_sub hl [3, 2, 1, 0] rfl)
set_option maxRecDepth 100000 in
set_option maxHeartbeats 4000000 in
/-- increase(b0) -/
theorem c_tb_increase (l : Launch) (D : va_G) (cI cT cP : ClassId) (a : Nat) (mv : Bool) (j : Nat) (L : List (Int32 × Int32)) (u0 : TB) (hL : TL j L u0) (b0 : Int32) : Cg l y_tb_increase b_tb_increase 4 (some .int) 0 0 0 D (ty3 cI cT cP) [.ref a, .int b0] (tw cI a mv j u0) (fun (v : Option Value) (u : TB) => v = some (.int (nI L.length)) ∧ TL j (rs b0 L) u) (fun u => tw cI a mv j u) := by
  obtain ⟨qk, qv, qb, qf, qh, qc, K, V, P, N, G, C, fl, mm, R⟩ := u0
  obtain ⟨Fr, bl, hTA, hTN, hTH, hKn, eL⟩ := hL
  have hTA : TA (2 ^ (4 + j)) j mm R Fr := hTA
  have hTN : TN P N R := hTN
  have hTH : TH (2 ^ (4 + j)) K G C fl R Fr bl := hTH
  have hKn : (R.map K).Nodup := hKn
  have eL : L = kv K V R := eL
  have hLl : L.length = R.length := by rw [eL]; exact List.length_map ..
  have hn : 2 ^ (4 + j) < 2 ^ 31 := (ta_len hTA).2.2
  have hRl : R.length < 2 ^ 31 := (ta_len hTA).2.1
  refine cg_enter rfl (Nat.le_of_ble_eq_true rfl) ?_
  intro p e s m below meth c args hx hb hr hlk hml hown hin hts A hA hK hP hD hS ls hl Q hQ
  have hl : lv_has ls 4 [(0, .ref a), (1, .int b0)] := hl
  have hP : va_P D cls (tx cI a (mvI mv) (nI R.length) qk qv qb qf qh qc (2 ^ (4 + j)) K V P N G C fl (nI mm)) s.heap := hP
  have hD : va_D A (tx cI a (mvI mv) (nI R.length) qk qv qb qf qh qc (2 ^ (4 + j)) K V P N G C fl (nI mm)) := hD
  refine lv_aload_n hx hb d_tb_increase_0 rfl (lv_at hl 0 rfl) ?_
  refine va_get (D := D) (ci := 0) (v := .ref qf) (C := R_tb) (T := F_tb) (N := 10) hx hb hts i_tb hown hK hP 0 rfl rfl 5 (by decide) (hts _ kf_tb_25) (fun _ h9 => h9) rfl d_tb_increase_1 ?_
  refine lv_iconst (v := 0) hx hb d_tb_increase_4 (by decide) ?_
  refine wa_ld (k := 0) hx hb hK hP 4 0 rfl rfl (by have := ta_n hTA; omega) hn d_tb_increase_5 ?_
  refine tp_i (y := nI (hd_ 0 R)) (sg_hd0 hTN.1) ?_
  refine lv_istore_n (lv' := [(2, .int (nI (hd_ 0 R))), (0, .ref a), (1, .int b0)]) hx hb d_tb_increase_6 rfl hl (by decide) rfl (fun ls hl => ?_)
  refine lv_iconst (v := 0) hx hb d_tb_increase_7 (by decide) ?_
  refine lv_istore_n (lv' := [(3, .int 0), (2, .int (nI (hd_ 0 R))), (0, .ref a), (1, .int b0)]) hx hb d_tb_increase_8 rfl hl (by decide) rfl (fun ls hl => ?_)
  have loop : ∀ (l2 l1 : List Nat) (V2 : Nat → Int32), R = l1 ++ l2 → (∀ y, y ∈ l1 → V2 y = V y + b0) → (∀ y, y ∈ l2 → V2 y = V y) → ∀ (H : Heap) (locs : List Loc), va_P D cls (tx cI a (mvI mv) (nI R.length) qk qv qb qf qh qc (2 ^ (4 + j)) K V2 P N G C fl (nI mm)) H → va_D A (tx cI a (mvI mv) (nI R.length) qk qv qb qf qh qc (2 ^ (4 + j)) K V2 P N G C fl (nI mm)) → va_S A s.heap H locs → ∀ ls : Array Slot, lv_has ls 4 [(0, .ref a), (1, .int b0), (2, .int (nI (hd_ 0 l2))), (3, .int (nI l1.length))] → W p l e (rmL 0 0 0) s m args below meth c H locs 0 0 Q (F0 m 9 ls []) := by
    intro l2
    induction l2 with
    | nil =>
      intro l1 V2 eR h1 h2 H locs hP hD hS ls hl
      have hl1 : l1 = R := by rw [eR, List.append_nil]
      refine lv_iload_n hx hb d_tb_increase_9 rfl (lv_at hl 3 rfl) ?_
      refine lv_aload_n hx hb d_tb_increase_10 rfl (lv_at hl 0 rfl) ?_
      refine va_get (D := D) (ci := 0) (v := .int (nI R.length)) (C := R_tb) (T := F_tb) (N := 10) hx hb hts i_tb hown hK hP 0 rfl rfl 1 (by decide) (hts _ kf_tb_52) (fun _ h9 => h9) rfl d_tb_increase_11 ?_
      refine lv_icmp_ge (tgt := 40) hx hb d_tb_increase_14 (by decide) (fun _ => ?_) (fun z9 => absurd (by rw [hl1]; exact nI_le (Nat.le_refl _) hRl) z9)
      refine lv_aload_n hx hb d_tb_increase_40 rfl (lv_at hl 0 rfl) ?_
      refine va_get (D := D) (ci := 0) (v := .int (nI R.length)) (C := R_tb) (T := F_tb) (N := 10) hx hb hts i_tb hown hK hP 0 rfl rfl 1 (by decide) (hts _ kf_tb_52) (fun _ h9 => h9) rfl d_tb_increase_41 ?_
      exact cg_iret (u := (qk, qv, qb, qf, qh, qc, K, V2, P, N, G, C, fl, mm, R)) hQ hx hb hr hlk hK hP hD hS (⟨by rw [hLl], Fr, bl, hTA, hTN, hTH, hKn, by
        rw [eL]
        unfold rs kv
        rw [List.map_map]
        exact List.map_congr_left (fun y hy => by
          show (K y, V y + b0) = (K y, V2 y)
          rw [h1 y (by rw [hl1]; exact hy)])⟩) d_tb_increase_44
    | cons x l2 ih =>
      intro l1 V2 eR h1 h2 H locs hP hD hS ls hl
      have hxR : x ∈ R := by rw [eR]; exact List.mem_append_right _ (List.mem_cons_self ..)
      have hxn := ta_in hTA hxR
      have hlt : l1.length < R.length := by rw [eR, List.length_append, List.length_cons]; omega
      have sN : N x = nI (hd_ 0 l2) := sg_hd0 (sg_app.mp (show sg N (N 0) (l1 ++ x :: l2) 0 by rw [← eR]; exact hTN.1)).2
      have hl : lv_has ls 4 [(0, .ref a), (1, .int b0), (2, .int (nI x)), (3, .int (nI l1.length))] := hl
      have nd1 : (l1 ++ x :: l2).Nodup := by rw [← eR]; exact ta_nd hTA
      have nx1 : x ∉ l1 := fun z9 => (List.nodup_append.mp nd1).2.2 x z9 x (List.mem_cons_self ..) rfl
      have nx2 : x ∉ l2 := (List.nodup_cons.mp (List.nodup_append.mp nd1).2.1).1
      refine lv_iload_n hx hb d_tb_increase_9 rfl (lv_at hl 3 rfl) ?_
      refine lv_aload_n hx hb d_tb_increase_10 rfl (lv_at hl 0 rfl) ?_
      refine va_get (D := D) (ci := 0) (v := .int (nI R.length)) (C := R_tb) (T := F_tb) (N := 10) hx hb hts i_tb hown hK hP 0 rfl rfl 1 (by decide) (hts _ kf_tb_52) (fun _ h9 => h9) rfl d_tb_increase_11 ?_
      refine lv_icmp_ge (tgt := 40) hx hb d_tb_increase_14 (by decide) (fun z9 => absurd z9 (nI_ge hlt hRl)) (fun _ => ?_)
      refine lv_aload_n hx hb d_tb_increase_17 rfl (lv_at hl 0 rfl) ?_
      refine va_get (D := D) (ci := 0) (v := .ref qv) (C := R_tb) (T := F_tb) (N := 10) hx hb hts i_tb hown hK hP 0 rfl rfl 3 (by decide) (hts _ kf_tb_19) (fun _ h9 => h9) rfl d_tb_increase_18 ?_
      refine lv_iload_n hx hb d_tb_increase_21 rfl (lv_at hl 2 rfl) ?_
      refine lv_dup2_11 hx hb d_tb_increase_22 rfl rfl ?_
      refine wa_ld (k := x) hx hb hK hP 2 0 rfl rfl hxn.2.2 hn d_tb_increase_23 ?_
      refine lv_iload_n hx hb d_tb_increase_24 rfl (lv_at hl 1 rfl) ?_
      refine lv_iadd hx hb d_tb_increase_25 ?_
      refine wa_st (k := x) (x := ((V2 x) + b0)) hx hb hK hP hD hS 2 0 rfl rfl hxn.2.2 hn d_tb_increase_26 (fun H locs hP hD hS => ?_)
      have hP : va_P D cls (tx cI a (mvI mv) (nI R.length) qk qv qb qf qh qc (2 ^ (4 + j)) K (upd V2 x ((V2 x) + b0)) P N G C fl (nI mm)) H := hP
      have hD : va_D A (tx cI a (mvI mv) (nI R.length) qk qv qb qf qh qc (2 ^ (4 + j)) K (upd V2 x ((V2 x) + b0)) P N G C fl (nI mm)) := hD
      refine lv_aload_n hx hb d_tb_increase_27 rfl (lv_at hl 0 rfl) ?_
      refine va_get (D := D) (ci := 0) (v := .ref qf) (C := R_tb) (T := F_tb) (N := 10) hx hb hts i_tb hown hK hP 0 rfl rfl 5 (by decide) (hts _ kf_tb_25) (fun _ h9 => h9) rfl d_tb_increase_28 ?_
      refine lv_iload_n hx hb d_tb_increase_31 rfl (lv_at hl 2 rfl) ?_
      refine wa_ld (k := x) hx hb hK hP 4 0 rfl rfl hxn.2.2 hn d_tb_increase_32 ?_
      refine tp_i (y := nI (hd_ 0 l2)) sN ?_
      refine lv_istore_n (lv' := [(2, .int (nI (hd_ 0 l2))), (0, .ref a), (1, .int b0), (3, .int (nI l1.length))]) hx hb d_tb_increase_33 rfl hl (by decide) rfl (fun ls hl => ?_)
      refine lv_iinc (v := nI (l1 ++ [x]).length) (lv' := [(3, .int (nI (l1 ++ [x]).length)), (2, .int (nI (hd_ 0 l2))), (0, .ref a), (1, .int b0)]) hx hb d_tb_increase_34 hl (k := 3) rfl (inc_l l1 x) (by decide) rfl (fun ls hl => ?_)
      refine lv_goto (tgt := 9) hx hb d_tb_increase_37 (by decide) ?_
      exact ih (l1 ++ [x]) _ (by rw [eR]; simp) (fun y hy => by
          rcases List.mem_append.mp hy with h3 | h3
          · rw [pk_un (fun z9 => nx1 (by rw [← z9]; exact h3))]; exact h1 y h3
          · rw [List.mem_singleton.mp h3, pk_us, h2 x (List.mem_cons_self ..)]) (fun y hy => by rw [pk_un (fun z9 => nx2 (by rw [← z9]; exact hy))]; exact h2 y (List.mem_cons_of_mem _ hy)) _ _ hP hD hS ls (lv_sub hl [2, 3, 1, 0] rfl)
  exact loop R [] V rfl (fun y hy => absurd hy List.not_mem_nil) (fun y hy => rfl) _ _ hP hD hS ls (lv_sub hl [2, 3, 1, 0] rfl)
end
section
-- Table, outer methods (3): printed by wip/whole/gen/tb7.py
/-- sweep -/
def sw (d r : Int32) (L : List (Int32 × Int32)) : List (Int32 × Int32) := L.filter (fun e => decide (¬ fm e.1 d = r))
theorem sw_kv {d r : Int32} {K V : Nat → Int32} {R : List Nat} : sw d r (kv K V R) = kv K V (R.filter (fun y => decide (¬ fm (K y) d = r))) := List.filter_map ..
/-- pour: entries stored one behind another; rows grow -/
def pj (mv : Bool) : Nat × List (Int32 × Int32) → List (Int32 × Int32) → Nat × List (Int32 × Int32)
  | jl, [] => jl
  | jl, e :: M => pj mv (njs jl.1 e.1 jl.2, st mv e.1 e.2 jl.2) M
theorem nj_le (j len : Nat) : j ≤ nj j len := by
  unfold nj
  split <;> omega
theorem njs_le (j : Nat) (k : Int32) (L : List (Int32 × Int32)) : j ≤ njs j k L := by
  unfold njs
  split
  · exact nj_le _ _
  · exact Nat.le_refl _
theorem pj_le {mv : Bool} {M : List (Int32 × Int32)} : ∀ jl : Nat × List (Int32 × Int32), jl.1 ≤ (pj mv jl M).1 := by
  induction M with
  | nil => exact fun jl => Nat.le_refl _
  | cons e M ih => exact fun jl => Nat.le_trans (njs_le jl.1 e.1 jl.2) (ih (njs jl.1 e.1 jl.2, st mv e.1 e.2 jl.2))
theorem mcT_add {a b c : Nat} (h1 : a ≤ b) (h2 : b ≤ c) : mcT a b + mcT b c = mcT a c := by
  unfold mcT
  omega
theorem msT_add {a b c : Nat} (h1 : a ≤ b) (h2 : b ≤ c) : msT a b + msT b c = msT a c := by
  unfold msT
  have e1 : 2 ^ (5 + a) ≤ 2 ^ (5 + b) := Nat.pow_le_pow_right (by decide) (by omega)
  have e2 : 2 ^ (5 + b) ≤ 2 ^ (5 + c) := Nat.pow_le_pow_right (by decide) (by omega)
  omega
theorem mcT_le {a b c : Nat} (h : b ≤ c) : mcT a b ≤ mcT a c := by
  unfold mcT
  omega
theorem msT_le {a b c : Nat} (h : b ≤ c) : msT a b ≤ msT a c := by
  unfold msT
  have e2 : 2 ^ (5 + b) ≤ 2 ^ (5 + c) := Nat.pow_le_pow_right (by decide) (by omega)
  omega
theorem del_len {k : Int32} {L : List (Int32 × Int32)} : (del k L).length ≤ L.length := List.length_filter_le ..
theorem del_lt {k v : Int32} {L : List (Int32 × Int32)} (h : lk k L = some v) : (del k L).length < L.length := by
  have h1 := lk_mem h
  refine List.length_filter_lt_length_iff_exists.mpr ⟨(k, v), h1, by simp⟩
theorem setv_len {k v : Int32} {L : List (Int32 × Int32)} : (setv k v L).length = L.length := List.length_map ..
theorem us_len {mv : Bool} {k : Int32} {L : List (Int32 × Int32)} : (us mv k L).length ≤ L.length := by
  unfold us
  cases mv with
  | false => exact Nat.le_refl _
  | true =>
    cases h : lk k L with
    | none => exact Nat.le_refl _
    | some v =>
      have := del_lt h
      simp only [if_true, List.length_append, List.length_cons, List.length_nil]
      omega
theorem st_len {mv : Bool} {k v : Int32} {L : List (Int32 × Int32)} : (st mv k v L).length ≤ L.length + 1 := by
  unfold st
  cases h : lk k L with
  | none => simp
  | some w =>
    have := us_len (mv := mv) (k := k) (L := setv k v L)
    rw [setv_len] at this
    exact Nat.le_succ_of_le this
set_option maxRecDepth 100000 in
set_option maxHeartbeats 4000000 in
/-- dropByRest(d0, r0) -/
theorem c_tb_dropByRest (l : Launch) (D : va_G) (cI cT cP : ClassId) (a : Nat) (mv : Bool) (j : Nat) (L : List (Int32 × Int32)) (u0 : TB) (hL : TL j L u0) (d0 r0 : Int32) (hd0 : ¬ d0 = 0) : Cg l y_tb_dropByRest b_tb_dropByRest 7 (some .int) 3 0 0 D (ty3 cI cT cP) [.ref a, .int d0, .int r0] (tw cI a mv j u0) (fun (v : Option Value) (u : TB) => v = some (.int (nI (L.length - (sw d0 r0 L).length))) ∧ TL j (sw d0 r0 L) u) (fun u => tw cI a mv j u) := by
  obtain ⟨qk, qv, qb, qf, qh, qc, K, V, P, N, G, C, fl, mm, R⟩ := u0
  obtain ⟨Fr, bl, hTA, hTN, hTH, hKn, eL⟩ := hL
  have hTA : TA (2 ^ (4 + j)) j mm R Fr := hTA
  have hTN : TN P N R := hTN
  have hTH : TH (2 ^ (4 + j)) K G C fl R Fr bl := hTH
  have hKn : (R.map K).Nodup := hKn
  have eL : L = kv K V R := eL
  have hLl : L.length = R.length := by rw [eL]; exact List.length_map ..
  have hn : 2 ^ (4 + j) < 2 ^ 31 := (ta_len hTA).2.2
  have hRl : R.length < 2 ^ 31 := (ta_len hTA).2.1
  refine cg_enter rfl (Nat.le_of_ble_eq_true rfl) ?_
  intro p e s m below meth c args hx hb hr hlk hml hown hin hts A hA hK hP hD hS ls hl Q hQ
  have hl : lv_has ls 7 [(0, .ref a), (1, .int d0), (2, .int r0)] := hl
  have hP : va_P D cls (tx cI a (mvI mv) (nI R.length) qk qv qb qf qh qc (2 ^ (4 + j)) K V P N G C fl (nI mm)) s.heap := hP
  have hD : va_D A (tx cI a (mvI mv) (nI R.length) qk qv qb qf qh qc (2 ^ (4 + j)) K V P N G C fl (nI mm)) := hD
  refine lv_aload_n hx hb d_tb_dropByRest_0 rfl (lv_at hl 0 rfl) ?_
  refine va_get (D := D) (ci := 0) (v := .int (nI R.length)) (C := R_tb) (T := F_tb) (N := 10) hx hb hts i_tb hown hK hP 0 rfl rfl 1 (by decide) (hts _ kf_tb_52) (fun _ h9 => h9) rfl d_tb_dropByRest_1 ?_
  refine lv_istore_n (lv' := [(3, .int (nI R.length)), (0, .ref a), (1, .int d0), (2, .int r0)]) hx hb d_tb_dropByRest_4 rfl hl (by decide) rfl (fun ls hl => ?_)
  refine lv_aload_n hx hb d_tb_dropByRest_5 rfl (lv_at hl 1 rfl) ?_
  refine va_get (D := D) (ci := 0) (v := .ref qf) (C := R_tb) (T := F_tb) (N := 10) hx hb hts i_tb hown hK hP 0 rfl rfl 5 (by decide) (hts _ kf_tb_25) (fun _ h9 => h9) rfl d_tb_dropByRest_6 ?_
  refine lv_iconst (v := 0) hx hb d_tb_dropByRest_9 (by decide) ?_
  refine wa_ld (k := 0) hx hb hK hP 4 0 rfl rfl (by have := ta_n hTA; omega) hn d_tb_dropByRest_10 ?_
  refine tp_i (y := nI (hd_ 0 R)) (sg_hd0 hTN.1) ?_
  refine lv_istore (lv' := [(4, .int (nI (hd_ 0 R))), (3, .int (nI R.length)), (0, .ref a), (1, .int d0), (2, .int r0)]) hx hb d_tb_dropByRest_11 hl (by decide) rfl (fun ls hl => ?_)
  refine lv_iconst (v := 0) hx hb d_tb_dropByRest_13 (by decide) ?_
  refine lv_istore (lv' := [(5, .int 0), (4, .int (nI (hd_ 0 R))), (3, .int (nI R.length)), (0, .ref a), (1, .int d0), (2, .int r0)]) hx hb d_tb_dropByRest_14 hl (by decide) rfl (fun ls hl => ?_)
  have loop : ∀ (l2 l1 l3 : List Nat) (P N G C : Nat → Int32) (fl : Int32) (Fr : List Nat) (bl : Nat → List Nat), R = l1 ++ l2 → l3 = l1.filter (fun y => decide (¬ fm (K y) d0 = r0)) → TA (2 ^ (4 + j)) j mm (l3 ++ l2) Fr → TN P N (l3 ++ l2) → TH (2 ^ (4 + j)) K G C fl (l3 ++ l2) Fr bl → ((l3 ++ l2).map K).Nodup → ∀ (H : Heap) (locs : List Loc), va_P D cls (tx cI a (mvI mv) (nI (l3 ++ l2).length) qk qv qb qf qh qc (2 ^ (4 + j)) K V P N G C fl (nI mm)) H → va_D A (tx cI a (mvI mv) (nI (l3 ++ l2).length) qk qv qb qf qh qc (2 ^ (4 + j)) K V P N G C fl (nI mm)) → va_S A s.heap H locs → ∀ ls : Array Slot, lv_has ls 7 [(0, .ref a), (1, .int d0), (2, .int r0), (3, .int (nI R.length)), (4, .int (nI (hd_ 0 l2))), (5, .int (nI l1.length))] → W p l e (rmL 3 0 0) s m args below meth c H locs 0 0 Q (F0 m 16 ls []) := by
    clear hP hD hS hTA hTN hTH
    intro l2
    induction l2 with
    | nil =>
      intro l1 l3 P N G C fl Fr bl eR e3 hTA hTN hTH hKn H locs hP hD hS ls hl
      have hl1 : l1 = R := by rw [eR, List.append_nil]
      have esw : sw d0 r0 L = kv K V (l3 ++ []) := by rw [eL, sw_kv, List.append_nil, e3, hl1]
      have hle : (l3 ++ []).length ≤ R.length := by rw [List.append_nil, e3, hl1]; exact List.length_filter_le ..
      refine lv_iload hx hb d_tb_dropByRest_16 (lv_at hl 5 rfl) ?_
      refine lv_iload_n hx hb d_tb_dropByRest_18 rfl (lv_at hl 3 rfl) ?_
      refine lv_icmp_ge (tgt := 62) hx hb d_tb_dropByRest_19 (by decide) (fun _ => ?_) (fun z9 => absurd (by rw [hl1]; exact nI_le (Nat.le_refl _) hRl) z9)
      refine lv_iload_n hx hb d_tb_dropByRest_62 rfl (lv_at hl 3 rfl) ?_
      refine lv_aload_n hx hb d_tb_dropByRest_63 rfl (lv_at hl 0 rfl) ?_
      refine va_get (D := D) (ci := 0) (v := .int (nI (l3 ++ []).length)) (C := R_tb) (T := F_tb) (N := 10) hx hb hts i_tb hown hK hP 0 rfl rfl 1 (by decide) (hts _ kf_tb_52) (fun _ h9 => h9) rfl d_tb_dropByRest_64 ?_
      refine lv_isub hx hb d_tb_dropByRest_67 ?_
      refine tp_i (y := nI (R.length - (l3 ++ []).length)) (pk_sub hle) ?_
      exact cg_iret (u := (qk, qv, qb, qf, qh, qc, K, V, P, N, G, C, fl, mm, l3 ++ [])) hQ hx hb hr hlk hK hP hD hS (⟨by rw [hLl, esw]; simp [kv], Fr, bl, hTA, hTN, hTH, hKn, esw⟩) d_tb_dropByRest_68
    | cons x l2 ih =>
      intro l1 l3 P N G C fl Fr bl eR e3 hTA hTN hTH hKn H locs hP hD hS ls hl
      have hxR : x ∈ l3 ++ x :: l2 := List.mem_append_right _ (List.mem_cons_self ..)
      have hxn := ta_in hTA hxR
      have hlt : l1.length < R.length := by rw [eR, List.length_append, List.length_cons]; omega
      obtain ⟨q1, sN, q3⟩ := tn_cut (ta_nd0 hTA) hTN
      have hl : lv_has ls 7 [(0, .ref a), (1, .int d0), (2, .int r0), (3, .int (nI R.length)), (4, .int (nI x)), (5, .int (nI l1.length))] := hl
      refine lv_iload hx hb d_tb_dropByRest_16 (lv_at hl 5 rfl) ?_
      refine lv_iload_n hx hb d_tb_dropByRest_18 rfl (lv_at hl 3 rfl) ?_
      refine lv_icmp_ge (tgt := 62) hx hb d_tb_dropByRest_19 (by decide) (fun z9 => absurd z9 (nI_ge hlt hRl)) (fun _ => ?_)
      refine lv_aload_n hx hb d_tb_dropByRest_22 rfl (lv_at hl 0 rfl) ?_
      refine va_get (D := D) (ci := 0) (v := .ref qf) (C := R_tb) (T := F_tb) (N := 10) hx hb hts i_tb hown hK hP 0 rfl rfl 5 (by decide) (hts _ kf_tb_25) (fun _ h9 => h9) rfl d_tb_dropByRest_23 ?_
      refine lv_iload hx hb d_tb_dropByRest_26 (lv_at hl 4 rfl) ?_
      refine wa_ld (k := x) hx hb hK hP 4 0 rfl rfl hxn.2.2 hn d_tb_dropByRest_28 ?_
      refine tp_i (y := nI (hd_ 0 l2)) sN ?_
      refine lv_istore (lv' := [(6, .int (nI (hd_ 0 l2))), (0, .ref a), (1, .int d0), (2, .int r0), (3, .int (nI R.length)), (4, .int (nI x)), (5, .int (nI l1.length))]) hx hb d_tb_dropByRest_29 hl (by decide) rfl (fun ls hl => ?_)
      refine lv_aload_n hx hb d_tb_dropByRest_31 rfl (lv_at hl 1 rfl) ?_
      refine va_get (D := D) (ci := 0) (v := .ref qk) (C := R_tb) (T := F_tb) (N := 10) hx hb hts i_tb hown hK hP 0 rfl rfl 2 (by decide) (hts _ kf_tb_15) (fun _ h9 => h9) rfl d_tb_dropByRest_32 ?_
      refine lv_iload hx hb d_tb_dropByRest_35 (lv_at hl 5 rfl) ?_
      refine wa_ld (k := x) hx hb hK hP 1 0 rfl rfl hxn.2.2 hn d_tb_dropByRest_37 ?_
      refine lv_iload_n hx hb d_tb_dropByRest_38 rfl (lv_at hl 2 rfl) ?_
      refine cg_S (hn := 2) (As := [.int (K x), .int d0]) (rest := []) (wr := tx cI a (mvI mv) (nI (l3 ++ x :: l2).length) qk qv qb qf qh qc (2 ^ (4 + j)) K V P N G C fl (nI mm)) hx hb hml hown hts (c_jm_floorMod l D cI cT cP (K x) d0 hd0) km_tb_63 kt_jm_floorMod kn_jm kc_jm_floorMod (by decide +kernel) rfl ⟨Nat.le_of_ble_eq_true rfl, Nat.le_of_ble_eq_true rfl⟩ hK hP hD hS hA [] [0, 1, 2, 3, 4, 5, 6] rfl (by decide) rfl (by decide) (by decide) hl.1 rfl (Nat.le_of_ble_eq_true rfl) d_tb_dropByRest_39 ⟨Nat.zero_le _, Nat.zero_le _⟩ (fun v u H locs hpost hP hD hS => ?_)
      subst hpost
      refine W.eq (g2 := F0 m 42 ls [.int (fm (K x) d0)]) rfl ?_
      have hP : va_P D cls (tx cI a (mvI mv) (nI (l3 ++ x :: l2).length) qk qv qb qf qh qc (2 ^ (4 + j)) K V P N G C fl (nI mm)) H := hP
      have hD : va_D A (tx cI a (mvI mv) (nI (l3 ++ x :: l2).length) qk qv qb qf qh qc (2 ^ (4 + j)) K V P N G C fl (nI mm)) := hD
      refine lv_iload_n hx hb d_tb_dropByRest_42 rfl (lv_at hl 3 rfl) ?_
      refine lv_icmp_ne (tgt := 52) hx hb d_tb_dropByRest_43 (by decide) (fun c1 => ?_) (fun c1 => ?_)
      · have e8 : l3 ++ x :: l2 = (l3 ++ [x]) ++ l2 := by simp
        rw [e8] at hP hD hTA hTN hTH hKn
        refine lv_iload hx hb d_tb_dropByRest_52 (lv_at hl 0 rfl) ?_
        refine lv_istore (lv' := [(4, .int (nI (hd_ 0 l2))), (6, .int (nI (hd_ 0 l2))), (0, .ref a), (1, .int d0), (2, .int r0), (3, .int (nI R.length)), (5, .int (nI l1.length))]) hx hb d_tb_dropByRest_54 hl (by decide) rfl (fun ls hl => ?_)
        refine lv_iinc (v := nI (l1 ++ [x]).length) (lv' := [(5, .int (nI (l1 ++ [x]).length)), (4, .int (nI (hd_ 0 l2))), (6, .int (nI (hd_ 0 l2))), (0, .ref a), (1, .int d0), (2, .int r0), (3, .int (nI R.length))]) hx hb d_tb_dropByRest_56 hl (k := 6) rfl (inc_l l1 x) (by decide) rfl (fun ls hl => ?_)
        refine lv_goto (tgt := 16) hx hb d_tb_dropByRest_59 (by decide) ?_
        exact ih (l1 ++ [x]) (l3 ++ [x]) P N G C fl Fr bl (by rw [eR]; simp) (by rw [List.filter_append, ← e3, List.filter_cons_of_pos (by simpa using c1)]; rfl) hTA hTN hTH hKn _ _ hP hD hS ls (lv_sub hl [3, 4, 5, 6, 1, 0] rfl)
      · refine lv_aload_n hx hb d_tb_dropByRest_46 rfl (lv_at hl 1 rfl) ?_
        refine lv_iload hx hb d_tb_dropByRest_47 (lv_at hl 5 rfl) ?_
        refine cg_V (hn := 1) (As := [.int (nI x)]) (rest := []) (wr := []) (q0 := 0) (ci := 0) hx hb hml hown hts (c_tb_drop l D cI cT cP a (mvI mv) qk qv qb qf qh qc (2 ^ (4 + j)) K V P N G C fl (nI mm) j mm x l3 l2 Fr bl hTA hTN hTH hKn) km_tb_60 ki_tb_drop ks_tb_drop kn_tb kc_tb_drop (by decide +kernel) rfl ⟨Nat.le_of_ble_eq_true rfl, Nat.le_of_ble_eq_true rfl⟩ hK hP hD hS hA [0, 1, 2, 3, 4, 5, 6] [] rfl (by decide) rfl (by decide) (by decide) rfl rfl hl.1 rfl (Nat.le_of_ble_eq_true rfl) d_tb_dropByRest_49 ⟨Nat.zero_le _, Nat.zero_le _⟩ (fun v u H locs hpost hP hD hS => ?_)
        obtain ⟨G2, C2⟩ := u
        obtain ⟨e9, bl2, hTH2⟩ := hpost
        subst e9
        have hTH2 : TH (2 ^ (4 + j)) K G2 C2 (nI x) (l3 ++ l2) (x :: Fr) bl2 := hTH2
        refine W.eq (g2 := F0 m 52 ls []) rfl ?_
        have hP : va_P D cls (tx cI a (mvI mv) (nI (l3 ++ l2).length) qk qv qb qf qh qc (2 ^ (4 + j)) K V (upd P (hd_ 0 l2) (nI (ls_ 0 l3))) (upd N (ls_ 0 l3) (nI (hd_ 0 l2))) G2 C2 (nI x) (nI mm)) H := hP
        have hD : va_D A (tx cI a (mvI mv) (nI (l3 ++ l2).length) qk qv qb qf qh qc (2 ^ (4 + j)) K V (upd P (hd_ 0 l2) (nI (ls_ 0 l3))) (upd N (ls_ 0 l3) (nI (hd_ 0 l2))) G2 C2 (nI x) (nI mm)) := hD
        refine lv_iload hx hb d_tb_dropByRest_52 (lv_at hl 0 rfl) ?_
        refine lv_istore (lv' := [(4, .int (nI (hd_ 0 l2))), (6, .int (nI (hd_ 0 l2))), (0, .ref a), (1, .int d0), (2, .int r0), (3, .int (nI R.length)), (5, .int (nI l1.length))]) hx hb d_tb_dropByRest_54 hl (by decide) rfl (fun ls hl => ?_)
        refine lv_iinc (v := nI (l1 ++ [x]).length) (lv' := [(5, .int (nI (l1 ++ [x]).length)), (4, .int (nI (hd_ 0 l2))), (6, .int (nI (hd_ 0 l2))), (0, .ref a), (1, .int d0), (2, .int r0), (3, .int (nI R.length))]) hx hb d_tb_dropByRest_56 hl (k := 6) rfl (inc_l l1 x) (by decide) rfl (fun ls hl => ?_)
        refine lv_goto (tgt := 16) hx hb d_tb_dropByRest_59 (by decide) ?_
        exact ih (l1 ++ [x]) l3 _ _ G2 C2 (nI x) (x :: Fr) bl2 (by rw [eR]; simp) (by rw [List.filter_append, ← e3, List.filter_cons_of_neg (by simpa using c1)]; simp) (ta_del hTA) q3 hTH2 (List.Nodup.sublist (List.Sublist.map K (List.Sublist.append_left (List.sublist_cons_self ..) _)) hKn) _ _ hP hD hS ls (lv_sub hl [3, 4, 5, 6, 1, 0] rfl)
  exact loop R [] [] P N G C fl Fr bl rfl rfl hTA hTN hTH hKn _ _ hP hD hS ls (lv_sub hl [3, 4, 5, 2, 1, 0] rfl)
set_option maxRecDepth 100000 in
set_option maxHeartbeats 4000000 in
/-- storeAllOf(source) -/
theorem c_tb_storeAllOf (l : Launch) (D : va_G) (cI cT cP : ClassId) (a : Nat) (mv : Bool) (j : Nat) (L : List (Int32 × Int32)) (u0 : TB) (hL : TL j L u0) (a2 : Nat) (mv2 : Bool) (j2 : Nat) (L2 : List (Int32 × Int32)) (u2 : TB) (hL2 : TL j2 L2 u2) (hlen : L.length + L2.length ≤ 1400) : Cg l y_tb_storeAllOf b_tb_storeAllOf 5 (none) 5 (mcT j (pj mv (j, L) L2).1) (msT j (pj mv (j, L) L2).1) D (ty3 cI cT cP) [.ref a, .ref a2] ((tw cI a mv j u0) ++ (tw cI a2 mv2 j2 u2)) (fun (v : Option Value) (u : TB) => v = none ∧ TL (pj mv (j, L) L2).1 (pj mv (j, L) L2).2 u) (fun u => (tw cI a2 mv2 j2 u2) ++ (tw cI a mv (pj mv (j, L) L2).1 u)) := by
  obtain ⟨qk2, qv2, qb2, qf2, qh2, qc2, K2, V2, P2, N2, G2, C2, fl2, mm2, R2⟩ := u2
  obtain ⟨Fr2, bl2, hTA2, hTN2, hTH2, hKn2, eL2⟩ := hL2
  have hTA2 : TA (2 ^ (4 + j2)) j2 mm2 R2 Fr2 := hTA2
  have hTN2 : TN P2 N2 R2 := hTN2
  have hTH2 : TH (2 ^ (4 + j2)) K2 G2 C2 fl2 R2 Fr2 bl2 := hTH2
  have hKn2 : (R2.map K2).Nodup := hKn2
  have eL2 : L2 = kv K2 V2 R2 := eL2
  have hLl2 : L2.length = R2.length := by rw [eL2]; exact List.length_map ..
  have hn2 : 2 ^ (4 + j2) < 2 ^ 31 := (ta_len hTA2).2.2
  have hRl2 : R2.length < 2 ^ 31 := (ta_len hTA2).2.1
  refine cg_enter rfl (Nat.le_of_ble_eq_true rfl) ?_
  intro p e s m below meth c args hx hb hr hlk hml hown hin hts A hA hK hP hD hS ls hl Q hQ
  have hl : lv_has ls 5 [(0, .ref a), (1, .ref a2)] := hl
  have hP : va_P D cls ((tw cI a mv j u0) ++ (tx cI a2 (mvI mv2) (nI R2.length) qk2 qv2 qb2 qf2 qh2 qc2 (2 ^ (4 + j2)) K2 V2 P2 N2 G2 C2 fl2 (nI mm2))) s.heap := hP
  have hD : va_D A ((tw cI a mv j u0) ++ (tx cI a2 (mvI mv2) (nI R2.length) qk2 qv2 qb2 qf2 qh2 qc2 (2 ^ (4 + j2)) K2 V2 P2 N2 G2 C2 fl2 (nI mm2))) := hD
  have hP : va_P D cls ((tx cI a2 (mvI mv2) (nI R2.length) qk2 qv2 qb2 qf2 qh2 qc2 (2 ^ (4 + j2)) K2 V2 P2 N2 G2 C2 fl2 (nI mm2)) ++ (tw cI a mv j u0)) s.heap := hP.sub [7, 8, 9, 10, 11, 12, 13, 0, 1, 2, 3, 4, 5, 6] rfl
  have hD : va_D A ((tx cI a2 (mvI mv2) (nI R2.length) qk2 qv2 qb2 qf2 qh2 qc2 (2 ^ (4 + j2)) K2 V2 P2 N2 G2 C2 fl2 (nI mm2)) ++ (tw cI a mv j u0)) := hD.sub [7, 8, 9, 10, 11, 12, 13, 0, 1, 2, 3, 4, 5, 6] (by decide) rfl
  have hn := hn2
  refine lv_aload_n hx hb d_tb_storeAllOf_0 rfl (lv_at hl 1 rfl) ?_
  refine va_get (D := D) (ci := 0) (v := .int (nI R2.length)) (C := R_tb) (T := F_tb) (N := 10) hx hb hts i_tb hown hK hP 0 rfl rfl 1 (by decide) (hts _ kf_tb_52) (fun _ h9 => h9) rfl d_tb_storeAllOf_1 ?_
  refine lv_istore_n (lv' := [(2, .int (nI R2.length)), (0, .ref a), (1, .ref a2)]) hx hb d_tb_storeAllOf_4 rfl hl (by decide) rfl (fun ls hl => ?_)
  refine lv_aload_n hx hb d_tb_storeAllOf_5 rfl (lv_at hl 2 rfl) ?_
  refine va_get (D := D) (ci := 0) (v := .ref qf2) (C := R_tb) (T := F_tb) (N := 10) hx hb hts i_tb hown hK hP 0 rfl rfl 5 (by decide) (hts _ kf_tb_25) (fun _ h9 => h9) rfl d_tb_storeAllOf_6 ?_
  refine lv_iconst (v := 0) hx hb d_tb_storeAllOf_9 (by decide) ?_
  refine wa_ld (k := 0) hx hb hK hP 4 0 rfl rfl (by have := ta_n hTA2; omega) hn d_tb_storeAllOf_10 ?_
  refine tp_i (y := nI (hd_ 0 R2)) (sg_hd0 hTN2.1) ?_
  refine lv_istore_n (lv' := [(3, .int (nI (hd_ 0 R2))), (2, .int (nI R2.length)), (0, .ref a), (1, .ref a2)]) hx hb d_tb_storeAllOf_11 rfl hl (by decide) rfl (fun ls hl => ?_)
  refine lv_iconst (v := 0) hx hb d_tb_storeAllOf_12 (by decide) ?_
  refine lv_istore (lv' := [(4, .int 0), (3, .int (nI (hd_ 0 R2))), (2, .int (nI R2.length)), (0, .ref a), (1, .ref a2)]) hx hb d_tb_storeAllOf_13 hl (by decide) rfl (fun ls hl => ?_)
  have loop : ∀ (l2 l1 : List Nat) (jc : Nat) (Lc : List (Int32 × Int32)) (uc : TB), R2 = l1 ++ l2 → TL jc Lc uc → j ≤ jc → pj mv (jc, Lc) (kv K2 V2 l2) = pj mv (j, L) L2 → Lc.length + l2.length ≤ 1400 → ∀ (H : Heap) (locs : List Loc), va_P D cls ((tx cI a2 (mvI mv2) (nI R2.length) qk2 qv2 qb2 qf2 qh2 qc2 (2 ^ (4 + j2)) K2 V2 P2 N2 G2 C2 fl2 (nI mm2)) ++ (tw cI a mv jc uc)) H → va_D A ((tx cI a2 (mvI mv2) (nI R2.length) qk2 qv2 qb2 qf2 qh2 qc2 (2 ^ (4 + j2)) K2 V2 P2 N2 G2 C2 fl2 (nI mm2)) ++ (tw cI a mv jc uc)) → va_S A s.heap H locs → ∀ ls : Array Slot, lv_has ls 5 [(0, .ref a), (1, .ref a2), (2, .int (nI R2.length)), (3, .int (nI (hd_ 0 l2))), (4, .int (nI l1.length))] → W p l e (rmL 5 (mcT j (pj mv (j, L) L2).1) (msT j (pj mv (j, L) L2).1)) s m args below meth c H locs (mcT j jc) (msT j jc) Q (F0 m 15 ls []) := by
    clear hP hD hS
    intro l2
    induction l2 with
    | nil =>
      intro l1 jc Lc uc eR hT hjc epj hlc H locs hP hD hS ls hl
      have hl1 : l1 = R2 := by rw [eR, List.append_nil]
      have e1 : jc = (pj mv (j, L) L2).1 := by rw [← epj]; rfl
      have e2 : Lc = (pj mv (j, L) L2).2 := by rw [← epj]; rfl
      subst e1
      subst e2
      refine lv_iload hx hb d_tb_storeAllOf_15 (lv_at hl 4 rfl) ?_
      refine lv_iload_n hx hb d_tb_storeAllOf_17 rfl (lv_at hl 2 rfl) ?_
      refine lv_icmp_ge (tgt := 51) hx hb d_tb_storeAllOf_18 (by decide) (fun _ => ?_) (fun z9 => absurd (by rw [hl1]; exact nI_le (Nat.le_refl _) hRl2) z9)
      exact cg_vret (u := uc) hQ hx hb hr hlk hK hP hD hS (⟨rfl, hT⟩) d_tb_storeAllOf_51
    | cons x l2 ih =>
      intro l1 jc Lc uc eR hT hjc epj hlc H locs hP hD hS ls hl
      have hxR : x ∈ R2 := by rw [eR]; exact List.mem_append_right _ (List.mem_cons_self ..)
      have hxn := ta_in hTA2 hxR
      have hlt : l1.length < R2.length := by rw [eR, List.length_append, List.length_cons]; omega
      have sN : N2 x = nI (hd_ 0 l2) := sg_hd0 (sg_app.mp (show sg N2 (N2 0) (l1 ++ x :: l2) 0 by rw [← eR]; exact hTN2.1)).2
      have hl : lv_has ls 5 [(0, .ref a), (1, .ref a2), (2, .int (nI R2.length)), (3, .int (nI x)), (4, .int (nI l1.length))] := hl
      have hstep : pj mv (njs jc (K2 x) Lc, st mv (K2 x) (V2 x) Lc) (kv K2 V2 l2) = pj mv (j, L) L2 := epj
      have hj1 := njs_le jc (K2 x) Lc
      have hj2 : njs jc (K2 x) Lc ≤ (pj mv (j, L) L2).1 := by rw [← hstep]; exact pj_le (njs jc (K2 x) Lc, st mv (K2 x) (V2 x) Lc)
      have hsl := st_len (mv := mv) (k := K2 x) (v := V2 x) (L := Lc)
      have hlc2 : Lc.length + (l2.length + 1) ≤ 1400 := hlc
      refine lv_iload hx hb d_tb_storeAllOf_15 (lv_at hl 4 rfl) ?_
      refine lv_iload_n hx hb d_tb_storeAllOf_17 rfl (lv_at hl 2 rfl) ?_
      refine lv_icmp_ge (tgt := 51) hx hb d_tb_storeAllOf_18 (by decide) (fun z9 => absurd z9 (nI_ge hlt hRl2)) (fun _ => ?_)
      refine lv_aload_n hx hb d_tb_storeAllOf_21 rfl (lv_at hl 0 rfl) ?_
      refine lv_aload_n hx hb d_tb_storeAllOf_22 rfl (lv_at hl 1 rfl) ?_
      refine va_get (D := D) (ci := 0) (v := .ref qk2) (C := R_tb) (T := F_tb) (N := 10) hx hb hts i_tb hown hK hP 0 rfl rfl 2 (by decide) (hts _ kf_tb_15) (fun _ h9 => h9) rfl d_tb_storeAllOf_23 ?_
      refine lv_iload_n hx hb d_tb_storeAllOf_26 rfl (lv_at hl 3 rfl) ?_
      refine wa_ld (k := x) hx hb hK hP 1 0 rfl rfl hxn.2.2 hn d_tb_storeAllOf_27 ?_
      refine lv_aload_n hx hb d_tb_storeAllOf_28 rfl (lv_at hl 1 rfl) ?_
      refine va_get (D := D) (ci := 0) (v := .ref qv2) (C := R_tb) (T := F_tb) (N := 10) hx hb hts i_tb hown hK hP 0 rfl rfl 3 (by decide) (hts _ kf_tb_19) (fun _ h9 => h9) rfl d_tb_storeAllOf_29 ?_
      refine lv_iload_n hx hb d_tb_storeAllOf_32 rfl (lv_at hl 3 rfl) ?_
      refine wa_ld (k := x) hx hb hK hP 2 0 rfl rfl hxn.2.2 hn d_tb_storeAllOf_33 ?_
      refine cg_V (hn := 2) (As := [.int (K2 x), .int (V2 x)]) (rest := []) (wr := tx cI a2 (mvI mv2) (nI R2.length) qk2 qv2 qb2 qf2 qh2 qc2 (2 ^ (4 + j2)) K2 V2 P2 N2 G2 C2 fl2 (nI mm2)) (q0 := 0) (ci := 0) hx hb hml hown hts (c_tb_store l D cI cT cP a mv jc Lc uc hT (K2 x) (V2 x) (by omega)) km_tb_56 ki_tb_store ks_tb_store kn_tb kc_tb_store (by decide +kernel) rfl ⟨Nat.le_of_ble_eq_true rfl, Nat.le_of_ble_eq_true rfl⟩ hK hP hD hS hA [7, 8, 9, 10, 11, 12, 13] [0, 1, 2, 3, 4, 5, 6] rfl (by decide) rfl (by decide) (by decide) rfl rfl hl.1 rfl (Nat.le_of_ble_eq_true rfl) d_tb_storeAllOf_34 ⟨by show _ ≤ mcT j (pj mv (j, L) L2).1; rw [mcT_add hjc hj1]; exact mcT_le hj2, by show _ ≤ msT j (pj mv (j, L) L2).1; rw [msT_add hjc hj1]; exact msT_le hj2⟩ (fun v u H locs hpost hP hD hS => ?_)
      obtain ⟨e9, hT3⟩ := hpost
      subst e9
      refine W.eq (g2 := F0 m 37 ls [.long (an (lk (K2 x) Lc))]) rfl ?_
      have hP : va_P D cls ((tx cI a2 (mvI mv2) (nI R2.length) qk2 qv2 qb2 qf2 qh2 qc2 (2 ^ (4 + j2)) K2 V2 P2 N2 G2 C2 fl2 (nI mm2)) ++ (tw cI a mv (njs jc (K2 x) Lc) u)) H := hP
      have hD : va_D A ((tx cI a2 (mvI mv2) (nI R2.length) qk2 qv2 qb2 qf2 qh2 qc2 (2 ^ (4 + j2)) K2 V2 P2 N2 G2 C2 fl2 (nI mm2)) ++ (tw cI a mv (njs jc (K2 x) Lc) u)) := hD
      refine W.widen (k := mcT j (njs jc (K2 x) Lc)) (n := msT j (njs jc (K2 x) Lc)) (Nat.le_of_eq (mcT_add hjc hj1)) (Nat.le_of_eq (msT_add hjc hj1)) ?_
      refine lv_pop2_2 hx hb d_tb_storeAllOf_37 rfl ?_
      refine lv_aload_n hx hb d_tb_storeAllOf_38 rfl (lv_at hl 1 rfl) ?_
      refine va_get (D := D) (ci := 0) (v := .ref qf2) (C := R_tb) (T := F_tb) (N := 10) hx hb hts i_tb hown hK hP 0 rfl rfl 5 (by decide) (hts _ kf_tb_25) (fun _ h9 => h9) rfl d_tb_storeAllOf_39 ?_
      refine lv_iload_n hx hb d_tb_storeAllOf_42 rfl (lv_at hl 3 rfl) ?_
      refine wa_ld (k := x) hx hb hK hP 4 0 rfl rfl hxn.2.2 hn d_tb_storeAllOf_43 ?_
      refine tp_i (y := nI (hd_ 0 l2)) sN ?_
      refine lv_istore_n (lv' := [(3, .int (nI (hd_ 0 l2))), (0, .ref a), (1, .ref a2), (2, .int (nI R2.length)), (4, .int (nI l1.length))]) hx hb d_tb_storeAllOf_44 rfl hl (by decide) rfl (fun ls hl => ?_)
      refine lv_iinc (v := nI (l1 ++ [x]).length) (lv' := [(4, .int (nI (l1 ++ [x]).length)), (3, .int (nI (hd_ 0 l2))), (0, .ref a), (1, .ref a2), (2, .int (nI R2.length))]) hx hb d_tb_storeAllOf_45 hl (k := 4) rfl (inc_l l1 x) (by decide) rfl (fun ls hl => ?_)
      refine lv_goto (tgt := 15) hx hb d_tb_storeAllOf_48 (by decide) ?_
      exact ih (l1 ++ [x]) _ _ u (by rw [eR]; simp) hT3 (Nat.le_trans hjc hj1) hstep (by omega) _ _ hP hD hS ls (lv_sub hl [2, 3, 4, 1, 0] rfl)
  refine W.widen (k := mcT j j) (n := msT j j) (Nat.zero_le _) (Nat.zero_le _) ?_
  exact loop R2 [] j L u0 rfl hL (Nat.le_refl _) (by rw [← eL2]) (by omega) _ _ hP hD hS ls (lv_sub hl [3, 4, 2, 1, 0] rfl)
def hka (L L2 : List (Int32 × Int32)) : Bool := L2.all (fun e => (lk e.1 L).isSome)
set_option maxRecDepth 100000 in
set_option maxHeartbeats 4000000 in
/-- holdsKeysOf(other) -/
theorem c_tb_holdsKeysOf (l : Launch) (D : va_G) (cI cT cP : ClassId) (a : Nat) (mv : Bool) (j : Nat) (L : List (Int32 × Int32)) (u0 : TB) (hL : TL j L u0) (a2 : Nat) (mv2 : Bool) (j2 : Nat) (L2 : List (Int32 × Int32)) (u2 : TB) (hL2 : TL j2 L2 u2) : Cg l y_tb_holdsKeysOf b_tb_holdsKeysOf 4 (some .boolean) 3 0 0 D (ty3 cI cT cP) [.ref a, .ref a2] ((tw cI a mv j u0) ++ (tw cI a2 mv2 j2 u2)) (fun (v : Option Value) (u : Unit) => v = some (.int (zI (hka L L2)))) (fun u => (tw cI a2 mv2 j2 u2) ++ (tw cI a mv j u0)) := by
  obtain ⟨qk2, qv2, qb2, qf2, qh2, qc2, K2, V2, P2, N2, G2, C2, fl2, mm2, R2⟩ := u2
  obtain ⟨Fr2, bl2, hTA2, hTN2, hTH2, hKn2, eL2⟩ := hL2
  have hTA2 : TA (2 ^ (4 + j2)) j2 mm2 R2 Fr2 := hTA2
  have hTN2 : TN P2 N2 R2 := hTN2
  have hTH2 : TH (2 ^ (4 + j2)) K2 G2 C2 fl2 R2 Fr2 bl2 := hTH2
  have hKn2 : (R2.map K2).Nodup := hKn2
  have eL2 : L2 = kv K2 V2 R2 := eL2
  have hLl2 : L2.length = R2.length := by rw [eL2]; exact List.length_map ..
  have hn2 : 2 ^ (4 + j2) < 2 ^ 31 := (ta_len hTA2).2.2
  have hRl2 : R2.length < 2 ^ 31 := (ta_len hTA2).2.1
  refine cg_enter rfl (Nat.le_of_ble_eq_true rfl) ?_
  intro p e s m below meth c args hx hb hr hlk hml hown hin hts A hA hK hP hD hS ls hl Q hQ
  have hl : lv_has ls 4 [(0, .ref a), (1, .ref a2)] := hl
  have hP : va_P D cls ((tw cI a mv j u0) ++ (tx cI a2 (mvI mv2) (nI R2.length) qk2 qv2 qb2 qf2 qh2 qc2 (2 ^ (4 + j2)) K2 V2 P2 N2 G2 C2 fl2 (nI mm2))) s.heap := hP
  have hD : va_D A ((tw cI a mv j u0) ++ (tx cI a2 (mvI mv2) (nI R2.length) qk2 qv2 qb2 qf2 qh2 qc2 (2 ^ (4 + j2)) K2 V2 P2 N2 G2 C2 fl2 (nI mm2))) := hD
  have hP : va_P D cls ((tx cI a2 (mvI mv2) (nI R2.length) qk2 qv2 qb2 qf2 qh2 qc2 (2 ^ (4 + j2)) K2 V2 P2 N2 G2 C2 fl2 (nI mm2)) ++ (tw cI a mv j u0)) s.heap := hP.sub [7, 8, 9, 10, 11, 12, 13, 0, 1, 2, 3, 4, 5, 6] rfl
  have hD : va_D A ((tx cI a2 (mvI mv2) (nI R2.length) qk2 qv2 qb2 qf2 qh2 qc2 (2 ^ (4 + j2)) K2 V2 P2 N2 G2 C2 fl2 (nI mm2)) ++ (tw cI a mv j u0)) := hD.sub [7, 8, 9, 10, 11, 12, 13, 0, 1, 2, 3, 4, 5, 6] (by decide) rfl
  have hn := hn2
  refine lv_aload_n hx hb d_tb_holdsKeysOf_0 rfl (lv_at hl 1 rfl) ?_
  refine va_get (D := D) (ci := 0) (v := .ref qf2) (C := R_tb) (T := F_tb) (N := 10) hx hb hts i_tb hown hK hP 0 rfl rfl 5 (by decide) (hts _ kf_tb_25) (fun _ h9 => h9) rfl d_tb_holdsKeysOf_1 ?_
  refine lv_iconst (v := 0) hx hb d_tb_holdsKeysOf_4 (by decide) ?_
  refine wa_ld (k := 0) hx hb hK hP 4 0 rfl rfl (by have := ta_n hTA2; omega) hn d_tb_holdsKeysOf_5 ?_
  refine tp_i (y := nI (hd_ 0 R2)) (sg_hd0 hTN2.1) ?_
  refine lv_istore_n (lv' := [(2, .int (nI (hd_ 0 R2))), (0, .ref a), (1, .ref a2)]) hx hb d_tb_holdsKeysOf_6 rfl hl (by decide) rfl (fun ls hl => ?_)
  refine lv_iconst (v := 0) hx hb d_tb_holdsKeysOf_7 (by decide) ?_
  refine lv_istore_n (lv' := [(3, .int 0), (2, .int (nI (hd_ 0 R2))), (0, .ref a), (1, .ref a2)]) hx hb d_tb_holdsKeysOf_8 rfl hl (by decide) rfl (fun ls hl => ?_)
  have loop : ∀ (l2 l1 : List Nat), R2 = l1 ++ l2 → (∀ y, y ∈ l1 → (lk (K2 y) L).isSome = true) → ∀ (H : Heap) (locs : List Loc), va_P D cls ((tx cI a2 (mvI mv2) (nI R2.length) qk2 qv2 qb2 qf2 qh2 qc2 (2 ^ (4 + j2)) K2 V2 P2 N2 G2 C2 fl2 (nI mm2)) ++ (tw cI a mv j u0)) H → va_D A ((tx cI a2 (mvI mv2) (nI R2.length) qk2 qv2 qb2 qf2 qh2 qc2 (2 ^ (4 + j2)) K2 V2 P2 N2 G2 C2 fl2 (nI mm2)) ++ (tw cI a mv j u0)) → va_S A s.heap H locs → ∀ ls : Array Slot, lv_has ls 4 [(0, .ref a), (1, .ref a2), (2, .int (nI (hd_ 0 l2))), (3, .int (nI l1.length))] → W p l e (rmL 3 0 0) s m args below meth c H locs 0 0 Q (F0 m 9 ls []) := by
    clear hP hD hS
    intro l2
    induction l2 with
    | nil =>
      intro l1 eR hall H locs hP hD hS ls hl
      have hl1 : l1 = R2 := by rw [eR, List.append_nil]
      have hf : hka L L2 = true := by
        rw [eL2]
        unfold hka kv
        rw [List.all_eq_true]
        intro q hq
        obtain ⟨y, hy, rfl⟩ := List.mem_map.mp hq
        exact hall y (by rw [hl1]; exact hy)
      refine lv_iload_n hx hb d_tb_holdsKeysOf_9 rfl (lv_at hl 3 rfl) ?_
      refine lv_aload_n hx hb d_tb_holdsKeysOf_10 rfl (lv_at hl 1 rfl) ?_
      refine va_get (D := D) (ci := 0) (v := .int (nI R2.length)) (C := R_tb) (T := F_tb) (N := 10) hx hb hts i_tb hown hK hP 0 rfl rfl 1 (by decide) (hts _ kf_tb_52) (fun _ h9 => h9) rfl d_tb_holdsKeysOf_11 ?_
      refine lv_icmp_ge (tgt := 45) hx hb d_tb_holdsKeysOf_14 (by decide) (fun _ => ?_) (fun z9 => absurd (by rw [hl1]; exact nI_le (Nat.le_refl _) hRl2) z9)
      refine lv_iconst (v := 1) hx hb d_tb_holdsKeysOf_45 (by decide) ?_
      exact cg_zret (u := ()) hQ hx hb hr hlk hK hP hD hS rfl (by rw [hf]; rfl) d_tb_holdsKeysOf_46
    | cons x l2 ih =>
      intro l1 eR hall H locs hP hD hS ls hl
      have hxR : x ∈ R2 := by rw [eR]; exact List.mem_append_right _ (List.mem_cons_self ..)
      have hxn := ta_in hTA2 hxR
      have hlt : l1.length < R2.length := by rw [eR, List.length_append, List.length_cons]; omega
      have sN : N2 x = nI (hd_ 0 l2) := sg_hd0 (sg_app.mp (show sg N2 (N2 0) (l1 ++ x :: l2) 0 by rw [← eR]; exact hTN2.1)).2
      have hl : lv_has ls 4 [(0, .ref a), (1, .ref a2), (2, .int (nI x)), (3, .int (nI l1.length))] := hl
      refine lv_iload_n hx hb d_tb_holdsKeysOf_9 rfl (lv_at hl 3 rfl) ?_
      refine lv_aload_n hx hb d_tb_holdsKeysOf_10 rfl (lv_at hl 1 rfl) ?_
      refine va_get (D := D) (ci := 0) (v := .int (nI R2.length)) (C := R_tb) (T := F_tb) (N := 10) hx hb hts i_tb hown hK hP 0 rfl rfl 1 (by decide) (hts _ kf_tb_52) (fun _ h9 => h9) rfl d_tb_holdsKeysOf_11 ?_
      refine lv_icmp_ge (tgt := 45) hx hb d_tb_holdsKeysOf_14 (by decide) (fun z9 => absurd z9 (nI_ge hlt hRl2)) (fun _ => ?_)
      refine lv_aload_n hx hb d_tb_holdsKeysOf_17 rfl (lv_at hl 0 rfl) ?_
      refine lv_aload_n hx hb d_tb_holdsKeysOf_18 rfl (lv_at hl 1 rfl) ?_
      refine va_get (D := D) (ci := 0) (v := .ref qk2) (C := R_tb) (T := F_tb) (N := 10) hx hb hts i_tb hown hK hP 0 rfl rfl 2 (by decide) (hts _ kf_tb_15) (fun _ h9 => h9) rfl d_tb_holdsKeysOf_19 ?_
      refine lv_iload_n hx hb d_tb_holdsKeysOf_22 rfl (lv_at hl 2 rfl) ?_
      refine wa_ld (k := x) hx hb hK hP 1 0 rfl rfl hxn.2.2 hn d_tb_holdsKeysOf_23 ?_
      refine cg_V (hn := 1) (As := [.int (K2 x)]) (rest := []) (wr := tx cI a2 (mvI mv2) (nI R2.length) qk2 qv2 qb2 qf2 qh2 qc2 (2 ^ (4 + j2)) K2 V2 P2 N2 G2 C2 fl2 (nI mm2)) (q0 := 0) (ci := 0) hx hb hml hown hts (c_tb_holdsKey l D cI cT cP a mv j L u0 hL (K2 x)) km_tb_81 ki_tb_holdsKey ks_tb_holdsKey kn_tb kc_tb_holdsKey (by decide +kernel) rfl ⟨Nat.le_of_ble_eq_true rfl, Nat.le_of_ble_eq_true rfl⟩ hK hP hD hS hA [7, 8, 9, 10, 11, 12, 13] [0, 1, 2, 3, 4, 5, 6] rfl (by decide) rfl (by decide) (by decide) rfl rfl hl.1 rfl (Nat.le_of_ble_eq_true rfl) d_tb_holdsKeysOf_24 ⟨Nat.zero_le _, Nat.zero_le _⟩ (fun v u H locs hpost hP hD hS => ?_)
      subst hpost
      refine W.eq (g2 := F0 m 27 ls [.int (zI (lk (K2 x) L).isSome)]) rfl ?_
      have hP : va_P D cls ((tx cI a2 (mvI mv2) (nI R2.length) qk2 qv2 qb2 qf2 qh2 qc2 (2 ^ (4 + j2)) K2 V2 P2 N2 G2 C2 fl2 (nI mm2)) ++ (tw cI a mv j u0)) H := hP
      have hD : va_D A ((tx cI a2 (mvI mv2) (nI R2.length) qk2 qv2 qb2 qf2 qh2 qc2 (2 ^ (4 + j2)) K2 V2 P2 N2 G2 C2 fl2 (nI mm2)) ++ (tw cI a mv j u0)) := hD
      cases hkx : (lk (K2 x) L).isSome with
      | false =>
        refine lv_if_ne (tgt := 32) hx hb d_tb_holdsKeysOf_27 (by decide) (fun z9 => absurd rfl z9) (fun _ => ?_)
        refine lv_iconst (v := 0) hx hb d_tb_holdsKeysOf_30 (by decide) ?_
        exact cg_zret (u := ()) hQ hx hb hr hlk hK hP hD hS rfl (by rw [show hka L L2 = false from by rw [eL2]; unfold hka kv; rw [List.all_eq_false]; exact ⟨_, List.mem_map.mpr ⟨x, hxR, rfl⟩, by simp [hkx]⟩]; rfl) d_tb_holdsKeysOf_31
      | true =>
        refine lv_if_ne (tgt := 32) hx hb d_tb_holdsKeysOf_27 (by decide) (fun _ => ?_) (fun z9 => absurd z9 (by decide))
        refine lv_aload_n hx hb d_tb_holdsKeysOf_32 rfl (lv_at hl 1 rfl) ?_
        refine va_get (D := D) (ci := 0) (v := .ref qf2) (C := R_tb) (T := F_tb) (N := 10) hx hb hts i_tb hown hK hP 0 rfl rfl 5 (by decide) (hts _ kf_tb_25) (fun _ h9 => h9) rfl d_tb_holdsKeysOf_33 ?_
        refine lv_iload_n hx hb d_tb_holdsKeysOf_36 rfl (lv_at hl 2 rfl) ?_
        refine wa_ld (k := x) hx hb hK hP 4 0 rfl rfl hxn.2.2 hn d_tb_holdsKeysOf_37 ?_
        refine tp_i (y := nI (hd_ 0 l2)) sN ?_
        refine lv_istore_n (lv' := [(2, .int (nI (hd_ 0 l2))), (0, .ref a), (1, .ref a2), (3, .int (nI l1.length))]) hx hb d_tb_holdsKeysOf_38 rfl hl (by decide) rfl (fun ls hl => ?_)
        refine lv_iinc (v := nI (l1 ++ [x]).length) (lv' := [(3, .int (nI (l1 ++ [x]).length)), (2, .int (nI (hd_ 0 l2))), (0, .ref a), (1, .ref a2)]) hx hb d_tb_holdsKeysOf_39 hl (k := 3) rfl (inc_l l1 x) (by decide) rfl (fun ls hl => ?_)
        refine lv_goto (tgt := 9) hx hb d_tb_holdsKeysOf_42 (by decide) ?_
        exact ih (l1 ++ [x]) (by rw [eR]; simp) (fun y hy => by
            rcases List.mem_append.mp hy with h1 | h1
            · exact hall y h1
            · rw [List.mem_singleton.mp h1]; exact hkx) _ _ hP hD hS ls (lv_sub hl [2, 3, 1, 0] rfl)
  exact loop R2 [] rfl (fun y hy => absurd hy List.not_mem_nil) _ _ hP hD hS ls (lv_sub hl [2, 3, 1, 0] rfl)
def mt (L L2 : List (Int32 × Int32)) : Bool := decide (L.length = L2.length) && L.all (fun e => decide (lk e.1 L2 = some e.2))
set_option maxRecDepth 100000 in
set_option maxHeartbeats 4000000 in
/-- matches(other) -/
theorem c_tb_matches (l : Launch) (D : va_G) (cI cT cP : ClassId) (a : Nat) (mv : Bool) (j : Nat) (L : List (Int32 × Int32)) (u0 : TB) (hL : TL j L u0) (a2 : Nat) (mv2 : Bool) (j2 : Nat) (L2 : List (Int32 × Int32)) (u2 : TB) (hL2 : TL j2 L2 u2) : Cg l y_tb_matches b_tb_matches 5 (some .boolean) 2 0 0 D (ty3 cI cT cP) [.ref a, .ref a2] ((tw cI a mv j u0) ++ (tw cI a2 mv2 j2 u2)) (fun (v : Option Value) (u : Unit) => v = some (.int (zI (mt L L2)))) (fun u => (tw cI a mv j u0) ++ (tw cI a2 mv2 j2 u2)) := by
  obtain ⟨qk, qv, qb, qf, qh, qc, K, V, P, N, G, C, fl, mm, R⟩ := u0
  obtain ⟨Fr, bl, hTA, hTN, hTH, hKn, eL⟩ := hL
  have hTA : TA (2 ^ (4 + j)) j mm R Fr := hTA
  have hTN : TN P N R := hTN
  have hTH : TH (2 ^ (4 + j)) K G C fl R Fr bl := hTH
  have hKn : (R.map K).Nodup := hKn
  have eL : L = kv K V R := eL
  have hLl : L.length = R.length := by rw [eL]; exact List.length_map ..
  have hn : 2 ^ (4 + j) < 2 ^ 31 := (ta_len hTA).2.2
  have hRl : R.length < 2 ^ 31 := (ta_len hTA).2.1
  obtain ⟨qk2, qv2, qb2, qf2, qh2, qc2, K2, V2, P2, N2, G2, C2, fl2, mm2, R2⟩ := u2
  obtain ⟨Fr2, bl2, hTA2, hTN2, hTH2, hKn2, eL2⟩ := hL2
  have hTA2 : TA (2 ^ (4 + j2)) j2 mm2 R2 Fr2 := hTA2
  have hTN2 : TN P2 N2 R2 := hTN2
  have hTH2 : TH (2 ^ (4 + j2)) K2 G2 C2 fl2 R2 Fr2 bl2 := hTH2
  have hKn2 : (R2.map K2).Nodup := hKn2
  have eL2 : L2 = kv K2 V2 R2 := eL2
  have hLl2 : L2.length = R2.length := by rw [eL2]; exact List.length_map ..
  have hn2 : 2 ^ (4 + j2) < 2 ^ 31 := (ta_len hTA2).2.2
  have hRl2 : R2.length < 2 ^ 31 := (ta_len hTA2).2.1
  refine cg_enter rfl (Nat.le_of_ble_eq_true rfl) ?_
  intro p e s m below meth c args hx hb hr hlk hml hown hin hts A hA hK hP hD hS ls hl Q hQ
  have hl : lv_has ls 5 [(0, .ref a), (1, .ref a2)] := hl
  have hP : va_P D cls ((tx cI a (mvI mv) (nI R.length) qk qv qb qf qh qc (2 ^ (4 + j)) K V P N G C fl (nI mm)) ++ (tx cI a2 (mvI mv2) (nI R2.length) qk2 qv2 qb2 qf2 qh2 qc2 (2 ^ (4 + j2)) K2 V2 P2 N2 G2 C2 fl2 (nI mm2))) s.heap := hP
  have hD : va_D A ((tx cI a (mvI mv) (nI R.length) qk qv qb qf qh qc (2 ^ (4 + j)) K V P N G C fl (nI mm)) ++ (tx cI a2 (mvI mv2) (nI R2.length) qk2 qv2 qb2 qf2 qh2 qc2 (2 ^ (4 + j2)) K2 V2 P2 N2 G2 C2 fl2 (nI mm2))) := hD
  refine lv_aload_n hx hb d_tb_matches_0 rfl (lv_at hl 0 rfl) ?_
  refine va_get (D := D) (ci := 0) (v := .int (nI R.length)) (C := R_tb) (T := F_tb) (N := 10) hx hb hts i_tb hown hK hP 0 rfl rfl 1 (by decide) (hts _ kf_tb_52) (fun _ h9 => h9) rfl d_tb_matches_1 ?_
  refine lv_aload_n hx hb d_tb_matches_4 rfl (lv_at hl 1 rfl) ?_
  refine va_get (D := D) (ci := 0) (v := .int (nI R2.length)) (C := R_tb) (T := F_tb) (N := 10) hx hb hts i_tb hown hK hP 7 rfl rfl 1 (by decide) (hts _ kf_tb_52) (fun _ h9 => h9) rfl d_tb_matches_5 ?_
  refine lv_icmp_eq (tgt := 13) hx hb d_tb_matches_8 (by decide) (fun c1 => ?_) (fun c1 => ?_)
  rotate_left
  · refine lv_iconst (v := 0) hx hb d_tb_matches_11 (by decide) ?_
    exact cg_zret (u := ()) hQ hx hb hr hlk hK hP hD hS rfl (by rw [show mt L L2 = false from by unfold mt; rw [decide_eq_false (fun z9 => c1 (by rw [← hLl, ← hLl2, z9])), Bool.false_and]]; rfl) d_tb_matches_12
  · have c1 : L.length = L2.length := by rw [hLl, hLl2]; exact (nI_eq hRl hRl2).mp c1
    refine lv_aload_n hx hb d_tb_matches_13 rfl (lv_at hl 0 rfl) ?_
    refine va_get (D := D) (ci := 0) (v := .ref qf) (C := R_tb) (T := F_tb) (N := 10) hx hb hts i_tb hown hK hP 0 rfl rfl 5 (by decide) (hts _ kf_tb_25) (fun _ h9 => h9) rfl d_tb_matches_14 ?_
    refine lv_iconst (v := 0) hx hb d_tb_matches_17 (by decide) ?_
    refine wa_ld (k := 0) hx hb hK hP 4 0 rfl rfl (by have := ta_n hTA; omega) hn d_tb_matches_18 ?_
    refine tp_i (y := nI (hd_ 0 R)) (sg_hd0 hTN.1) ?_
    refine lv_istore_n (lv' := [(2, .int (nI (hd_ 0 R))), (0, .ref a), (1, .ref a2)]) hx hb d_tb_matches_19 rfl hl (by decide) rfl (fun ls hl => ?_)
    refine lv_iconst (v := 0) hx hb d_tb_matches_20 (by decide) ?_
    refine lv_istore_n (lv' := [(3, .int 0), (2, .int (nI (hd_ 0 R))), (0, .ref a), (1, .ref a2)]) hx hb d_tb_matches_21 rfl hl (by decide) rfl (fun ls hl => ?_)
    have loop : ∀ (l2 l1 : List Nat), R = l1 ++ l2 → (∀ y, y ∈ l1 → lk (K y) L2 = some (V y)) → ∀ (H : Heap) (locs : List Loc), va_P D cls ((tx cI a (mvI mv) (nI R.length) qk qv qb qf qh qc (2 ^ (4 + j)) K V P N G C fl (nI mm)) ++ (tx cI a2 (mvI mv2) (nI R2.length) qk2 qv2 qb2 qf2 qh2 qc2 (2 ^ (4 + j2)) K2 V2 P2 N2 G2 C2 fl2 (nI mm2))) H → va_D A ((tx cI a (mvI mv) (nI R.length) qk qv qb qf qh qc (2 ^ (4 + j)) K V P N G C fl (nI mm)) ++ (tx cI a2 (mvI mv2) (nI R2.length) qk2 qv2 qb2 qf2 qh2 qc2 (2 ^ (4 + j2)) K2 V2 P2 N2 G2 C2 fl2 (nI mm2))) → va_S A s.heap H locs → ∀ ls : Array Slot, lv_has ls 5 [(0, .ref a), (1, .ref a2), (2, .int (nI (hd_ 0 l2))), (3, .int (nI l1.length))] → W p l e (rmL 2 0 0) s m args below meth c H locs 0 0 Q (F0 m 22 ls []) := by
      clear hP hD hS
      intro l2
      induction l2 with
      | nil =>
        intro l1 eR hall H locs hP hD hS ls hl
        have hl1 : l1 = R := by rw [eR, List.append_nil]
        have hf : mt L L2 = true := by
          unfold mt
          rw [decide_eq_true c1, Bool.true_and, eL]
          unfold kv
          rw [List.all_eq_true]
          intro q hq
          obtain ⟨y, hy, rfl⟩ := List.mem_map.mp hq
          exact decide_eq_true (hall y (by rw [hl1]; exact hy))
        refine lv_iload_n hx hb d_tb_matches_22 rfl (lv_at hl 3 rfl) ?_
        refine lv_aload_n hx hb d_tb_matches_23 rfl (lv_at hl 0 rfl) ?_
        refine va_get (D := D) (ci := 0) (v := .int (nI R.length)) (C := R_tb) (T := F_tb) (N := 10) hx hb hts i_tb hown hK hP 0 rfl rfl 1 (by decide) (hts _ kf_tb_52) (fun _ h9 => h9) rfl d_tb_matches_24 ?_
        refine lv_icmp_ge (tgt := 78) hx hb d_tb_matches_27 (by decide) (fun _ => ?_) (fun z9 => absurd (by rw [hl1]; exact nI_le (Nat.le_refl _) hRl) z9)
        refine lv_iconst (v := 1) hx hb d_tb_matches_78 (by decide) ?_
        exact cg_zret (u := ()) hQ hx hb hr hlk hK hP hD hS rfl (by rw [hf]; rfl) d_tb_matches_79
      | cons x l2 ih =>
        intro l1 eR hall H locs hP hD hS ls hl
        have hxR : x ∈ R := by rw [eR]; exact List.mem_append_right _ (List.mem_cons_self ..)
        have hxn := ta_in hTA hxR
        have hlt : l1.length < R.length := by rw [eR, List.length_append, List.length_cons]; omega
        have sN : N x = nI (hd_ 0 l2) := sg_hd0 (sg_app.mp (show sg N (N 0) (l1 ++ x :: l2) 0 by rw [← eR]; exact hTN.1)).2
        have hl : lv_has ls 5 [(0, .ref a), (1, .ref a2), (2, .int (nI x)), (3, .int (nI l1.length))] := hl
        refine lv_iload_n hx hb d_tb_matches_22 rfl (lv_at hl 3 rfl) ?_
        refine lv_aload_n hx hb d_tb_matches_23 rfl (lv_at hl 0 rfl) ?_
        refine va_get (D := D) (ci := 0) (v := .int (nI R.length)) (C := R_tb) (T := F_tb) (N := 10) hx hb hts i_tb hown hK hP 0 rfl rfl 1 (by decide) (hts _ kf_tb_52) (fun _ h9 => h9) rfl d_tb_matches_24 ?_
        refine lv_icmp_ge (tgt := 78) hx hb d_tb_matches_27 (by decide) (fun z9 => absurd z9 (nI_ge hlt hRl)) (fun _ => ?_)
        refine lv_aload_n hx hb d_tb_matches_30 rfl (lv_at hl 1 rfl) ?_
        refine lv_aload_n hx hb d_tb_matches_31 rfl (lv_at hl 0 rfl) ?_
        refine va_get (D := D) (ci := 0) (v := .ref qk) (C := R_tb) (T := F_tb) (N := 10) hx hb hts i_tb hown hK hP 0 rfl rfl 2 (by decide) (hts _ kf_tb_15) (fun _ h9 => h9) rfl d_tb_matches_32 ?_
        refine lv_iload_n hx hb d_tb_matches_35 rfl (lv_at hl 2 rfl) ?_
        refine wa_ld (k := x) hx hb hK hP 1 0 rfl rfl hxn.2.2 hn d_tb_matches_36 ?_
        refine cg_V (hn := 1) (As := [.int (K x)]) (rest := []) (wr := tx cI a (mvI mv) (nI R.length) qk qv qb qf qh qc (2 ^ (4 + j)) K V P N G C fl (nI mm)) (q0 := 0) (ci := 0) hx hb hml hown hts (c_tb_slotOf l D cI cT cP a2 (mvI mv2) qk2 qv2 qb2 qf2 qh2 qc2 (2 ^ (4 + j2)) K2 V2 P2 N2 G2 C2 fl2 (nI mm2) j2 mm2 R2 Fr2 bl2 hTA2 hTH2 hKn2 (K x)) km_tb_34 ki_tb_slotOf ks_tb_slotOf kn_tb kc_tb_slotOf (by decide +kernel) rfl ⟨Nat.le_of_ble_eq_true rfl, Nat.le_of_ble_eq_true rfl⟩ hK hP hD hS hA [7, 8, 9, 10, 11, 12, 13] [0, 1, 2, 3, 4, 5, 6] rfl (by decide) rfl (by decide) (by decide) rfl rfl hl.1 rfl (Nat.le_of_ble_eq_true rfl) d_tb_matches_37 ⟨Nat.zero_le _, Nat.zero_le _⟩ (fun v u H locs hpost hP hD hS => ?_)
        subst hpost
        refine W.eq (g2 := F0 m 40 ls [.int (nI (sl K2 (K x) R2))]) rfl ?_
        have hP : va_P D cls ((tx cI a (mvI mv) (nI R.length) qk qv qb qf qh qc (2 ^ (4 + j)) K V P N G C fl (nI mm)) ++ (tx cI a2 (mvI mv2) (nI R2.length) qk2 qv2 qb2 qf2 qh2 qc2 (2 ^ (4 + j2)) K2 V2 P2 N2 G2 C2 fl2 (nI mm2))) H := hP
        have hD : va_D A ((tx cI a (mvI mv) (nI R.length) qk qv qb qf qh qc (2 ^ (4 + j)) K V P N G C fl (nI mm)) ++ (tx cI a2 (mvI mv2) (nI R2.length) qk2 qv2 qb2 qf2 qh2 qc2 (2 ^ (4 + j2)) K2 V2 P2 N2 G2 C2 fl2 (nI mm2))) := hD
        rcases sl_cases K2 (K x) R2 with ⟨e0, hno⟩ | ⟨hyR, hke⟩
        · rw [e0]
          have hnx : ¬ lk (K x) L2 = some (V x) := by rw [eL2, kv_out hno]; simp
          refine lv_istore (lv' := [(4, .int (nI 0)), (0, .ref a), (1, .ref a2), (2, .int (nI x)), (3, .int (nI l1.length))]) hx hb d_tb_matches_40 hl (by decide) rfl (fun ls hl => ?_)
          refine lv_iload hx hb d_tb_matches_42 (lv_at hl 0 rfl) ?_
          refine lv_if_eq (tgt := 63) hx hb d_tb_matches_44 (by decide) (fun _ => ?_) (fun z9 => absurd rfl z9)
          refine lv_iconst (v := 0) hx hb d_tb_matches_63 (by decide) ?_
          exact cg_zret (u := ()) hQ hx hb hr hlk hK hP hD hS rfl (by rw [show mt L L2 = false from by
                unfold mt
                rw [decide_eq_true c1, Bool.true_and, eL]
                unfold kv
                rw [List.all_eq_false]
                exact ⟨_, List.mem_map.mpr ⟨x, hxR, rfl⟩, by simpa using hnx⟩]; rfl) d_tb_matches_64
        · generalize sl K2 (K x) R2 = y at *
          have hyn := ta_in hTA2 hyR
          have hky : lk (K x) L2 = some (V2 y) := by rw [eL2, ← hke]; exact kv_at hyR hKn2
          refine lv_istore (lv' := [(4, .int (nI y)), (0, .ref a), (1, .ref a2), (2, .int (nI x)), (3, .int (nI l1.length))]) hx hb d_tb_matches_40 hl (by decide) rfl (fun ls hl => ?_)
          refine lv_iload hx hb d_tb_matches_42 (lv_at hl 0 rfl) ?_
          refine lv_if_eq (tgt := 63) hx hb d_tb_matches_44 (by decide) (fun z9 => absurd z9 (nI_ne0 hyn.1 (by omega))) (fun _ => ?_)
          have hn_ := hn
          have hn := hn2
          refine lv_aload_n hx hb d_tb_matches_47 rfl (lv_at hl 2 rfl) ?_
          refine va_get (D := D) (ci := 0) (v := .ref qv2) (C := R_tb) (T := F_tb) (N := 10) hx hb hts i_tb hown hK hP 7 rfl rfl 3 (by decide) (hts _ kf_tb_19) (fun _ h9 => h9) rfl d_tb_matches_48 ?_
          refine lv_iload hx hb d_tb_matches_51 (lv_at hl 0 rfl) ?_
          refine wa_ld (k := y) hx hb hK hP 9 0 rfl rfl hyn.2.2 hn d_tb_matches_53 ?_
          have hn := hn_
          refine lv_aload_n hx hb d_tb_matches_54 rfl (lv_at hl 1 rfl) ?_
          refine va_get (D := D) (ci := 0) (v := .ref qv) (C := R_tb) (T := F_tb) (N := 10) hx hb hts i_tb hown hK hP 0 rfl rfl 3 (by decide) (hts _ kf_tb_19) (fun _ h9 => h9) rfl d_tb_matches_55 ?_
          refine lv_iload_n hx hb d_tb_matches_58 rfl (lv_at hl 3 rfl) ?_
          refine wa_ld (k := x) hx hb hK hP 2 0 rfl rfl hxn.2.2 hn d_tb_matches_59 ?_
          refine lv_icmp_eq (tgt := 65) hx hb d_tb_matches_60 (by decide) (fun c2 => ?_) (fun c2 => ?_)
          · have hkx : lk (K x) L2 = some (V x) := by rw [hky, c2]
            refine lv_aload_n hx hb d_tb_matches_65 rfl (lv_at hl 1 rfl) ?_
            refine va_get (D := D) (ci := 0) (v := .ref qf) (C := R_tb) (T := F_tb) (N := 10) hx hb hts i_tb hown hK hP 0 rfl rfl 5 (by decide) (hts _ kf_tb_25) (fun _ h9 => h9) rfl d_tb_matches_66 ?_
            refine lv_iload_n hx hb d_tb_matches_69 rfl (lv_at hl 3 rfl) ?_
            refine wa_ld (k := x) hx hb hK hP 4 0 rfl rfl hxn.2.2 hn d_tb_matches_70 ?_
            refine tp_i (y := nI (hd_ 0 l2)) sN ?_
            refine lv_istore_n (lv' := [(2, .int (nI (hd_ 0 l2))), (4, .int (nI y)), (0, .ref a), (1, .ref a2), (3, .int (nI l1.length))]) hx hb d_tb_matches_71 rfl hl (by decide) rfl (fun ls hl => ?_)
            refine lv_iinc (v := nI (l1 ++ [x]).length) (lv' := [(3, .int (nI (l1 ++ [x]).length)), (2, .int (nI (hd_ 0 l2))), (4, .int (nI y)), (0, .ref a), (1, .ref a2)]) hx hb d_tb_matches_72 hl (k := 4) rfl (inc_l l1 x) (by decide) rfl (fun ls hl => ?_)
            refine lv_goto (tgt := 22) hx hb d_tb_matches_75 (by decide) ?_
            exact ih (l1 ++ [x]) (by rw [eR]; simp) (fun y hy => by
                rcases List.mem_append.mp hy with h1 | h1
                · exact hall y h1
                · rw [List.mem_singleton.mp h1]; exact hkx) _ _ hP hD hS ls (lv_sub hl [3, 4, 1, 0] rfl)
          · have hnx : ¬ lk (K x) L2 = some (V x) := by rw [hky]; exact fun z9 => c2 (Option.some.inj z9)
            refine lv_iconst (v := 0) hx hb d_tb_matches_63 (by decide) ?_
            exact cg_zret (u := ()) hQ hx hb hr hlk hK hP hD hS rfl (by rw [show mt L L2 = false from by
                  unfold mt
                  rw [decide_eq_true c1, Bool.true_and, eL]
                  unfold kv
                  rw [List.all_eq_false]
                  exact ⟨_, List.mem_map.mpr ⟨x, hxR, rfl⟩, by simpa using hnx⟩]; rfl) d_tb_matches_64
    exact loop R [] rfl (fun y hy => absurd hy List.not_mem_nil) _ _ hP hD hS ls (lv_sub hl [2, 3, 1, 0] rfl)
set_option maxRecDepth 100000 in
set_option maxHeartbeats 4000000 in
/-- matches(itself) -/
theorem c_tb_matches_self (l : Launch) (D : va_G) (cI cT cP : ClassId) (a : Nat) (mv : Bool) (j : Nat) (L : List (Int32 × Int32)) (u0 : TB) (hL : TL j L u0) : Cg l y_tb_matches b_tb_matches 5 (some .boolean) 2 0 0 D (ty3 cI cT cP) [.ref a, .ref a] (tw cI a mv j u0) (fun (v : Option Value) (u : Unit) => v = some (.int 1)) (fun u => tw cI a mv j u0) := by
  obtain ⟨qk, qv, qb, qf, qh, qc, K, V, P, N, G, C, fl, mm, R⟩ := u0
  obtain ⟨Fr, bl, hTA, hTN, hTH, hKn, eL⟩ := hL
  have hTA : TA (2 ^ (4 + j)) j mm R Fr := hTA
  have hTN : TN P N R := hTN
  have hTH : TH (2 ^ (4 + j)) K G C fl R Fr bl := hTH
  have hKn : (R.map K).Nodup := hKn
  have eL : L = kv K V R := eL
  have hLl : L.length = R.length := by rw [eL]; exact List.length_map ..
  have hn : 2 ^ (4 + j) < 2 ^ 31 := (ta_len hTA).2.2
  have hRl : R.length < 2 ^ 31 := (ta_len hTA).2.1
  refine cg_enter rfl (Nat.le_of_ble_eq_true rfl) ?_
  intro p e s m below meth c args hx hb hr hlk hml hown hin hts A hA hK hP hD hS ls hl Q hQ
  have hl : lv_has ls 5 [(0, .ref a), (1, .ref a)] := hl
  have hP : va_P D cls (tx cI a (mvI mv) (nI R.length) qk qv qb qf qh qc (2 ^ (4 + j)) K V P N G C fl (nI mm)) s.heap := hP
  have hD : va_D A (tx cI a (mvI mv) (nI R.length) qk qv qb qf qh qc (2 ^ (4 + j)) K V P N G C fl (nI mm)) := hD
  refine lv_aload_n hx hb d_tb_matches_0 rfl (lv_at hl 0 rfl) ?_
  refine va_get (D := D) (ci := 0) (v := .int (nI R.length)) (C := R_tb) (T := F_tb) (N := 10) hx hb hts i_tb hown hK hP 0 rfl rfl 1 (by decide) (hts _ kf_tb_52) (fun _ h9 => h9) rfl d_tb_matches_1 ?_
  refine lv_aload_n hx hb d_tb_matches_4 rfl (lv_at hl 1 rfl) ?_
  refine va_get (D := D) (ci := 0) (v := .int (nI R.length)) (C := R_tb) (T := F_tb) (N := 10) hx hb hts i_tb hown hK hP 0 rfl rfl 1 (by decide) (hts _ kf_tb_52) (fun _ h9 => h9) rfl d_tb_matches_5 ?_
  refine lv_icmp_eq (tgt := 13) hx hb d_tb_matches_8 (by decide) (fun _ => ?_) (fun z9 => absurd rfl z9)
  refine lv_aload_n hx hb d_tb_matches_13 rfl (lv_at hl 0 rfl) ?_
  refine va_get (D := D) (ci := 0) (v := .ref qf) (C := R_tb) (T := F_tb) (N := 10) hx hb hts i_tb hown hK hP 0 rfl rfl 5 (by decide) (hts _ kf_tb_25) (fun _ h9 => h9) rfl d_tb_matches_14 ?_
  refine lv_iconst (v := 0) hx hb d_tb_matches_17 (by decide) ?_
  refine wa_ld (k := 0) hx hb hK hP 4 0 rfl rfl (by have := ta_n hTA; omega) hn d_tb_matches_18 ?_
  refine tp_i (y := nI (hd_ 0 R)) (sg_hd0 hTN.1) ?_
  refine lv_istore_n (lv' := [(2, .int (nI (hd_ 0 R))), (0, .ref a), (1, .ref a)]) hx hb d_tb_matches_19 rfl hl (by decide) rfl (fun ls hl => ?_)
  refine lv_iconst (v := 0) hx hb d_tb_matches_20 (by decide) ?_
  refine lv_istore_n (lv' := [(3, .int 0), (2, .int (nI (hd_ 0 R))), (0, .ref a), (1, .ref a)]) hx hb d_tb_matches_21 rfl hl (by decide) rfl (fun ls hl => ?_)
  have loop : ∀ (l2 l1 : List Nat), R = l1 ++ l2 → (∀ y, y ∈ l1 → lk (K y) L = some (V y)) → ∀ (H : Heap) (locs : List Loc), va_P D cls (tx cI a (mvI mv) (nI R.length) qk qv qb qf qh qc (2 ^ (4 + j)) K V P N G C fl (nI mm)) H → va_D A (tx cI a (mvI mv) (nI R.length) qk qv qb qf qh qc (2 ^ (4 + j)) K V P N G C fl (nI mm)) → va_S A s.heap H locs → ∀ ls : Array Slot, lv_has ls 5 [(0, .ref a), (1, .ref a), (2, .int (nI (hd_ 0 l2))), (3, .int (nI l1.length))] → W p l e (rmL 2 0 0) s m args below meth c H locs 0 0 Q (F0 m 22 ls []) := by
    clear hP hD hS
    intro l2
    induction l2 with
    | nil =>
      intro l1 eR hall H locs hP hD hS ls hl
      have hl1 : l1 = R := by rw [eR, List.append_nil]
      refine lv_iload_n hx hb d_tb_matches_22 rfl (lv_at hl 3 rfl) ?_
      refine lv_aload_n hx hb d_tb_matches_23 rfl (lv_at hl 0 rfl) ?_
      refine va_get (D := D) (ci := 0) (v := .int (nI R.length)) (C := R_tb) (T := F_tb) (N := 10) hx hb hts i_tb hown hK hP 0 rfl rfl 1 (by decide) (hts _ kf_tb_52) (fun _ h9 => h9) rfl d_tb_matches_24 ?_
      refine lv_icmp_ge (tgt := 78) hx hb d_tb_matches_27 (by decide) (fun _ => ?_) (fun z9 => absurd (by rw [hl1]; exact nI_le (Nat.le_refl _) hRl) z9)
      refine lv_iconst (v := 1) hx hb d_tb_matches_78 (by decide) ?_
      exact cg_zret (u := ()) hQ hx hb hr hlk hK hP hD hS rfl rfl d_tb_matches_79
    | cons x l2 ih =>
      intro l1 eR hall H locs hP hD hS ls hl
      have hxR : x ∈ R := by rw [eR]; exact List.mem_append_right _ (List.mem_cons_self ..)
      have hxn := ta_in hTA hxR
      have hlt : l1.length < R.length := by rw [eR, List.length_append, List.length_cons]; omega
      have sN : N x = nI (hd_ 0 l2) := sg_hd0 (sg_app.mp (show sg N (N 0) (l1 ++ x :: l2) 0 by rw [← eR]; exact hTN.1)).2
      have hl : lv_has ls 5 [(0, .ref a), (1, .ref a), (2, .int (nI x)), (3, .int (nI l1.length))] := hl
      refine lv_iload_n hx hb d_tb_matches_22 rfl (lv_at hl 3 rfl) ?_
      refine lv_aload_n hx hb d_tb_matches_23 rfl (lv_at hl 0 rfl) ?_
      refine va_get (D := D) (ci := 0) (v := .int (nI R.length)) (C := R_tb) (T := F_tb) (N := 10) hx hb hts i_tb hown hK hP 0 rfl rfl 1 (by decide) (hts _ kf_tb_52) (fun _ h9 => h9) rfl d_tb_matches_24 ?_
      refine lv_icmp_ge (tgt := 78) hx hb d_tb_matches_27 (by decide) (fun z9 => absurd z9 (nI_ge hlt hRl)) (fun _ => ?_)
      refine lv_aload_n hx hb d_tb_matches_30 rfl (lv_at hl 1 rfl) ?_
      refine lv_aload_n hx hb d_tb_matches_31 rfl (lv_at hl 0 rfl) ?_
      refine va_get (D := D) (ci := 0) (v := .ref qk) (C := R_tb) (T := F_tb) (N := 10) hx hb hts i_tb hown hK hP 0 rfl rfl 2 (by decide) (hts _ kf_tb_15) (fun _ h9 => h9) rfl d_tb_matches_32 ?_
      refine lv_iload_n hx hb d_tb_matches_35 rfl (lv_at hl 2 rfl) ?_
      refine wa_ld (k := x) hx hb hK hP 1 0 rfl rfl hxn.2.2 hn d_tb_matches_36 ?_
      refine cg_V (hn := 1) (As := [.int (K x)]) (rest := []) (wr := []) (q0 := 0) (ci := 0) hx hb hml hown hts (c_tb_slotOf l D cI cT cP a (mvI mv) qk qv qb qf qh qc (2 ^ (4 + j)) K V P N G C fl (nI mm) j mm R Fr bl hTA hTH hKn (K x)) km_tb_34 ki_tb_slotOf ks_tb_slotOf kn_tb kc_tb_slotOf (by decide +kernel) rfl ⟨Nat.le_of_ble_eq_true rfl, Nat.le_of_ble_eq_true rfl⟩ hK hP hD hS hA [0, 1, 2, 3, 4, 5, 6] [] rfl (by decide) rfl (by decide) (by decide) rfl rfl hl.1 rfl (Nat.le_of_ble_eq_true rfl) d_tb_matches_37 ⟨Nat.zero_le _, Nat.zero_le _⟩ (fun v u H locs hpost hP hD hS => ?_)
      subst hpost
      refine W.eq (g2 := F0 m 40 ls [.int (nI (sl K (K x) R))]) rfl ?_
      have hP : va_P D cls (tx cI a (mvI mv) (nI R.length) qk qv qb qf qh qc (2 ^ (4 + j)) K V P N G C fl (nI mm)) H := hP
      have hD : va_D A (tx cI a (mvI mv) (nI R.length) qk qv qb qf qh qc (2 ^ (4 + j)) K V P N G C fl (nI mm)) := hD
      have esl : sl K (K x) R = x := sl_eq hKn hxR rfl
      rw [esl]
      have hkx : lk (K x) L = some (V x) := by rw [eL]; exact kv_at hxR hKn
      refine lv_istore (lv' := [(4, .int (nI x)), (0, .ref a), (1, .ref a), (2, .int (nI x)), (3, .int (nI l1.length))]) hx hb d_tb_matches_40 hl (by decide) rfl (fun ls hl => ?_)
      refine lv_iload hx hb d_tb_matches_42 (lv_at hl 0 rfl) ?_
      refine lv_if_eq (tgt := 63) hx hb d_tb_matches_44 (by decide) (fun z9 => absurd z9 (nI_ne0 hxn.1 (by omega))) (fun _ => ?_)
      refine lv_aload_n hx hb d_tb_matches_47 rfl (lv_at hl 2 rfl) ?_
      refine va_get (D := D) (ci := 0) (v := .ref qv) (C := R_tb) (T := F_tb) (N := 10) hx hb hts i_tb hown hK hP 0 rfl rfl 3 (by decide) (hts _ kf_tb_19) (fun _ h9 => h9) rfl d_tb_matches_48 ?_
      refine lv_iload hx hb d_tb_matches_51 (lv_at hl 0 rfl) ?_
      refine wa_ld (k := x) hx hb hK hP 2 0 rfl rfl hxn.2.2 hn d_tb_matches_53 ?_
      refine lv_aload_n hx hb d_tb_matches_54 rfl (lv_at hl 1 rfl) ?_
      refine va_get (D := D) (ci := 0) (v := .ref qv) (C := R_tb) (T := F_tb) (N := 10) hx hb hts i_tb hown hK hP 0 rfl rfl 3 (by decide) (hts _ kf_tb_19) (fun _ h9 => h9) rfl d_tb_matches_55 ?_
      refine lv_iload_n hx hb d_tb_matches_58 rfl (lv_at hl 3 rfl) ?_
      refine wa_ld (k := x) hx hb hK hP 2 0 rfl rfl hxn.2.2 hn d_tb_matches_59 ?_
      refine lv_icmp_eq (tgt := 65) hx hb d_tb_matches_60 (by decide) (fun _ => ?_) (fun z9 => absurd rfl z9)
      refine lv_aload_n hx hb d_tb_matches_65 rfl (lv_at hl 1 rfl) ?_
      refine va_get (D := D) (ci := 0) (v := .ref qf) (C := R_tb) (T := F_tb) (N := 10) hx hb hts i_tb hown hK hP 0 rfl rfl 5 (by decide) (hts _ kf_tb_25) (fun _ h9 => h9) rfl d_tb_matches_66 ?_
      refine lv_iload_n hx hb d_tb_matches_69 rfl (lv_at hl 3 rfl) ?_
      refine wa_ld (k := x) hx hb hK hP 4 0 rfl rfl hxn.2.2 hn d_tb_matches_70 ?_
      refine tp_i (y := nI (hd_ 0 l2)) sN ?_
      refine lv_istore_n (lv' := [(2, .int (nI (hd_ 0 l2))), (4, .int (nI x)), (0, .ref a), (1, .ref a), (3, .int (nI l1.length))]) hx hb d_tb_matches_71 rfl hl (by decide) rfl (fun ls hl => ?_)
      refine lv_iinc (v := nI (l1 ++ [x]).length) (lv' := [(3, .int (nI (l1 ++ [x]).length)), (2, .int (nI (hd_ 0 l2))), (4, .int (nI x)), (0, .ref a), (1, .ref a)]) hx hb d_tb_matches_72 hl (k := 4) rfl (inc_l l1 x) (by decide) rfl (fun ls hl => ?_)
      refine lv_goto (tgt := 22) hx hb d_tb_matches_75 (by decide) ?_
      exact ih (l1 ++ [x]) (by rw [eR]; simp) (fun y hy => by
          rcases List.mem_append.mp hy with h1 | h1
          · exact hall y h1
          · rw [List.mem_singleton.mp h1]; exact hkx) _ _ hP hD hS ls (lv_sub hl [3, 4, 1, 0] rfl)
  exact loop R [] rfl (fun y hy => absurd hy List.not_mem_nil) _ _ hP hD hS ls (lv_sub hl [2, 3, 1, 0] rfl)
end
section
-- HashHall (1): printed by wip/whole/gen/hh1.py
section HZ
variable {p : Program} {l : Launch} {e : Env} {R : Room} {s : State} {m : MethodId} {args : Array Value} {below : List Frame} {meth : Method} {c : Code} {H H0 : Heap} {locs : List Loc} {cells slots : Nat} {Q : State → Prop}
variable {cc : ByteArray} {pc : Nat} {ls : Array Slot} {rest : List Value} {D : va_G} {tys : List (ClassId × FieldType)} {ws : va_W}
/-- a row of references is read -/
theorem wa_ald {a b : Nat} (hx : p.tables.exec = Jvm.exec) (hb : c.code = cc) (hK : va_K D cls tys s) (hP : va_P D cls ws H) (q0 t0 : Nat) {cA : ClassId} {C : String} {n : Nat} {f : Nat → Option Nat} (ha : ws[q0]? = some (a, .inl (cA, n, .inr (.inr (.inr (.inr f)))))) (ht : tys[t0]? = some (cA, .object C)) {k : Nat} (hk : k < n) (hn : n < 2 ^ 31) (ef : f k = some b) (hdg : decode cc pc = .ok (.aaload, 1))
    (kk : W p l e R s m args below meth c H locs cells slots Q (F0 m (pc + 1) ls (.ref b :: rest))) : W p l e R s m args below meth c H locs cells slots Q (F0 m pc ls (.int (nI k) :: .ref a :: rest)) := by
  refine va_aldq hx hb hK hP q0 t0 ha ht (vp_in_nI hk hn) hdg ?_
  rw [nI_clamp (by omega), ef]
  exact kk
end HZ
/-- no map's number -/
def bad (q : Int32) : Prop := q < 0 ∨ nI 3 ≤ q
theorem bad_or (q : Int32) : bad q ∨ ∃ k, k < 3 ∧ q = nI k := by
  rcases pk_ix q (n := 3) (by decide) with h | h | h
  · exact Or.inl (Or.inl h)
  · exact Or.inl (Or.inr h)
  · exact Or.inr h
def gv (o : Int32) : Option Int32 → Int64
  | none => o.toInt64
  | some v => v.toInt64
theorem gv_an {o : Int32} {x : Option Int32} : gv o x = if an x = 1099511627776 then o.toInt64 else an x := by
  cases x with
  | none => rw [if_pos (an_none.mpr rfl)]; rfl
  | some v => rw [if_neg (fun h => by cases an_none.mp h)]; rfl
def hs (w x : Int32) (L : List (Int32 × Int32)) : Bool := if w = 0 then (lk x L).isSome else if w = 1 then hvl x L else false
set_option maxRecDepth 100000 in
set_option maxHeartbeats 4000000 in
/-- tableOf(km) -/
theorem c_hh_tableOf (l : Launch) (D : va_G) (cI cT cP : ClassId) (h r : Nat) (ft : Nat → Option Nat) (km : Nat) (hkm : km < 3) (a : Nat) (hft : ft km = some a)  : Cg l y_hh_tableOf b_hh_tableOf 2 (some (.object "HashHall$Table")) 0 0 0 D (ty3 cI cT cP) [.ref h, .int (nI km)] ([(h, .inr (1, [.ref r])), (r, .inl (cT, 3, .inr (.inr (.inr (.inr ft)))))]) (fun (v : Option Value) (u : Unit) => v = some (.ref a)) (fun u => [(h, .inr (1, [.ref r])), (r, .inl (cT, 3, .inr (.inr (.inr (.inr ft)))))]) := by
  refine cg_enter rfl (Nat.le_of_ble_eq_true rfl) ?_
  intro p e s m below meth c args hx hb hr hlk hml hown hin hts A hA hK hP hD hS ls hl Q hQ
  have hl : lv_has ls 2 [(0, .ref h), (1, .int (nI km))] := hl
  have hP : va_P D cls ([(h, .inr (1, [.ref r])), (r, .inl (cT, 3, .inr (.inr (.inr (.inr ft)))))]) s.heap := hP
  have hD : va_D A ([(h, .inr (1, [.ref r])), (r, .inl (cT, 3, .inr (.inr (.inr (.inr ft)))))]) := hD
  refine lv_iload_n hx hb d_hh_tableOf_0 rfl (lv_at hl 1 rfl) ?_
  refine lv_if_lt (tgt := 18) hx hb d_hh_tableOf_1 (by decide) (fun z9 => absurd z9 (nI_pos (by omega))) (fun _ => ?_)
  refine lv_iload_n hx hb d_hh_tableOf_4 rfl (lv_at hl 1 rfl) ?_
  refine lv_iconst (v := 3) hx hb d_hh_tableOf_5 (by decide) ?_
  refine lv_icmp_ge (tgt := 18) hx hb d_hh_tableOf_6 (by decide) (fun z9 => absurd z9 (nI_ge hkm (by decide))) (fun _ => ?_)
  refine lv_aload_n hx hb d_hh_tableOf_9 rfl (lv_at hl 0 rfl) ?_
  refine va_get (D := D) (ci := 1) (v := .ref r) (C := R_hh) (T := F_hh) (N := 1) hx hb hts i_hh hown hK hP 0 rfl rfl 0 (by decide) (hts _ kf_hh_11) (fun _ h9 => h9) rfl d_hh_tableOf_10 ?_
  refine lv_iload_n hx hb d_hh_tableOf_13 rfl (lv_at hl 1 rfl) ?_
  refine wa_ald (k := km) (b := a) hx hb hK hP 1 1 rfl rfl hkm (by decide) hft d_hh_tableOf_14 ?_
  refine lv_goto (tgt := 19) hx hb d_hh_tableOf_15 (by decide) ?_
  exact cg_aret (u := ()) hQ hx hb hr (Or.inl ⟨_, rfl⟩) (Or.inr ⟨_, rfl⟩) hlk hK hP hD hS rfl d_hh_tableOf_19
set_option maxRecDepth 100000 in
set_option maxHeartbeats 4000000 in
/-- tableOf of no map -/
theorem c_hh_tableOf_x (l : Launch) (D : va_G) (cI cT cP : ClassId) (h r : Nat) (q : Int32) (hq : bad q) : Cg l y_hh_tableOf b_hh_tableOf 2 (some (.object "HashHall$Table")) 0 0 0 D (ty3 cI cT cP) [.ref h, .int q] ([(h, .inr (1, [.ref r]))]) (fun (v : Option Value) (u : Unit) => v = some .null) (fun u => [(h, .inr (1, [.ref r]))]) := by
  refine cg_enter rfl (Nat.le_of_ble_eq_true rfl) ?_
  intro p e s m below meth c args hx hb hr hlk hml hown hin hts A hA hK hP hD hS ls hl Q hQ
  have hl : lv_has ls 2 [(0, .ref h), (1, .int q)] := hl
  have hP : va_P D cls ([(h, .inr (1, [.ref r]))]) s.heap := hP
  have hD : va_D A ([(h, .inr (1, [.ref r]))]) := hD
  refine lv_iload_n hx hb d_hh_tableOf_0 rfl (lv_at hl 1 rfl) ?_
  refine lv_if_lt (tgt := 18) hx hb d_hh_tableOf_1 (by decide) (fun c1 => ?_) (fun c1 => ?_)
  · refine lv_null hx hb d_hh_tableOf_18 ?_
    exact cg_aret (u := ()) hQ hx hb hr (Or.inl ⟨_, rfl⟩) (Or.inl rfl) hlk hK hP hD hS rfl d_hh_tableOf_19
  · refine lv_iload_n hx hb d_hh_tableOf_4 rfl (lv_at hl 1 rfl) ?_
    refine lv_iconst (v := 3) hx hb d_hh_tableOf_5 (by decide) ?_
    refine lv_icmp_ge (tgt := 18) hx hb d_hh_tableOf_6 (by decide) (fun _ => ?_) (fun z9 => absurd (hq.elim (fun z8 => absurd z8 c1) id) z9)
    refine lv_null hx hb d_hh_tableOf_18 ?_
    exact cg_aret (u := ()) hQ hx hb hr (Or.inl ⟨_, rfl⟩) (Or.inl rfl) hlk hK hP hD hS rfl d_hh_tableOf_19
set_option maxRecDepth 100000 in
set_option maxHeartbeats 4000000 in
/-- put -/
theorem c_hh_put (l : Launch) (D : va_G) (cI cT cP : ClassId) (h r : Nat) (ft : Nat → Option Nat) (km : Nat) (hkm : km < 3) (a : Nat) (hft : ft km = some a) (mv : Bool) (j : Nat) (L : List (Int32 × Int32)) (u0 : TB) (hL : TL j L u0) (k v0 : Int32) (hlen : L.length < 2047) : Cg l y_hh_put b_hh_put 5 (some .long) 5 (mcT j (njs j k L)) (msT j (njs j k L)) D (ty3 cI cT cP) [.ref h, .int (nI km), .int k, .int v0] ([(h, .inr (1, [.ref r])), (r, .inl (cT, 3, .inr (.inr (.inr (.inr ft)))))] ++ (tw cI a mv j u0)) (fun (v : Option Value) (u : TB) => v = some (.long (an (lk k L))) ∧ TL (njs j k L) (st mv k v0 L) u) (fun u => [(h, .inr (1, [.ref r])), (r, .inl (cT, 3, .inr (.inr (.inr (.inr ft)))))] ++ (tw cI a mv (njs j k L) u)) := by
  refine cg_enter rfl (Nat.le_of_ble_eq_true rfl) ?_
  intro p e s m below meth c args hx hb hr hlk hml hown hin hts A hA hK hP hD hS ls hl Q hQ
  have hl : lv_has ls 5 [(0, .ref h), (1, .int (nI km)), (2, .int k), (3, .int v0)] := hl
  have hP : va_P D cls ([(h, .inr (1, [.ref r])), (r, .inl (cT, 3, .inr (.inr (.inr (.inr ft)))))] ++ (tw cI a mv j u0)) s.heap := hP
  have hD : va_D A ([(h, .inr (1, [.ref r])), (r, .inl (cT, 3, .inr (.inr (.inr (.inr ft)))))] ++ (tw cI a mv j u0)) := hD
  refine lv_aload_n hx hb d_hh_put_0 rfl (lv_at hl 0 rfl) ?_
  refine lv_iload_n hx hb d_hh_put_1 rfl (lv_at hl 1 rfl) ?_
  refine cg_V (hn := 1) (As := [.int (nI km)]) (rest := []) (wr := tw cI a mv j u0) (q0 := 0) (ci := 1) hx hb hml hown hts (c_hh_tableOf l D cI cT cP h r ft km hkm a hft) km_hh_18 ki_hh_tableOf ks_hh_tableOf kn_hh kc_hh_tableOf (by decide +kernel) rfl ⟨Nat.le_of_ble_eq_true rfl, Nat.le_of_ble_eq_true rfl⟩ hK hP hD hS hA [0, 1] [2, 3, 4, 5, 6, 7, 8] rfl (by decide) rfl (by decide) (by decide) rfl rfl hl.1 rfl (Nat.le_of_ble_eq_true rfl) d_hh_put_2 ⟨Nat.zero_le _, Nat.zero_le _⟩ (fun v u H locs hpost hP hD hS => ?_)
  subst hpost
  refine W.eq (g2 := F0 m 5 ls [.ref a]) rfl ?_
  have hP : va_P D cls ((tw cI a mv j u0) ++ [(h, .inr (1, [.ref r])), (r, .inl (cT, 3, .inr (.inr (.inr (.inr ft)))))]) H := hP
  have hD : va_D A ((tw cI a mv j u0) ++ [(h, .inr (1, [.ref r])), (r, .inl (cT, 3, .inr (.inr (.inr (.inr ft)))))]) := hD
  have hP : va_P D cls ([(h, .inr (1, [.ref r])), (r, .inl (cT, 3, .inr (.inr (.inr (.inr ft)))))] ++ (tw cI a mv j u0)) H := hP.sub [7, 8, 0, 1, 2, 3, 4, 5, 6] rfl
  have hD : va_D A ([(h, .inr (1, [.ref r])), (r, .inl (cT, 3, .inr (.inr (.inr (.inr ft)))))] ++ (tw cI a mv j u0)) := hD.sub [7, 8, 0, 1, 2, 3, 4, 5, 6] (by decide) rfl
  refine lv_astore (lv' := [(4, .ref a), (0, .ref h), (1, .int (nI km)), (2, .int k), (3, .int v0)]) hx hb d_hh_put_5 hl (by decide) rfl (fun ls hl => ?_)
  refine lv_aload hx hb d_hh_put_7 (lv_at hl 0 rfl) ?_
  refine lv_ifnonnull (tgt := 18) hx hb d_hh_put_9 (by decide) ?_
  refine lv_aload hx hb d_hh_put_18 (lv_at hl 0 rfl) ?_
  refine lv_iload_n hx hb d_hh_put_20 rfl (lv_at hl 3 rfl) ?_
  refine lv_iload_n hx hb d_hh_put_21 rfl (lv_at hl 4 rfl) ?_
  refine cg_V (hn := 2) (As := [.int k, .int v0]) (rest := []) (wr := [(h, .inr (1, [.ref r])), (r, .inl (cT, 3, .inr (.inr (.inr (.inr ft)))))]) (q0 := 0) (ci := 0) hx hb hml hown hts (c_tb_store l D cI cT cP a mv j L u0 hL k v0 hlen) km_hh_24 ki_tb_store ks_tb_store kn_tb kc_tb_store (by decide +kernel) rfl ⟨Nat.le_of_ble_eq_true rfl, Nat.le_of_ble_eq_true rfl⟩ hK hP hD hS hA [2, 3, 4, 5, 6, 7, 8] [0, 1] rfl (by decide) rfl (by decide) (by decide) rfl rfl hl.1 rfl (Nat.le_of_ble_eq_true rfl) d_hh_put_22 ⟨by show 0 + _ ≤ _; rw [Nat.zero_add]; exact Nat.le_refl _, by show 0 + _ ≤ _; rw [Nat.zero_add]; exact Nat.le_refl _⟩ (fun v u H locs hpost hP hD hS => ?_)
  obtain ⟨e9, hT2⟩ := hpost
  subst e9
  refine W.eq (g2 := F0 m 25 ls [.long (an (lk k L))]) rfl ?_
  have hP : va_P D cls ([(h, .inr (1, [.ref r])), (r, .inl (cT, 3, .inr (.inr (.inr (.inr ft)))))] ++ (tw cI a mv (njs j k L) u)) H := hP
  have hD : va_D A ([(h, .inr (1, [.ref r])), (r, .inl (cT, 3, .inr (.inr (.inr (.inr ft)))))] ++ (tw cI a mv (njs j k L) u)) := hD
  refine W.widen (k := mcT j (njs j k L)) (n := msT j (njs j k L)) (Nat.le_of_eq (Nat.zero_add _)) (Nat.le_of_eq (Nat.zero_add _)) ?_
  exact cg_lret (u := u) hQ hx hb hr hlk hK hP hD hS (⟨rfl, hT2⟩) d_hh_put_25
set_option maxRecDepth 100000 in
set_option maxHeartbeats 4000000 in
theorem c_hh_put_x (l : Launch) (D : va_G) (cI cT cP : ClassId) (h r : Nat) (q : Int32) (hq : bad q) (k v0 : Int32) : Cg l y_hh_put b_hh_put 5 (some .long) 5 0 0 D (ty3 cI cT cP) [.ref h, .int q, .int k, .int v0] ([(h, .inr (1, [.ref r]))]) (fun (v : Option Value) (u : Unit) => v = some (.long 1099511627777)) (fun u => [(h, .inr (1, [.ref r]))]) := by
  refine cg_enter rfl (Nat.le_of_ble_eq_true rfl) ?_
  intro p e s m below meth c args hx hb hr hlk hml hown hin hts A hA hK hP hD hS ls hl Q hQ
  have hl : lv_has ls 5 [(0, .ref h), (1, .int q), (2, .int k), (3, .int v0)] := hl
  have hP : va_P D cls ([(h, .inr (1, [.ref r]))]) s.heap := hP
  have hD : va_D A ([(h, .inr (1, [.ref r]))]) := hD
  refine lv_aload_n hx hb d_hh_put_0 rfl (lv_at hl 0 rfl) ?_
  refine lv_iload_n hx hb d_hh_put_1 rfl (lv_at hl 1 rfl) ?_
  refine cg_V (hn := 1) (As := [.int q]) (rest := []) (wr := []) (q0 := 0) (ci := 1) hx hb hml hown hts (c_hh_tableOf_x l D cI cT cP h r q hq) km_hh_18 ki_hh_tableOf ks_hh_tableOf kn_hh kc_hh_tableOf (by decide +kernel) rfl ⟨Nat.le_of_ble_eq_true rfl, Nat.le_of_ble_eq_true rfl⟩ hK hP hD hS hA [0] [] rfl (by decide) rfl (by decide) (by decide) rfl rfl hl.1 rfl (Nat.le_of_ble_eq_true rfl) d_hh_put_2 ⟨Nat.zero_le _, Nat.zero_le _⟩ (fun v u H locs hpost hP hD hS => ?_)
  subst hpost
  refine W.eq (g2 := F0 m 5 ls [.null]) rfl ?_
  have hP : va_P D cls ([(h, .inr (1, [.ref r]))]) H := hP
  have hD : va_D A ([(h, .inr (1, [.ref r]))]) := hD
  refine lv_astoreN (lv' := [(4, .null), (0, .ref h), (1, .int q), (2, .int k), (3, .int v0)]) hx hb d_hh_put_5 hl (by decide) rfl (fun ls hl => ?_)
  refine lv_aloadN hx hb d_hh_put_7 (lv_at hl 0 rfl) ?_
  refine lv_ifnonnullN hx hb d_hh_put_9 ?_
  refine lv_ldc2 hx hb hown (hts _ kk_hh_22) d_hh_put_12 ?_
  refine lv_goto (tgt := 25) hx hb d_hh_put_15 (by decide) ?_
  exact cg_lret (u := ()) hQ hx hb hr hlk hK hP hD hS rfl d_hh_put_25
set_option maxRecDepth 100000 in
set_option maxHeartbeats 4000000 in
/-- add -/
theorem c_hh_add (l : Launch) (D : va_G) (cI cT cP : ClassId) (h r : Nat) (ft : Nat → Option Nat) (km : Nat) (hkm : km < 3) (a : Nat) (hft : ft km = some a) (mv : Bool) (j : Nat) (L : List (Int32 × Int32)) (u0 : TB) (hL : TL j L u0) (k v0 : Int32) (hlen : L.length < 2047) : Cg l y_hh_add b_hh_add 5 (some .long) 5 (mcT j (njs j k L)) (msT j (njs j k L)) D (ty3 cI cT cP) [.ref h, .int (nI km), .int k, .int v0] ([(h, .inr (1, [.ref r])), (r, .inl (cT, 3, .inr (.inr (.inr (.inr ft)))))] ++ (tw cI a mv j u0)) (fun (v : Option Value) (u : TB) => v = some (.long (an (lk k L))) ∧ TL (njs j k L) (ad mv k v0 L) u) (fun u => [(h, .inr (1, [.ref r])), (r, .inl (cT, 3, .inr (.inr (.inr (.inr ft)))))] ++ (tw cI a mv (njs j k L) u)) := by
  refine cg_enter rfl (Nat.le_of_ble_eq_true rfl) ?_
  intro p e s m below meth c args hx hb hr hlk hml hown hin hts A hA hK hP hD hS ls hl Q hQ
  have hl : lv_has ls 5 [(0, .ref h), (1, .int (nI km)), (2, .int k), (3, .int v0)] := hl
  have hP : va_P D cls ([(h, .inr (1, [.ref r])), (r, .inl (cT, 3, .inr (.inr (.inr (.inr ft)))))] ++ (tw cI a mv j u0)) s.heap := hP
  have hD : va_D A ([(h, .inr (1, [.ref r])), (r, .inl (cT, 3, .inr (.inr (.inr (.inr ft)))))] ++ (tw cI a mv j u0)) := hD
  refine lv_aload_n hx hb d_hh_add_0 rfl (lv_at hl 0 rfl) ?_
  refine lv_iload_n hx hb d_hh_add_1 rfl (lv_at hl 1 rfl) ?_
  refine cg_V (hn := 1) (As := [.int (nI km)]) (rest := []) (wr := tw cI a mv j u0) (q0 := 0) (ci := 1) hx hb hml hown hts (c_hh_tableOf l D cI cT cP h r ft km hkm a hft) km_hh_18 ki_hh_tableOf ks_hh_tableOf kn_hh kc_hh_tableOf (by decide +kernel) rfl ⟨Nat.le_of_ble_eq_true rfl, Nat.le_of_ble_eq_true rfl⟩ hK hP hD hS hA [0, 1] [2, 3, 4, 5, 6, 7, 8] rfl (by decide) rfl (by decide) (by decide) rfl rfl hl.1 rfl (Nat.le_of_ble_eq_true rfl) d_hh_add_2 ⟨Nat.zero_le _, Nat.zero_le _⟩ (fun v u H locs hpost hP hD hS => ?_)
  subst hpost
  refine W.eq (g2 := F0 m 5 ls [.ref a]) rfl ?_
  have hP : va_P D cls ((tw cI a mv j u0) ++ [(h, .inr (1, [.ref r])), (r, .inl (cT, 3, .inr (.inr (.inr (.inr ft)))))]) H := hP
  have hD : va_D A ((tw cI a mv j u0) ++ [(h, .inr (1, [.ref r])), (r, .inl (cT, 3, .inr (.inr (.inr (.inr ft)))))]) := hD
  have hP : va_P D cls ([(h, .inr (1, [.ref r])), (r, .inl (cT, 3, .inr (.inr (.inr (.inr ft)))))] ++ (tw cI a mv j u0)) H := hP.sub [7, 8, 0, 1, 2, 3, 4, 5, 6] rfl
  have hD : va_D A ([(h, .inr (1, [.ref r])), (r, .inl (cT, 3, .inr (.inr (.inr (.inr ft)))))] ++ (tw cI a mv j u0)) := hD.sub [7, 8, 0, 1, 2, 3, 4, 5, 6] (by decide) rfl
  refine lv_astore (lv' := [(4, .ref a), (0, .ref h), (1, .int (nI km)), (2, .int k), (3, .int v0)]) hx hb d_hh_add_5 hl (by decide) rfl (fun ls hl => ?_)
  refine lv_aload hx hb d_hh_add_7 (lv_at hl 0 rfl) ?_
  refine lv_ifnonnull (tgt := 18) hx hb d_hh_add_9 (by decide) ?_
  refine lv_aload hx hb d_hh_add_18 (lv_at hl 0 rfl) ?_
  refine lv_iload_n hx hb d_hh_add_20 rfl (lv_at hl 3 rfl) ?_
  refine lv_iload_n hx hb d_hh_add_21 rfl (lv_at hl 4 rfl) ?_
  refine cg_V (hn := 2) (As := [.int k, .int v0]) (rest := []) (wr := [(h, .inr (1, [.ref r])), (r, .inl (cT, 3, .inr (.inr (.inr (.inr ft)))))]) (q0 := 0) (ci := 0) hx hb hml hown hts (c_tb_storeIfNew l D cI cT cP a mv j L u0 hL k v0 hlen) km_hh_28 ki_tb_storeIfNew ks_tb_storeIfNew kn_tb kc_tb_storeIfNew (by decide +kernel) rfl ⟨Nat.le_of_ble_eq_true rfl, Nat.le_of_ble_eq_true rfl⟩ hK hP hD hS hA [2, 3, 4, 5, 6, 7, 8] [0, 1] rfl (by decide) rfl (by decide) (by decide) rfl rfl hl.1 rfl (Nat.le_of_ble_eq_true rfl) d_hh_add_22 ⟨by show 0 + _ ≤ _; rw [Nat.zero_add]; exact Nat.le_refl _, by show 0 + _ ≤ _; rw [Nat.zero_add]; exact Nat.le_refl _⟩ (fun v u H locs hpost hP hD hS => ?_)
  obtain ⟨e9, hT2⟩ := hpost
  subst e9
  refine W.eq (g2 := F0 m 25 ls [.long (an (lk k L))]) rfl ?_
  have hP : va_P D cls ([(h, .inr (1, [.ref r])), (r, .inl (cT, 3, .inr (.inr (.inr (.inr ft)))))] ++ (tw cI a mv (njs j k L) u)) H := hP
  have hD : va_D A ([(h, .inr (1, [.ref r])), (r, .inl (cT, 3, .inr (.inr (.inr (.inr ft)))))] ++ (tw cI a mv (njs j k L) u)) := hD
  refine W.widen (k := mcT j (njs j k L)) (n := msT j (njs j k L)) (Nat.le_of_eq (Nat.zero_add _)) (Nat.le_of_eq (Nat.zero_add _)) ?_
  exact cg_lret (u := u) hQ hx hb hr hlk hK hP hD hS (⟨rfl, hT2⟩) d_hh_add_25
set_option maxRecDepth 100000 in
set_option maxHeartbeats 4000000 in
theorem c_hh_add_x (l : Launch) (D : va_G) (cI cT cP : ClassId) (h r : Nat) (q : Int32) (hq : bad q) (k v0 : Int32) : Cg l y_hh_add b_hh_add 5 (some .long) 5 0 0 D (ty3 cI cT cP) [.ref h, .int q, .int k, .int v0] ([(h, .inr (1, [.ref r]))]) (fun (v : Option Value) (u : Unit) => v = some (.long 1099511627777)) (fun u => [(h, .inr (1, [.ref r]))]) := by
  refine cg_enter rfl (Nat.le_of_ble_eq_true rfl) ?_
  intro p e s m below meth c args hx hb hr hlk hml hown hin hts A hA hK hP hD hS ls hl Q hQ
  have hl : lv_has ls 5 [(0, .ref h), (1, .int q), (2, .int k), (3, .int v0)] := hl
  have hP : va_P D cls ([(h, .inr (1, [.ref r]))]) s.heap := hP
  have hD : va_D A ([(h, .inr (1, [.ref r]))]) := hD
  refine lv_aload_n hx hb d_hh_add_0 rfl (lv_at hl 0 rfl) ?_
  refine lv_iload_n hx hb d_hh_add_1 rfl (lv_at hl 1 rfl) ?_
  refine cg_V (hn := 1) (As := [.int q]) (rest := []) (wr := []) (q0 := 0) (ci := 1) hx hb hml hown hts (c_hh_tableOf_x l D cI cT cP h r q hq) km_hh_18 ki_hh_tableOf ks_hh_tableOf kn_hh kc_hh_tableOf (by decide +kernel) rfl ⟨Nat.le_of_ble_eq_true rfl, Nat.le_of_ble_eq_true rfl⟩ hK hP hD hS hA [0] [] rfl (by decide) rfl (by decide) (by decide) rfl rfl hl.1 rfl (Nat.le_of_ble_eq_true rfl) d_hh_add_2 ⟨Nat.zero_le _, Nat.zero_le _⟩ (fun v u H locs hpost hP hD hS => ?_)
  subst hpost
  refine W.eq (g2 := F0 m 5 ls [.null]) rfl ?_
  have hP : va_P D cls ([(h, .inr (1, [.ref r]))]) H := hP
  have hD : va_D A ([(h, .inr (1, [.ref r]))]) := hD
  refine lv_astoreN (lv' := [(4, .null), (0, .ref h), (1, .int q), (2, .int k), (3, .int v0)]) hx hb d_hh_add_5 hl (by decide) rfl (fun ls hl => ?_)
  refine lv_aloadN hx hb d_hh_add_7 (lv_at hl 0 rfl) ?_
  refine lv_ifnonnullN hx hb d_hh_add_9 ?_
  refine lv_ldc2 hx hb hown (hts _ kk_hh_22) d_hh_add_12 ?_
  refine lv_goto (tgt := 25) hx hb d_hh_add_15 (by decide) ?_
  exact cg_lret (u := ()) hQ hx hb hr hlk hK hP hD hS rfl d_hh_add_25
set_option maxRecDepth 100000 in
set_option maxHeartbeats 4000000 in
/-- get -/
theorem c_hh_get (l : Launch) (D : va_G) (cI cT cP : ClassId) (h r : Nat) (ft : Nat → Option Nat) (km : Nat) (hkm : km < 3) (a : Nat) (hft : ft km = some a) (mv : Bool) (j : Nat) (L : List (Int32 × Int32)) (u0 : TB) (hL : TL j L u0) (k : Int32) : Cg l y_hh_get b_hh_get 4 (some .long) 3 0 0 D (ty3 cI cT cP) [.ref h, .int (nI km), .int k] ([(h, .inr (1, [.ref r])), (r, .inl (cT, 3, .inr (.inr (.inr (.inr ft)))))] ++ (tw cI a mv j u0)) (fun (v : Option Value) (u : TB) => v = some (.long (an (lk k L))) ∧ TL j (us mv k L) u) (fun u => [(h, .inr (1, [.ref r])), (r, .inl (cT, 3, .inr (.inr (.inr (.inr ft)))))] ++ (tw cI a mv j u)) := by
  refine cg_enter rfl (Nat.le_of_ble_eq_true rfl) ?_
  intro p e s m below meth c args hx hb hr hlk hml hown hin hts A hA hK hP hD hS ls hl Q hQ
  have hl : lv_has ls 4 [(0, .ref h), (1, .int (nI km)), (2, .int k)] := hl
  have hP : va_P D cls ([(h, .inr (1, [.ref r])), (r, .inl (cT, 3, .inr (.inr (.inr (.inr ft)))))] ++ (tw cI a mv j u0)) s.heap := hP
  have hD : va_D A ([(h, .inr (1, [.ref r])), (r, .inl (cT, 3, .inr (.inr (.inr (.inr ft)))))] ++ (tw cI a mv j u0)) := hD
  refine lv_aload_n hx hb d_hh_get_0 rfl (lv_at hl 0 rfl) ?_
  refine lv_iload_n hx hb d_hh_get_1 rfl (lv_at hl 1 rfl) ?_
  refine cg_V (hn := 1) (As := [.int (nI km)]) (rest := []) (wr := tw cI a mv j u0) (q0 := 0) (ci := 1) hx hb hml hown hts (c_hh_tableOf l D cI cT cP h r ft km hkm a hft) km_hh_18 ki_hh_tableOf ks_hh_tableOf kn_hh kc_hh_tableOf (by decide +kernel) rfl ⟨Nat.le_of_ble_eq_true rfl, Nat.le_of_ble_eq_true rfl⟩ hK hP hD hS hA [0, 1] [2, 3, 4, 5, 6, 7, 8] rfl (by decide) rfl (by decide) (by decide) rfl rfl hl.1 rfl (Nat.le_of_ble_eq_true rfl) d_hh_get_2 ⟨Nat.zero_le _, Nat.zero_le _⟩ (fun v u H locs hpost hP hD hS => ?_)
  subst hpost
  refine W.eq (g2 := F0 m 5 ls [.ref a]) rfl ?_
  have hP : va_P D cls ((tw cI a mv j u0) ++ [(h, .inr (1, [.ref r])), (r, .inl (cT, 3, .inr (.inr (.inr (.inr ft)))))]) H := hP
  have hD : va_D A ((tw cI a mv j u0) ++ [(h, .inr (1, [.ref r])), (r, .inl (cT, 3, .inr (.inr (.inr (.inr ft)))))]) := hD
  have hP : va_P D cls ([(h, .inr (1, [.ref r])), (r, .inl (cT, 3, .inr (.inr (.inr (.inr ft)))))] ++ (tw cI a mv j u0)) H := hP.sub [7, 8, 0, 1, 2, 3, 4, 5, 6] rfl
  have hD : va_D A ([(h, .inr (1, [.ref r])), (r, .inl (cT, 3, .inr (.inr (.inr (.inr ft)))))] ++ (tw cI a mv j u0)) := hD.sub [7, 8, 0, 1, 2, 3, 4, 5, 6] (by decide) rfl
  refine lv_astore_n (lv' := [(3, .ref a), (0, .ref h), (1, .int (nI km)), (2, .int k)]) hx hb d_hh_get_5 rfl hl (by decide) rfl (fun ls hl => ?_)
  refine lv_aload_n hx hb d_hh_get_6 rfl (lv_at hl 0 rfl) ?_
  refine lv_ifnonnull (tgt := 16) hx hb d_hh_get_7 (by decide) ?_
  refine lv_aload_n hx hb d_hh_get_16 rfl (lv_at hl 0 rfl) ?_
  refine lv_iload_n hx hb d_hh_get_17 rfl (lv_at hl 3 rfl) ?_
  refine cg_V (hn := 1) (As := [.int k]) (rest := []) (wr := [(h, .inr (1, [.ref r])), (r, .inl (cT, 3, .inr (.inr (.inr (.inr ft)))))]) (q0 := 0) (ci := 0) hx hb hml hown hts (c_tb_lookUp l D cI cT cP a mv j L u0 hL k) km_hh_31 ki_tb_lookUp ks_tb_lookUp kn_tb kc_tb_lookUp (by decide +kernel) rfl ⟨Nat.le_of_ble_eq_true rfl, Nat.le_of_ble_eq_true rfl⟩ hK hP hD hS hA [2, 3, 4, 5, 6, 7, 8] [0, 1] rfl (by decide) rfl (by decide) (by decide) rfl rfl hl.1 rfl (Nat.le_of_ble_eq_true rfl) d_hh_get_18 ⟨Nat.zero_le _, Nat.zero_le _⟩ (fun v u H locs hpost hP hD hS => ?_)
  obtain ⟨e9, hT2⟩ := hpost
  subst e9
  refine W.eq (g2 := F0 m 21 ls [.long (an (lk k L))]) rfl ?_
  have hP : va_P D cls ([(h, .inr (1, [.ref r])), (r, .inl (cT, 3, .inr (.inr (.inr (.inr ft)))))] ++ (tw cI a mv j u)) H := hP
  have hD : va_D A ([(h, .inr (1, [.ref r])), (r, .inl (cT, 3, .inr (.inr (.inr (.inr ft)))))] ++ (tw cI a mv j u)) := hD
  exact cg_lret (u := u) hQ hx hb hr hlk hK hP hD hS (⟨rfl, hT2⟩) d_hh_get_21
set_option maxRecDepth 100000 in
set_option maxHeartbeats 4000000 in
theorem c_hh_get_x (l : Launch) (D : va_G) (cI cT cP : ClassId) (h r : Nat) (q : Int32) (hq : bad q) (k : Int32) : Cg l y_hh_get b_hh_get 4 (some .long) 3 0 0 D (ty3 cI cT cP) [.ref h, .int q, .int k] ([(h, .inr (1, [.ref r]))]) (fun (v : Option Value) (u : Unit) => v = some (.long 1099511627777)) (fun u => [(h, .inr (1, [.ref r]))]) := by
  refine cg_enter rfl (Nat.le_of_ble_eq_true rfl) ?_
  intro p e s m below meth c args hx hb hr hlk hml hown hin hts A hA hK hP hD hS ls hl Q hQ
  have hl : lv_has ls 4 [(0, .ref h), (1, .int q), (2, .int k)] := hl
  have hP : va_P D cls ([(h, .inr (1, [.ref r]))]) s.heap := hP
  have hD : va_D A ([(h, .inr (1, [.ref r]))]) := hD
  refine lv_aload_n hx hb d_hh_get_0 rfl (lv_at hl 0 rfl) ?_
  refine lv_iload_n hx hb d_hh_get_1 rfl (lv_at hl 1 rfl) ?_
  refine cg_V (hn := 1) (As := [.int q]) (rest := []) (wr := []) (q0 := 0) (ci := 1) hx hb hml hown hts (c_hh_tableOf_x l D cI cT cP h r q hq) km_hh_18 ki_hh_tableOf ks_hh_tableOf kn_hh kc_hh_tableOf (by decide +kernel) rfl ⟨Nat.le_of_ble_eq_true rfl, Nat.le_of_ble_eq_true rfl⟩ hK hP hD hS hA [0] [] rfl (by decide) rfl (by decide) (by decide) rfl rfl hl.1 rfl (Nat.le_of_ble_eq_true rfl) d_hh_get_2 ⟨Nat.zero_le _, Nat.zero_le _⟩ (fun v u H locs hpost hP hD hS => ?_)
  subst hpost
  refine W.eq (g2 := F0 m 5 ls [.null]) rfl ?_
  have hP : va_P D cls ([(h, .inr (1, [.ref r]))]) H := hP
  have hD : va_D A ([(h, .inr (1, [.ref r]))]) := hD
  refine lv_astore_nN (lv' := [(3, .null), (0, .ref h), (1, .int q), (2, .int k)]) hx hb d_hh_get_5 rfl hl (by decide) rfl (fun ls hl => ?_)
  refine lv_aload_nN hx hb d_hh_get_6 rfl (lv_at hl 0 rfl) ?_
  refine lv_ifnonnullN hx hb d_hh_get_7 ?_
  refine lv_ldc2 hx hb hown (hts _ kk_hh_22) d_hh_get_10 ?_
  refine lv_goto (tgt := 21) hx hb d_hh_get_13 (by decide) ?_
  exact cg_lret (u := ()) hQ hx hb hr hlk hK hP hD hS rfl d_hh_get_21
set_option maxRecDepth 100000 in
set_option maxHeartbeats 4000000 in
/-- give -/
theorem c_hh_give (l : Launch) (D : va_G) (cI cT cP : ClassId) (h r : Nat) (ft : Nat → Option Nat) (km : Nat) (hkm : km < 3) (a : Nat) (hft : ft km = some a) (mv : Bool) (j : Nat) (L : List (Int32 × Int32)) (u0 : TB) (hL : TL j L u0) (k o : Int32) : Cg l y_hh_give b_hh_give 7 (some .long) 3 0 0 D (ty3 cI cT cP) [.ref h, .int (nI km), .int k, .int o] ([(h, .inr (1, [.ref r])), (r, .inl (cT, 3, .inr (.inr (.inr (.inr ft)))))] ++ (tw cI a mv j u0)) (fun (v : Option Value) (u : TB) => v = some (.long (gv o (lk k L))) ∧ TL j (us mv k L) u) (fun u => [(h, .inr (1, [.ref r])), (r, .inl (cT, 3, .inr (.inr (.inr (.inr ft)))))] ++ (tw cI a mv j u)) := by
  refine cg_enter rfl (Nat.le_of_ble_eq_true rfl) ?_
  intro p e s m below meth c args hx hb hr hlk hml hown hin hts A hA hK hP hD hS ls hl Q hQ
  have hl : lv_has ls 7 [(0, .ref h), (1, .int (nI km)), (2, .int k), (3, .int o)] := hl
  have hP : va_P D cls ([(h, .inr (1, [.ref r])), (r, .inl (cT, 3, .inr (.inr (.inr (.inr ft)))))] ++ (tw cI a mv j u0)) s.heap := hP
  have hD : va_D A ([(h, .inr (1, [.ref r])), (r, .inl (cT, 3, .inr (.inr (.inr (.inr ft)))))] ++ (tw cI a mv j u0)) := hD
  refine lv_aload_n hx hb d_hh_give_0 rfl (lv_at hl 0 rfl) ?_
  refine lv_iload_n hx hb d_hh_give_1 rfl (lv_at hl 1 rfl) ?_
  refine cg_V (hn := 1) (As := [.int (nI km)]) (rest := []) (wr := tw cI a mv j u0) (q0 := 0) (ci := 1) hx hb hml hown hts (c_hh_tableOf l D cI cT cP h r ft km hkm a hft) km_hh_18 ki_hh_tableOf ks_hh_tableOf kn_hh kc_hh_tableOf (by decide +kernel) rfl ⟨Nat.le_of_ble_eq_true rfl, Nat.le_of_ble_eq_true rfl⟩ hK hP hD hS hA [0, 1] [2, 3, 4, 5, 6, 7, 8] rfl (by decide) rfl (by decide) (by decide) rfl rfl hl.1 rfl (Nat.le_of_ble_eq_true rfl) d_hh_give_2 ⟨Nat.zero_le _, Nat.zero_le _⟩ (fun v u H locs hpost hP hD hS => ?_)
  subst hpost
  refine W.eq (g2 := F0 m 5 ls [.ref a]) rfl ?_
  have hP : va_P D cls ((tw cI a mv j u0) ++ [(h, .inr (1, [.ref r])), (r, .inl (cT, 3, .inr (.inr (.inr (.inr ft)))))]) H := hP
  have hD : va_D A ((tw cI a mv j u0) ++ [(h, .inr (1, [.ref r])), (r, .inl (cT, 3, .inr (.inr (.inr (.inr ft)))))]) := hD
  have hP : va_P D cls ([(h, .inr (1, [.ref r])), (r, .inl (cT, 3, .inr (.inr (.inr (.inr ft)))))] ++ (tw cI a mv j u0)) H := hP.sub [7, 8, 0, 1, 2, 3, 4, 5, 6] rfl
  have hD : va_D A ([(h, .inr (1, [.ref r])), (r, .inl (cT, 3, .inr (.inr (.inr (.inr ft)))))] ++ (tw cI a mv j u0)) := hD.sub [7, 8, 0, 1, 2, 3, 4, 5, 6] (by decide) rfl
  refine lv_astore (lv' := [(4, .ref a), (0, .ref h), (1, .int (nI km)), (2, .int k), (3, .int o)]) hx hb d_hh_give_5 hl (by decide) rfl (fun ls hl => ?_)
  refine lv_aload hx hb d_hh_give_7 (lv_at hl 0 rfl) ?_
  refine lv_ifnonnull (tgt := 16) hx hb d_hh_give_9 (by decide) ?_
  refine lv_aload hx hb d_hh_give_16 (lv_at hl 0 rfl) ?_
  refine lv_iload_n hx hb d_hh_give_18 rfl (lv_at hl 3 rfl) ?_
  refine cg_V (hn := 1) (As := [.int k]) (rest := []) (wr := [(h, .inr (1, [.ref r])), (r, .inl (cT, 3, .inr (.inr (.inr (.inr ft)))))]) (q0 := 0) (ci := 0) hx hb hml hown hts (c_tb_lookUp l D cI cT cP a mv j L u0 hL k) km_hh_31 ki_tb_lookUp ks_tb_lookUp kn_tb kc_tb_lookUp (by decide +kernel) rfl ⟨Nat.le_of_ble_eq_true rfl, Nat.le_of_ble_eq_true rfl⟩ hK hP hD hS hA [2, 3, 4, 5, 6, 7, 8] [0, 1] rfl (by decide) rfl (by decide) (by decide) rfl rfl hl.1 rfl (Nat.le_of_ble_eq_true rfl) d_hh_give_19 ⟨Nat.zero_le _, Nat.zero_le _⟩ (fun v u H locs hpost hP hD hS => ?_)
  obtain ⟨e9, hT2⟩ := hpost
  subst e9
  refine W.eq (g2 := F0 m 22 ls [.long (an (lk k L))]) rfl ?_
  have hP : va_P D cls ([(h, .inr (1, [.ref r])), (r, .inl (cT, 3, .inr (.inr (.inr (.inr ft)))))] ++ (tw cI a mv j u)) H := hP
  have hD : va_D A ([(h, .inr (1, [.ref r])), (r, .inl (cT, 3, .inr (.inr (.inr (.inr ft)))))] ++ (tw cI a mv j u)) := hD
  refine lv_lstore (lv' := [(5, .long (an (lk k L))), (4, .ref a), (0, .ref h), (1, .int (nI km)), (2, .int k), (3, .int o)]) hx hb d_hh_give_22 hl (by decide) rfl (fun ls hl => ?_)
  refine lv_lload hx hb d_hh_give_24 (lv_at hl 0 rfl) ?_
  refine lv_ldc2 hx hb hown (hts _ kk_hh_35) d_hh_give_26 ?_
  refine W.lcmp hx hb d_hh_give_29 ?_
  refine lv_if_ne (tgt := 38) hx hb d_hh_give_30 (by decide) (fun c1 => ?_) (fun c1 => ?_)
  · refine lv_lload hx hb d_hh_give_38 (lv_at hl 0 rfl) ?_
    exact cg_lret (u := u) hQ hx hb hr hlk hK hP hD hS (⟨by rw [gv_an, if_neg (fun z9 => c1 (lg_eq.mpr z9))], hT2⟩) d_hh_give_40
  · refine lv_iload_n hx hb d_hh_give_33 rfl (lv_at hl 5 rfl) ?_
    refine lv_i2l (v := o.toInt64) hx hb d_hh_give_34 rfl ?_
    refine lv_goto (tgt := 40) hx hb d_hh_give_35 (by decide) ?_
    exact cg_lret (u := u) hQ hx hb hr hlk hK hP hD hS (⟨by rw [gv_an, if_pos (lg_eq.mp c1)], hT2⟩) d_hh_give_40
set_option maxRecDepth 100000 in
set_option maxHeartbeats 4000000 in
theorem c_hh_give_x (l : Launch) (D : va_G) (cI cT cP : ClassId) (h r : Nat) (q : Int32) (hq : bad q) (k o : Int32) : Cg l y_hh_give b_hh_give 7 (some .long) 3 0 0 D (ty3 cI cT cP) [.ref h, .int q, .int k, .int o] ([(h, .inr (1, [.ref r]))]) (fun (v : Option Value) (u : Unit) => v = some (.long 1099511627777)) (fun u => [(h, .inr (1, [.ref r]))]) := by
  refine cg_enter rfl (Nat.le_of_ble_eq_true rfl) ?_
  intro p e s m below meth c args hx hb hr hlk hml hown hin hts A hA hK hP hD hS ls hl Q hQ
  have hl : lv_has ls 7 [(0, .ref h), (1, .int q), (2, .int k), (3, .int o)] := hl
  have hP : va_P D cls ([(h, .inr (1, [.ref r]))]) s.heap := hP
  have hD : va_D A ([(h, .inr (1, [.ref r]))]) := hD
  refine lv_aload_n hx hb d_hh_give_0 rfl (lv_at hl 0 rfl) ?_
  refine lv_iload_n hx hb d_hh_give_1 rfl (lv_at hl 1 rfl) ?_
  refine cg_V (hn := 1) (As := [.int q]) (rest := []) (wr := []) (q0 := 0) (ci := 1) hx hb hml hown hts (c_hh_tableOf_x l D cI cT cP h r q hq) km_hh_18 ki_hh_tableOf ks_hh_tableOf kn_hh kc_hh_tableOf (by decide +kernel) rfl ⟨Nat.le_of_ble_eq_true rfl, Nat.le_of_ble_eq_true rfl⟩ hK hP hD hS hA [0] [] rfl (by decide) rfl (by decide) (by decide) rfl rfl hl.1 rfl (Nat.le_of_ble_eq_true rfl) d_hh_give_2 ⟨Nat.zero_le _, Nat.zero_le _⟩ (fun v u H locs hpost hP hD hS => ?_)
  subst hpost
  refine W.eq (g2 := F0 m 5 ls [.null]) rfl ?_
  have hP : va_P D cls ([(h, .inr (1, [.ref r]))]) H := hP
  have hD : va_D A ([(h, .inr (1, [.ref r]))]) := hD
  refine lv_astoreN (lv' := [(4, .null), (0, .ref h), (1, .int q), (2, .int k), (3, .int o)]) hx hb d_hh_give_5 hl (by decide) rfl (fun ls hl => ?_)
  refine lv_aloadN hx hb d_hh_give_7 (lv_at hl 0 rfl) ?_
  refine lv_ifnonnullN hx hb d_hh_give_9 ?_
  refine lv_ldc2 hx hb hown (hts _ kk_hh_22) d_hh_give_12 ?_
  exact cg_lret (u := ()) hQ hx hb hr hlk hK hP hD hS rfl d_hh_give_15
set_option maxRecDepth 100000 in
set_option maxHeartbeats 4000000 in
/-- remove -/
theorem c_hh_remove (l : Launch) (D : va_G) (cI cT cP : ClassId) (h r : Nat) (ft : Nat → Option Nat) (km : Nat) (hkm : km < 3) (a : Nat) (hft : ft km = some a) (mv : Bool) (j : Nat) (L : List (Int32 × Int32)) (u0 : TB) (hL : TL j L u0) (k : Int32) : Cg l y_hh_remove b_hh_remove 4 (some .long) 4 0 0 D (ty3 cI cT cP) [.ref h, .int (nI km), .int k] ([(h, .inr (1, [.ref r])), (r, .inl (cT, 3, .inr (.inr (.inr (.inr ft)))))] ++ (tw cI a mv j u0)) (fun (v : Option Value) (u : TB) => v = some (.long (an (lk k L))) ∧ TL j (del k L) u) (fun u => [(h, .inr (1, [.ref r])), (r, .inl (cT, 3, .inr (.inr (.inr (.inr ft)))))] ++ (tw cI a mv j u)) := by
  refine cg_enter rfl (Nat.le_of_ble_eq_true rfl) ?_
  intro p e s m below meth c args hx hb hr hlk hml hown hin hts A hA hK hP hD hS ls hl Q hQ
  have hl : lv_has ls 4 [(0, .ref h), (1, .int (nI km)), (2, .int k)] := hl
  have hP : va_P D cls ([(h, .inr (1, [.ref r])), (r, .inl (cT, 3, .inr (.inr (.inr (.inr ft)))))] ++ (tw cI a mv j u0)) s.heap := hP
  have hD : va_D A ([(h, .inr (1, [.ref r])), (r, .inl (cT, 3, .inr (.inr (.inr (.inr ft)))))] ++ (tw cI a mv j u0)) := hD
  refine lv_aload_n hx hb d_hh_remove_0 rfl (lv_at hl 0 rfl) ?_
  refine lv_iload_n hx hb d_hh_remove_1 rfl (lv_at hl 1 rfl) ?_
  refine cg_V (hn := 1) (As := [.int (nI km)]) (rest := []) (wr := tw cI a mv j u0) (q0 := 0) (ci := 1) hx hb hml hown hts (c_hh_tableOf l D cI cT cP h r ft km hkm a hft) km_hh_18 ki_hh_tableOf ks_hh_tableOf kn_hh kc_hh_tableOf (by decide +kernel) rfl ⟨Nat.le_of_ble_eq_true rfl, Nat.le_of_ble_eq_true rfl⟩ hK hP hD hS hA [0, 1] [2, 3, 4, 5, 6, 7, 8] rfl (by decide) rfl (by decide) (by decide) rfl rfl hl.1 rfl (Nat.le_of_ble_eq_true rfl) d_hh_remove_2 ⟨Nat.zero_le _, Nat.zero_le _⟩ (fun v u H locs hpost hP hD hS => ?_)
  subst hpost
  refine W.eq (g2 := F0 m 5 ls [.ref a]) rfl ?_
  have hP : va_P D cls ((tw cI a mv j u0) ++ [(h, .inr (1, [.ref r])), (r, .inl (cT, 3, .inr (.inr (.inr (.inr ft)))))]) H := hP
  have hD : va_D A ((tw cI a mv j u0) ++ [(h, .inr (1, [.ref r])), (r, .inl (cT, 3, .inr (.inr (.inr (.inr ft)))))]) := hD
  have hP : va_P D cls ([(h, .inr (1, [.ref r])), (r, .inl (cT, 3, .inr (.inr (.inr (.inr ft)))))] ++ (tw cI a mv j u0)) H := hP.sub [7, 8, 0, 1, 2, 3, 4, 5, 6] rfl
  have hD : va_D A ([(h, .inr (1, [.ref r])), (r, .inl (cT, 3, .inr (.inr (.inr (.inr ft)))))] ++ (tw cI a mv j u0)) := hD.sub [7, 8, 0, 1, 2, 3, 4, 5, 6] (by decide) rfl
  refine lv_astore_n (lv' := [(3, .ref a), (0, .ref h), (1, .int (nI km)), (2, .int k)]) hx hb d_hh_remove_5 rfl hl (by decide) rfl (fun ls hl => ?_)
  refine lv_aload_n hx hb d_hh_remove_6 rfl (lv_at hl 0 rfl) ?_
  refine lv_ifnonnull (tgt := 16) hx hb d_hh_remove_7 (by decide) ?_
  refine lv_aload_n hx hb d_hh_remove_16 rfl (lv_at hl 0 rfl) ?_
  refine lv_iload_n hx hb d_hh_remove_17 rfl (lv_at hl 3 rfl) ?_
  refine cg_V (hn := 1) (As := [.int k]) (rest := []) (wr := [(h, .inr (1, [.ref r])), (r, .inl (cT, 3, .inr (.inr (.inr (.inr ft)))))]) (q0 := 0) (ci := 0) hx hb hml hown hts (c_tb_dropKey l D cI cT cP a mv j L u0 hL k) km_hh_37 ki_tb_dropKey ks_tb_dropKey kn_tb kc_tb_dropKey (by decide +kernel) rfl ⟨Nat.le_of_ble_eq_true rfl, Nat.le_of_ble_eq_true rfl⟩ hK hP hD hS hA [2, 3, 4, 5, 6, 7, 8] [0, 1] rfl (by decide) rfl (by decide) (by decide) rfl rfl hl.1 rfl (Nat.le_of_ble_eq_true rfl) d_hh_remove_18 ⟨Nat.zero_le _, Nat.zero_le _⟩ (fun v u H locs hpost hP hD hS => ?_)
  obtain ⟨e9, hT2⟩ := hpost
  subst e9
  refine W.eq (g2 := F0 m 21 ls [.long (an (lk k L))]) rfl ?_
  have hP : va_P D cls ([(h, .inr (1, [.ref r])), (r, .inl (cT, 3, .inr (.inr (.inr (.inr ft)))))] ++ (tw cI a mv j u)) H := hP
  have hD : va_D A ([(h, .inr (1, [.ref r])), (r, .inl (cT, 3, .inr (.inr (.inr (.inr ft)))))] ++ (tw cI a mv j u)) := hD
  exact cg_lret (u := u) hQ hx hb hr hlk hK hP hD hS (⟨rfl, hT2⟩) d_hh_remove_21
set_option maxRecDepth 100000 in
set_option maxHeartbeats 4000000 in
theorem c_hh_remove_x (l : Launch) (D : va_G) (cI cT cP : ClassId) (h r : Nat) (q : Int32) (hq : bad q) (k : Int32) : Cg l y_hh_remove b_hh_remove 4 (some .long) 4 0 0 D (ty3 cI cT cP) [.ref h, .int q, .int k] ([(h, .inr (1, [.ref r]))]) (fun (v : Option Value) (u : Unit) => v = some (.long 1099511627777)) (fun u => [(h, .inr (1, [.ref r]))]) := by
  refine cg_enter rfl (Nat.le_of_ble_eq_true rfl) ?_
  intro p e s m below meth c args hx hb hr hlk hml hown hin hts A hA hK hP hD hS ls hl Q hQ
  have hl : lv_has ls 4 [(0, .ref h), (1, .int q), (2, .int k)] := hl
  have hP : va_P D cls ([(h, .inr (1, [.ref r]))]) s.heap := hP
  have hD : va_D A ([(h, .inr (1, [.ref r]))]) := hD
  refine lv_aload_n hx hb d_hh_remove_0 rfl (lv_at hl 0 rfl) ?_
  refine lv_iload_n hx hb d_hh_remove_1 rfl (lv_at hl 1 rfl) ?_
  refine cg_V (hn := 1) (As := [.int q]) (rest := []) (wr := []) (q0 := 0) (ci := 1) hx hb hml hown hts (c_hh_tableOf_x l D cI cT cP h r q hq) km_hh_18 ki_hh_tableOf ks_hh_tableOf kn_hh kc_hh_tableOf (by decide +kernel) rfl ⟨Nat.le_of_ble_eq_true rfl, Nat.le_of_ble_eq_true rfl⟩ hK hP hD hS hA [0] [] rfl (by decide) rfl (by decide) (by decide) rfl rfl hl.1 rfl (Nat.le_of_ble_eq_true rfl) d_hh_remove_2 ⟨Nat.zero_le _, Nat.zero_le _⟩ (fun v u H locs hpost hP hD hS => ?_)
  subst hpost
  refine W.eq (g2 := F0 m 5 ls [.null]) rfl ?_
  have hP : va_P D cls ([(h, .inr (1, [.ref r]))]) H := hP
  have hD : va_D A ([(h, .inr (1, [.ref r]))]) := hD
  refine lv_astore_nN (lv' := [(3, .null), (0, .ref h), (1, .int q), (2, .int k)]) hx hb d_hh_remove_5 rfl hl (by decide) rfl (fun ls hl => ?_)
  refine lv_aload_nN hx hb d_hh_remove_6 rfl (lv_at hl 0 rfl) ?_
  refine lv_ifnonnullN hx hb d_hh_remove_7 ?_
  refine lv_ldc2 hx hb hown (hts _ kk_hh_22) d_hh_remove_10 ?_
  refine lv_goto (tgt := 21) hx hb d_hh_remove_13 (by decide) ?_
  exact cg_lret (u := ()) hQ hx hb hr hlk hK hP hD hS rfl d_hh_remove_21
set_option maxRecDepth 100000 in
set_option maxHeartbeats 4000000 in
/-- take -/
theorem c_hh_take (l : Launch) (D : va_G) (cI cT cP : ClassId) (h r : Nat) (ft : Nat → Option Nat) (km : Nat) (hkm : km < 3) (a : Nat) (hft : ft km = some a) (mv : Bool) (j : Nat) (L : List (Int32 × Int32)) (u0 : TB) (hL : TL j L u0) (k v0 : Int32) : Cg l y_hh_take b_hh_take 5 (some .boolean) 4 0 0 D (ty3 cI cT cP) [.ref h, .int (nI km), .int k, .int v0] ([(h, .inr (1, [.ref r])), (r, .inl (cT, 3, .inr (.inr (.inr (.inr ft)))))] ++ (tw cI a mv j u0)) (fun (v : Option Value) (u : TB) => v = some (.int (zI (decide (lk k L = some v0)))) ∧ TL j (tk k v0 L) u) (fun u => [(h, .inr (1, [.ref r])), (r, .inl (cT, 3, .inr (.inr (.inr (.inr ft)))))] ++ (tw cI a mv j u)) := by
  refine cg_enter rfl (Nat.le_of_ble_eq_true rfl) ?_
  intro p e s m below meth c args hx hb hr hlk hml hown hin hts A hA hK hP hD hS ls hl Q hQ
  have hl : lv_has ls 5 [(0, .ref h), (1, .int (nI km)), (2, .int k), (3, .int v0)] := hl
  have hP : va_P D cls ([(h, .inr (1, [.ref r])), (r, .inl (cT, 3, .inr (.inr (.inr (.inr ft)))))] ++ (tw cI a mv j u0)) s.heap := hP
  have hD : va_D A ([(h, .inr (1, [.ref r])), (r, .inl (cT, 3, .inr (.inr (.inr (.inr ft)))))] ++ (tw cI a mv j u0)) := hD
  refine lv_aload_n hx hb d_hh_take_0 rfl (lv_at hl 0 rfl) ?_
  refine lv_iload_n hx hb d_hh_take_1 rfl (lv_at hl 1 rfl) ?_
  refine cg_V (hn := 1) (As := [.int (nI km)]) (rest := []) (wr := tw cI a mv j u0) (q0 := 0) (ci := 1) hx hb hml hown hts (c_hh_tableOf l D cI cT cP h r ft km hkm a hft) km_hh_18 ki_hh_tableOf ks_hh_tableOf kn_hh kc_hh_tableOf (by decide +kernel) rfl ⟨Nat.le_of_ble_eq_true rfl, Nat.le_of_ble_eq_true rfl⟩ hK hP hD hS hA [0, 1] [2, 3, 4, 5, 6, 7, 8] rfl (by decide) rfl (by decide) (by decide) rfl rfl hl.1 rfl (Nat.le_of_ble_eq_true rfl) d_hh_take_2 ⟨Nat.zero_le _, Nat.zero_le _⟩ (fun v u H locs hpost hP hD hS => ?_)
  subst hpost
  refine W.eq (g2 := F0 m 5 ls [.ref a]) rfl ?_
  have hP : va_P D cls ((tw cI a mv j u0) ++ [(h, .inr (1, [.ref r])), (r, .inl (cT, 3, .inr (.inr (.inr (.inr ft)))))]) H := hP
  have hD : va_D A ((tw cI a mv j u0) ++ [(h, .inr (1, [.ref r])), (r, .inl (cT, 3, .inr (.inr (.inr (.inr ft)))))]) := hD
  have hP : va_P D cls ([(h, .inr (1, [.ref r])), (r, .inl (cT, 3, .inr (.inr (.inr (.inr ft)))))] ++ (tw cI a mv j u0)) H := hP.sub [7, 8, 0, 1, 2, 3, 4, 5, 6] rfl
  have hD : va_D A ([(h, .inr (1, [.ref r])), (r, .inl (cT, 3, .inr (.inr (.inr (.inr ft)))))] ++ (tw cI a mv j u0)) := hD.sub [7, 8, 0, 1, 2, 3, 4, 5, 6] (by decide) rfl
  refine lv_astore (lv' := [(4, .ref a), (0, .ref h), (1, .int (nI km)), (2, .int k), (3, .int v0)]) hx hb d_hh_take_5 hl (by decide) rfl (fun ls hl => ?_)
  refine lv_aload hx hb d_hh_take_7 (lv_at hl 0 rfl) ?_
  refine lv_ifnull hx hb d_hh_take_9 ?_
  refine lv_aload hx hb d_hh_take_12 (lv_at hl 0 rfl) ?_
  refine lv_iload_n hx hb d_hh_take_14 rfl (lv_at hl 3 rfl) ?_
  refine lv_iload_n hx hb d_hh_take_15 rfl (lv_at hl 4 rfl) ?_
  refine cg_V (hn := 2) (As := [.int k, .int v0]) (rest := []) (wr := [(h, .inr (1, [.ref r])), (r, .inl (cT, 3, .inr (.inr (.inr (.inr ft)))))]) (q0 := 0) (ci := 0) hx hb hml hown hts (c_tb_dropPair l D cI cT cP a mv j L u0 hL k v0) km_hh_40 ki_tb_dropPair ks_tb_dropPair kn_tb kc_tb_dropPair (by decide +kernel) rfl ⟨Nat.le_of_ble_eq_true rfl, Nat.le_of_ble_eq_true rfl⟩ hK hP hD hS hA [2, 3, 4, 5, 6, 7, 8] [0, 1] rfl (by decide) rfl (by decide) (by decide) rfl rfl hl.1 rfl (Nat.le_of_ble_eq_true rfl) d_hh_take_16 ⟨Nat.zero_le _, Nat.zero_le _⟩ (fun v u H locs hpost hP hD hS => ?_)
  obtain ⟨e9, hT2⟩ := hpost
  subst e9
  refine W.eq (g2 := F0 m 19 ls [.int (zI (decide (lk k L = some v0)))]) rfl ?_
  have hP : va_P D cls ([(h, .inr (1, [.ref r])), (r, .inl (cT, 3, .inr (.inr (.inr (.inr ft)))))] ++ (tw cI a mv j u)) H := hP
  have hD : va_D A ([(h, .inr (1, [.ref r])), (r, .inl (cT, 3, .inr (.inr (.inr (.inr ft)))))] ++ (tw cI a mv j u)) := hD
  generalize hbb : decide (lk k L = some v0) = bb
  cases bb with
  | false =>
    refine lv_if_eq (tgt := 26) hx hb d_hh_take_19 (by decide) (fun _ => ?_) (fun z9 => absurd rfl z9)
    refine lv_iconst (v := 0) hx hb d_hh_take_26 (by decide) ?_
    exact cg_zret (u := u) hQ hx hb hr hlk hK hP hD hS rfl (⟨by rw [hbb]; rfl, hT2⟩) d_hh_take_27
  | true =>
    refine lv_if_eq (tgt := 26) hx hb d_hh_take_19 (by decide) (fun z9 => absurd z9 (by decide)) (fun _ => ?_)
    refine lv_iconst (v := 1) hx hb d_hh_take_22 (by decide) ?_
    refine lv_goto (tgt := 27) hx hb d_hh_take_23 (by decide) ?_
    exact cg_zret (u := u) hQ hx hb hr hlk hK hP hD hS rfl (⟨by rw [hbb]; rfl, hT2⟩) d_hh_take_27
set_option maxRecDepth 100000 in
set_option maxHeartbeats 4000000 in
theorem c_hh_take_x (l : Launch) (D : va_G) (cI cT cP : ClassId) (h r : Nat) (q : Int32) (hq : bad q) (k v0 : Int32) : Cg l y_hh_take b_hh_take 5 (some .boolean) 4 0 0 D (ty3 cI cT cP) [.ref h, .int q, .int k, .int v0] ([(h, .inr (1, [.ref r]))]) (fun (v : Option Value) (u : Unit) => v = some (.int 0)) (fun u => [(h, .inr (1, [.ref r]))]) := by
  refine cg_enter rfl (Nat.le_of_ble_eq_true rfl) ?_
  intro p e s m below meth c args hx hb hr hlk hml hown hin hts A hA hK hP hD hS ls hl Q hQ
  have hl : lv_has ls 5 [(0, .ref h), (1, .int q), (2, .int k), (3, .int v0)] := hl
  have hP : va_P D cls ([(h, .inr (1, [.ref r]))]) s.heap := hP
  have hD : va_D A ([(h, .inr (1, [.ref r]))]) := hD
  refine lv_aload_n hx hb d_hh_take_0 rfl (lv_at hl 0 rfl) ?_
  refine lv_iload_n hx hb d_hh_take_1 rfl (lv_at hl 1 rfl) ?_
  refine cg_V (hn := 1) (As := [.int q]) (rest := []) (wr := []) (q0 := 0) (ci := 1) hx hb hml hown hts (c_hh_tableOf_x l D cI cT cP h r q hq) km_hh_18 ki_hh_tableOf ks_hh_tableOf kn_hh kc_hh_tableOf (by decide +kernel) rfl ⟨Nat.le_of_ble_eq_true rfl, Nat.le_of_ble_eq_true rfl⟩ hK hP hD hS hA [0] [] rfl (by decide) rfl (by decide) (by decide) rfl rfl hl.1 rfl (Nat.le_of_ble_eq_true rfl) d_hh_take_2 ⟨Nat.zero_le _, Nat.zero_le _⟩ (fun v u H locs hpost hP hD hS => ?_)
  subst hpost
  refine W.eq (g2 := F0 m 5 ls [.null]) rfl ?_
  have hP : va_P D cls ([(h, .inr (1, [.ref r]))]) H := hP
  have hD : va_D A ([(h, .inr (1, [.ref r]))]) := hD
  refine lv_astoreN (lv' := [(4, .null), (0, .ref h), (1, .int q), (2, .int k), (3, .int v0)]) hx hb d_hh_take_5 hl (by decide) rfl (fun ls hl => ?_)
  refine lv_aloadN hx hb d_hh_take_7 (lv_at hl 0 rfl) ?_
  refine lv_ifnullN (tgt := 26) hx hb d_hh_take_9 (by decide) ?_
  refine lv_iconst (v := 0) hx hb d_hh_take_26 (by decide) ?_
  exact cg_zret (u := ()) hQ hx hb hr hlk hK hP hD hS rfl rfl d_hh_take_27
end
section
-- HashHall (2): printed by wip/whole/gen/hh2.py
theorem zI_nar (b : Bool) : narrow .boolean (.int (zI b)) = .int (zI b) := by cases b <;> rfl
/-- the entry at a place -/
def at_ (q : Int32) (L : List (Int32 × Int32)) : Option (Int32 × Int32) := if q < 0 then none else L[q.toNatClampNeg]?
def eyo (w : Int32) : Option (Int32 × Int32) → Int64
  | none => 1099511627776
  | some e => if w = 0 then e.1.toInt64 else e.2.toInt64
theorem eyo_k {w : Int32} {e : Int32 × Int32} (h : w = 0) : eyo w (some e) = e.1.toInt64 := if_pos h
theorem eyo_v {w : Int32} {e : Int32 × Int32} (h : ¬ w = 0) : eyo w (some e) = e.2.toInt64 := if_neg h
def ey (km : Nat) (w q : Int32) (L : List (Int32 × Int32)) : Int64 := if km = 0 ∨ ¬ (w = 0 ∨ w = 1) then 1099511627777 else eyo w (at_ q L)
theorem sa_at {q : Int32} {K V : Nat → Int32} {R : List Nat} {L : List (Int32 × Int32)} (hR : ∀ x, x ∈ R → 1 ≤ x) (e : L = kv K V R) : (sa q R = 0 ∧ at_ q L = none) ∨ (sa q R ∈ R ∧ at_ q L = some (K (sa q R), V (sa q R))) := by
  subst e
  unfold sa at_
  by_cases h : q < 0
  · rw [if_pos h, if_pos h]
    exact Or.inl ⟨rfl, rfl⟩
  · rw [if_neg h, if_neg h]
    by_cases h2 : q.toNatClampNeg < R.length
    · refine Or.inr ⟨?_, ?_⟩
      · rw [List.getD_eq_getElem?_getD, List.getElem?_eq_getElem h2]
        exact List.getElem_mem h2
      · rw [List.getElem?_map, List.getD_eq_getElem?_getD, List.getElem?_eq_getElem h2]
        rfl
    · refine Or.inl ⟨?_, ?_⟩
      · rw [List.getD_eq_getElem?_getD, List.getElem?_eq_none (by omega)]
        rfl
      · rw [List.getElem?_map, List.getElem?_eq_none (by omega)]
        rfl
def swa (d r : Int32) (L : List (Int32 × Int32)) : Int32 := if 1 ≤ d then nI (L.length - (sw d r L).length) else -1
def swl (d r : Int32) (L : List (Int32 × Int32)) : List (Int32 × Int32) := if 1 ≤ d then sw d r L else L
set_option maxRecDepth 100000 in
set_option maxHeartbeats 4000000 in
/-- has -/
theorem c_hh_has (l : Launch) (D : va_G) (cI cT cP : ClassId) (h r : Nat) (ft : Nat → Option Nat) (km : Nat) (hkm : km < 3) (a : Nat) (hft : ft km = some a) (mv : Bool) (j : Nat) (L : List (Int32 × Int32)) (u0 : TB) (hL : TL j L u0) (w0 x0 : Int32) : Cg l y_hh_has b_hh_has 5 (some .boolean) 3 0 0 D (ty3 cI cT cP) [.ref h, .int (nI km), .int w0, .int x0] ([(h, .inr (1, [.ref r])), (r, .inl (cT, 3, .inr (.inr (.inr (.inr ft)))))] ++ (tw cI a mv j u0)) (fun (v : Option Value) (u : Unit) => v = some (.int (zI (hs w0 x0 L)))) (fun u => [(h, .inr (1, [.ref r])), (r, .inl (cT, 3, .inr (.inr (.inr (.inr ft)))))] ++ (tw cI a mv j u0)) := by
  refine cg_enter rfl (Nat.le_of_ble_eq_true rfl) ?_
  intro p e s m below meth c args hx hb hr hlk hml hown hin hts A hA hK hP hD hS ls hl Q hQ
  have hl : lv_has ls 5 [(0, .ref h), (1, .int (nI km)), (2, .int w0), (3, .int x0)] := hl
  have hP : va_P D cls ([(h, .inr (1, [.ref r])), (r, .inl (cT, 3, .inr (.inr (.inr (.inr ft)))))] ++ (tw cI a mv j u0)) s.heap := hP
  have hD : va_D A ([(h, .inr (1, [.ref r])), (r, .inl (cT, 3, .inr (.inr (.inr (.inr ft)))))] ++ (tw cI a mv j u0)) := hD
  refine lv_aload_n hx hb d_hh_has_0 rfl (lv_at hl 0 rfl) ?_
  refine lv_iload_n hx hb d_hh_has_1 rfl (lv_at hl 1 rfl) ?_
  refine cg_V (hn := 1) (As := [.int (nI km)]) (rest := []) (wr := tw cI a mv j u0) (q0 := 0) (ci := 1) hx hb hml hown hts (c_hh_tableOf l D cI cT cP h r ft km hkm a hft) km_hh_18 ki_hh_tableOf ks_hh_tableOf kn_hh kc_hh_tableOf (by decide +kernel) rfl ⟨Nat.le_of_ble_eq_true rfl, Nat.le_of_ble_eq_true rfl⟩ hK hP hD hS hA [0, 1] [2, 3, 4, 5, 6, 7, 8] rfl (by decide) rfl (by decide) (by decide) rfl rfl hl.1 rfl (Nat.le_of_ble_eq_true rfl) d_hh_has_2 ⟨Nat.zero_le _, Nat.zero_le _⟩ (fun v u H locs hpost hP hD hS => ?_)
  subst hpost
  refine W.eq (g2 := F0 m 5 ls [.ref a]) rfl ?_
  have hP : va_P D cls ((tw cI a mv j u0) ++ [(h, .inr (1, [.ref r])), (r, .inl (cT, 3, .inr (.inr (.inr (.inr ft)))))]) H := hP
  have hD : va_D A ((tw cI a mv j u0) ++ [(h, .inr (1, [.ref r])), (r, .inl (cT, 3, .inr (.inr (.inr (.inr ft)))))]) := hD
  have hP : va_P D cls ([(h, .inr (1, [.ref r])), (r, .inl (cT, 3, .inr (.inr (.inr (.inr ft)))))] ++ (tw cI a mv j u0)) H := hP.sub [7, 8, 0, 1, 2, 3, 4, 5, 6] rfl
  have hD : va_D A ([(h, .inr (1, [.ref r])), (r, .inl (cT, 3, .inr (.inr (.inr (.inr ft)))))] ++ (tw cI a mv j u0)) := hD.sub [7, 8, 0, 1, 2, 3, 4, 5, 6] (by decide) rfl
  refine lv_astore (lv' := [(4, .ref a), (0, .ref h), (1, .int (nI km)), (2, .int w0), (3, .int x0)]) hx hb d_hh_has_5 hl (by decide) rfl (fun ls hl => ?_)
  refine lv_aload hx hb d_hh_has_7 (lv_at hl 0 rfl) ?_
  refine lv_ifnonnull (tgt := 14) hx hb d_hh_has_9 (by decide) ?_
  refine lv_iload_n hx hb d_hh_has_14 rfl (lv_at hl 3 rfl) ?_
  by_cases h0 : w0 = 0
  · refine lv_if_ne (tgt := 25) hx hb d_hh_has_15 (by decide) (fun z9 => absurd h0 z9) (fun _ => ?_)
    refine lv_aload hx hb d_hh_has_18 (lv_at hl 0 rfl) ?_
    refine lv_iload_n hx hb d_hh_has_20 rfl (lv_at hl 4 rfl) ?_
    refine cg_V (hn := 1) (As := [.int x0]) (rest := []) (wr := [(h, .inr (1, [.ref r])), (r, .inl (cT, 3, .inr (.inr (.inr (.inr ft)))))]) (q0 := 0) (ci := 0) hx hb hml hown hts (c_tb_holdsKey l D cI cT cP a mv j L u0 hL x0) km_hh_44 ki_tb_holdsKey ks_tb_holdsKey kn_tb kc_tb_holdsKey (by decide +kernel) rfl ⟨Nat.le_of_ble_eq_true rfl, Nat.le_of_ble_eq_true rfl⟩ hK hP hD hS hA [2, 3, 4, 5, 6, 7, 8] [0, 1] rfl (by decide) rfl (by decide) (by decide) rfl rfl hl.1 rfl (Nat.le_of_ble_eq_true rfl) d_hh_has_21 ⟨Nat.zero_le _, Nat.zero_le _⟩ (fun v u H locs hpost hP hD hS => ?_)
    subst hpost
    refine W.eq (g2 := F0 m 24 ls [.int (zI (lk x0 L).isSome)]) rfl ?_
    have hP : va_P D cls ([(h, .inr (1, [.ref r])), (r, .inl (cT, 3, .inr (.inr (.inr (.inr ft)))))] ++ (tw cI a mv j u0)) H := hP
    have hD : va_D A ([(h, .inr (1, [.ref r])), (r, .inl (cT, 3, .inr (.inr (.inr (.inr ft)))))] ++ (tw cI a mv j u0)) := hD
    exact cg_zret (u := ()) hQ hx hb hr hlk hK hP hD hS (zI_nar _) (by unfold hs; rw [if_pos h0]) d_hh_has_24
  · refine lv_if_ne (tgt := 25) hx hb d_hh_has_15 (by decide) (fun _ => ?_) (fun z9 => absurd z9 h0)
    refine lv_iload_n hx hb d_hh_has_25 rfl (lv_at hl 3 rfl) ?_
    refine lv_iconst (v := 1) hx hb d_hh_has_26 (by decide) ?_
    by_cases h1 : w0 = 1
    · refine lv_icmp_ne (tgt := 43) hx hb d_hh_has_27 (by decide) (fun z9 => absurd h1 z9) (fun _ => ?_)
      refine lv_aload hx hb d_hh_has_30 (lv_at hl 0 rfl) ?_
      refine lv_iload_n hx hb d_hh_has_32 rfl (lv_at hl 4 rfl) ?_
      refine cg_V (hn := 1) (As := [.int x0]) (rest := []) (wr := [(h, .inr (1, [.ref r])), (r, .inl (cT, 3, .inr (.inr (.inr (.inr ft)))))]) (q0 := 0) (ci := 0) hx hb hml hown hts (c_tb_holdsValue l D cI cT cP a mv j L u0 hL x0) km_hh_48 ki_tb_holdsValue ks_tb_holdsValue kn_tb kc_tb_holdsValue (by decide +kernel) rfl ⟨Nat.le_of_ble_eq_true rfl, Nat.le_of_ble_eq_true rfl⟩ hK hP hD hS hA [2, 3, 4, 5, 6, 7, 8] [0, 1] rfl (by decide) rfl (by decide) (by decide) rfl rfl hl.1 rfl (Nat.le_of_ble_eq_true rfl) d_hh_has_33 ⟨Nat.zero_le _, Nat.zero_le _⟩ (fun v u H locs hpost hP hD hS => ?_)
      subst hpost
      refine W.eq (g2 := F0 m 36 ls [.int (zI (hvl x0 L))]) rfl ?_
      have hP : va_P D cls ([(h, .inr (1, [.ref r])), (r, .inl (cT, 3, .inr (.inr (.inr (.inr ft)))))] ++ (tw cI a mv j u0)) H := hP
      have hD : va_D A ([(h, .inr (1, [.ref r])), (r, .inl (cT, 3, .inr (.inr (.inr (.inr ft)))))] ++ (tw cI a mv j u0)) := hD
      generalize hbb : hvl x0 L = bb
      cases bb with
      | false =>
        refine lv_if_eq (tgt := 43) hx hb d_hh_has_36 (by decide) (fun _ => ?_) (fun z9 => absurd rfl z9)
        refine lv_iconst (v := 0) hx hb d_hh_has_43 (by decide) ?_
        exact cg_zret (u := ()) hQ hx hb hr hlk hK hP hD hS rfl (by unfold hs; rw [if_neg h0, if_pos h1, hbb]; rfl) d_hh_has_44
      | true =>
        refine lv_if_eq (tgt := 43) hx hb d_hh_has_36 (by decide) (fun z9 => absurd z9 (by decide)) (fun _ => ?_)
        refine lv_iconst (v := 1) hx hb d_hh_has_39 (by decide) ?_
        refine lv_goto (tgt := 44) hx hb d_hh_has_40 (by decide) ?_
        exact cg_zret (u := ()) hQ hx hb hr hlk hK hP hD hS rfl (by unfold hs; rw [if_neg h0, if_pos h1, hbb]; rfl) d_hh_has_44
    · refine lv_icmp_ne (tgt := 43) hx hb d_hh_has_27 (by decide) (fun _ => ?_) (fun z9 => absurd z9 h1)
      refine lv_iconst (v := 0) hx hb d_hh_has_43 (by decide) ?_
      exact cg_zret (u := ()) hQ hx hb hr hlk hK hP hD hS rfl (by unfold hs; rw [if_neg h0, if_neg h1]; rfl) d_hh_has_44
set_option maxRecDepth 100000 in
set_option maxHeartbeats 4000000 in
theorem c_hh_has_x (l : Launch) (D : va_G) (cI cT cP : ClassId) (h r : Nat) (q : Int32) (hq : bad q) (w0 x0 : Int32) : Cg l y_hh_has b_hh_has 5 (some .boolean) 3 0 0 D (ty3 cI cT cP) [.ref h, .int q, .int w0, .int x0] ([(h, .inr (1, [.ref r]))]) (fun (v : Option Value) (u : Unit) => v = some (.int 0)) (fun u => [(h, .inr (1, [.ref r]))]) := by
  refine cg_enter rfl (Nat.le_of_ble_eq_true rfl) ?_
  intro p e s m below meth c args hx hb hr hlk hml hown hin hts A hA hK hP hD hS ls hl Q hQ
  have hl : lv_has ls 5 [(0, .ref h), (1, .int q), (2, .int w0), (3, .int x0)] := hl
  have hP : va_P D cls ([(h, .inr (1, [.ref r]))]) s.heap := hP
  have hD : va_D A ([(h, .inr (1, [.ref r]))]) := hD
  refine lv_aload_n hx hb d_hh_has_0 rfl (lv_at hl 0 rfl) ?_
  refine lv_iload_n hx hb d_hh_has_1 rfl (lv_at hl 1 rfl) ?_
  refine cg_V (hn := 1) (As := [.int q]) (rest := []) (wr := []) (q0 := 0) (ci := 1) hx hb hml hown hts (c_hh_tableOf_x l D cI cT cP h r q hq) km_hh_18 ki_hh_tableOf ks_hh_tableOf kn_hh kc_hh_tableOf (by decide +kernel) rfl ⟨Nat.le_of_ble_eq_true rfl, Nat.le_of_ble_eq_true rfl⟩ hK hP hD hS hA [0] [] rfl (by decide) rfl (by decide) (by decide) rfl rfl hl.1 rfl (Nat.le_of_ble_eq_true rfl) d_hh_has_2 ⟨Nat.zero_le _, Nat.zero_le _⟩ (fun v u H locs hpost hP hD hS => ?_)
  subst hpost
  refine W.eq (g2 := F0 m 5 ls [.null]) rfl ?_
  have hP : va_P D cls ([(h, .inr (1, [.ref r]))]) H := hP
  have hD : va_D A ([(h, .inr (1, [.ref r]))]) := hD
  refine lv_astoreN (lv' := [(4, .null), (0, .ref h), (1, .int q), (2, .int w0), (3, .int x0)]) hx hb d_hh_has_5 hl (by decide) rfl (fun ls hl => ?_)
  refine lv_aloadN hx hb d_hh_has_7 (lv_at hl 0 rfl) ?_
  refine lv_ifnonnullN hx hb d_hh_has_9 ?_
  refine lv_iconst (v := 0) hx hb d_hh_has_12 (by decide) ?_
  exact cg_zret (u := ()) hQ hx hb hr hlk hK hP hD hS rfl rfl d_hh_has_13
set_option maxRecDepth 100000 in
set_option maxHeartbeats 4000000 in
/-- size -/
theorem c_hh_size (l : Launch) (D : va_G) (cI cT cP : ClassId) (h r : Nat) (ft : Nat → Option Nat) (km : Nat) (hkm : km < 3) (a : Nat) (hft : ft km = some a) (mv : Bool) (j : Nat) (L : List (Int32 × Int32)) (u0 : TB) (hL : TL j L u0) : Cg l y_hh_size b_hh_size 3 (some .int) 1 0 0 D (ty3 cI cT cP) [.ref h, .int (nI km)] ([(h, .inr (1, [.ref r])), (r, .inl (cT, 3, .inr (.inr (.inr (.inr ft)))))] ++ (tw cI a mv j u0)) (fun (v : Option Value) (u : Unit) => v = some (.int (nI L.length))) (fun u => [(h, .inr (1, [.ref r])), (r, .inl (cT, 3, .inr (.inr (.inr (.inr ft)))))] ++ (tw cI a mv j u0)) := by
  obtain ⟨qk, qv, qb, qf, qh, qc, K, V, P, N, G, C, fl, mm, R⟩ := u0
  obtain ⟨Fr, bl, hTA, hTN, hTH, hKn, eL⟩ := hL
  have hTA : TA (2 ^ (4 + j)) j mm R Fr := hTA
  have hTN : TN P N R := hTN
  have hTH : TH (2 ^ (4 + j)) K G C fl R Fr bl := hTH
  have hKn : (R.map K).Nodup := hKn
  have eL : L = kv K V R := eL
  have hLl : L.length = R.length := by rw [eL]; exact List.length_map ..
  have hn : 2 ^ (4 + j) < 2 ^ 31 := (ta_len hTA).2.2
  have hRl : R.length < 2 ^ 31 := (ta_len hTA).2.1
  refine cg_enter rfl (Nat.le_of_ble_eq_true rfl) ?_
  intro p e s m below meth c args hx hb hr hlk hml hown hin hts A hA hK hP hD hS ls hl Q hQ
  have hl : lv_has ls 3 [(0, .ref h), (1, .int (nI km))] := hl
  have hP : va_P D cls ([(h, .inr (1, [.ref r])), (r, .inl (cT, 3, .inr (.inr (.inr (.inr ft)))))] ++ (tx cI a (mvI mv) (nI R.length) qk qv qb qf qh qc (2 ^ (4 + j)) K V P N G C fl (nI mm))) s.heap := hP
  have hD : va_D A ([(h, .inr (1, [.ref r])), (r, .inl (cT, 3, .inr (.inr (.inr (.inr ft)))))] ++ (tx cI a (mvI mv) (nI R.length) qk qv qb qf qh qc (2 ^ (4 + j)) K V P N G C fl (nI mm))) := hD
  refine lv_aload_n hx hb d_hh_size_0 rfl (lv_at hl 0 rfl) ?_
  refine lv_iload_n hx hb d_hh_size_1 rfl (lv_at hl 1 rfl) ?_
  refine cg_V (hn := 1) (As := [.int (nI km)]) (rest := []) (wr := tx cI a (mvI mv) (nI R.length) qk qv qb qf qh qc (2 ^ (4 + j)) K V P N G C fl (nI mm)) (q0 := 0) (ci := 1) hx hb hml hown hts (c_hh_tableOf l D cI cT cP h r ft km hkm a hft) km_hh_18 ki_hh_tableOf ks_hh_tableOf kn_hh kc_hh_tableOf (by decide +kernel) rfl ⟨Nat.le_of_ble_eq_true rfl, Nat.le_of_ble_eq_true rfl⟩ hK hP hD hS hA [0, 1] [2, 3, 4, 5, 6, 7, 8] rfl (by decide) rfl (by decide) (by decide) rfl rfl hl.1 rfl (Nat.le_of_ble_eq_true rfl) d_hh_size_2 ⟨Nat.zero_le _, Nat.zero_le _⟩ (fun v u H locs hpost hP hD hS => ?_)
  subst hpost
  refine W.eq (g2 := F0 m 5 ls [.ref a]) rfl ?_
  have hP : va_P D cls ((tx cI a (mvI mv) (nI R.length) qk qv qb qf qh qc (2 ^ (4 + j)) K V P N G C fl (nI mm)) ++ [(h, .inr (1, [.ref r])), (r, .inl (cT, 3, .inr (.inr (.inr (.inr ft)))))]) H := hP
  have hD : va_D A ((tx cI a (mvI mv) (nI R.length) qk qv qb qf qh qc (2 ^ (4 + j)) K V P N G C fl (nI mm)) ++ [(h, .inr (1, [.ref r])), (r, .inl (cT, 3, .inr (.inr (.inr (.inr ft)))))]) := hD
  have hP : va_P D cls ([(h, .inr (1, [.ref r])), (r, .inl (cT, 3, .inr (.inr (.inr (.inr ft)))))] ++ (tx cI a (mvI mv) (nI R.length) qk qv qb qf qh qc (2 ^ (4 + j)) K V P N G C fl (nI mm))) H := hP.sub [7, 8, 0, 1, 2, 3, 4, 5, 6] rfl
  have hD : va_D A ([(h, .inr (1, [.ref r])), (r, .inl (cT, 3, .inr (.inr (.inr (.inr ft)))))] ++ (tx cI a (mvI mv) (nI R.length) qk qv qb qf qh qc (2 ^ (4 + j)) K V P N G C fl (nI mm))) := hD.sub [7, 8, 0, 1, 2, 3, 4, 5, 6] (by decide) rfl
  refine lv_astore_n (lv' := [(2, .ref a), (0, .ref h), (1, .int (nI km))]) hx hb d_hh_size_5 rfl hl (by decide) rfl (fun ls hl => ?_)
  refine lv_aload_n hx hb d_hh_size_6 rfl (lv_at hl 0 rfl) ?_
  refine lv_ifnonnull (tgt := 14) hx hb d_hh_size_7 (by decide) ?_
  refine lv_aload_n hx hb d_hh_size_14 rfl (lv_at hl 0 rfl) ?_
  refine va_get (D := D) (ci := 0) (v := .int (nI R.length)) (C := R_tb) (T := F_tb) (N := 10) hx hb hts i_tb hown hK hP 2 rfl rfl 1 (by decide) (hts _ kf_hh_51) (fun _ h9 => h9) rfl d_hh_size_15 ?_
  exact cg_iret (u := ()) hQ hx hb hr hlk hK hP hD hS (by rw [hLl]) d_hh_size_18
set_option maxRecDepth 100000 in
set_option maxHeartbeats 4000000 in
theorem c_hh_size_x (l : Launch) (D : va_G) (cI cT cP : ClassId) (h r : Nat) (q : Int32) (hq : bad q)  : Cg l y_hh_size b_hh_size 3 (some .int) 1 0 0 D (ty3 cI cT cP) [.ref h, .int q] ([(h, .inr (1, [.ref r]))]) (fun (v : Option Value) (u : Unit) => v = some (.int (-1))) (fun u => [(h, .inr (1, [.ref r]))]) := by
  refine cg_enter rfl (Nat.le_of_ble_eq_true rfl) ?_
  intro p e s m below meth c args hx hb hr hlk hml hown hin hts A hA hK hP hD hS ls hl Q hQ
  have hl : lv_has ls 3 [(0, .ref h), (1, .int q)] := hl
  have hP : va_P D cls ([(h, .inr (1, [.ref r]))]) s.heap := hP
  have hD : va_D A ([(h, .inr (1, [.ref r]))]) := hD
  refine lv_aload_n hx hb d_hh_size_0 rfl (lv_at hl 0 rfl) ?_
  refine lv_iload_n hx hb d_hh_size_1 rfl (lv_at hl 1 rfl) ?_
  refine cg_V (hn := 1) (As := [.int q]) (rest := []) (wr := []) (q0 := 0) (ci := 1) hx hb hml hown hts (c_hh_tableOf_x l D cI cT cP h r q hq) km_hh_18 ki_hh_tableOf ks_hh_tableOf kn_hh kc_hh_tableOf (by decide +kernel) rfl ⟨Nat.le_of_ble_eq_true rfl, Nat.le_of_ble_eq_true rfl⟩ hK hP hD hS hA [0] [] rfl (by decide) rfl (by decide) (by decide) rfl rfl hl.1 rfl (Nat.le_of_ble_eq_true rfl) d_hh_size_2 ⟨Nat.zero_le _, Nat.zero_le _⟩ (fun v u H locs hpost hP hD hS => ?_)
  subst hpost
  refine W.eq (g2 := F0 m 5 ls [.null]) rfl ?_
  have hP : va_P D cls ([(h, .inr (1, [.ref r]))]) H := hP
  have hD : va_D A ([(h, .inr (1, [.ref r]))]) := hD
  refine lv_astore_nN (lv' := [(2, .null), (0, .ref h), (1, .int q)]) hx hb d_hh_size_5 rfl hl (by decide) rfl (fun ls hl => ?_)
  refine lv_aload_nN hx hb d_hh_size_6 rfl (lv_at hl 0 rfl) ?_
  refine lv_ifnonnullN hx hb d_hh_size_7 ?_
  refine lv_iconst (v := (-1)) hx hb d_hh_size_10 (by decide) ?_
  refine lv_goto (tgt := 18) hx hb d_hh_size_11 (by decide) ?_
  exact cg_iret (u := ()) hQ hx hb hr hlk hK hP hD hS rfl d_hh_size_18
set_option maxRecDepth 100000 in
set_option maxHeartbeats 4000000 in
/-- clear -/
theorem c_hh_clear (l : Launch) (D : va_G) (cI cT cP : ClassId) (h r : Nat) (ft : Nat → Option Nat) (km : Nat) (hkm : km < 3) (a : Nat) (hft : ft km = some a) (mv : Bool) (j : Nat) (L : List (Int32 × Int32)) (u0 : TB) (hL : TL j L u0) : Cg l y_hh_clear b_hh_clear 3 (some .int) 2 0 0 D (ty3 cI cT cP) [.ref h, .int (nI km)] ([(h, .inr (1, [.ref r])), (r, .inl (cT, 3, .inr (.inr (.inr (.inr ft)))))] ++ (tw cI a mv j u0)) (fun (v : Option Value) (u : TB) => v = some (.int (nI L.length)) ∧ TL j [] u) (fun u => [(h, .inr (1, [.ref r])), (r, .inl (cT, 3, .inr (.inr (.inr (.inr ft)))))] ++ (tw cI a mv j u)) := by
  refine cg_enter rfl (Nat.le_of_ble_eq_true rfl) ?_
  intro p e s m below meth c args hx hb hr hlk hml hown hin hts A hA hK hP hD hS ls hl Q hQ
  have hl : lv_has ls 3 [(0, .ref h), (1, .int (nI km))] := hl
  have hP : va_P D cls ([(h, .inr (1, [.ref r])), (r, .inl (cT, 3, .inr (.inr (.inr (.inr ft)))))] ++ (tw cI a mv j u0)) s.heap := hP
  have hD : va_D A ([(h, .inr (1, [.ref r])), (r, .inl (cT, 3, .inr (.inr (.inr (.inr ft)))))] ++ (tw cI a mv j u0)) := hD
  refine lv_aload_n hx hb d_hh_clear_0 rfl (lv_at hl 0 rfl) ?_
  refine lv_iload_n hx hb d_hh_clear_1 rfl (lv_at hl 1 rfl) ?_
  refine cg_V (hn := 1) (As := [.int (nI km)]) (rest := []) (wr := tw cI a mv j u0) (q0 := 0) (ci := 1) hx hb hml hown hts (c_hh_tableOf l D cI cT cP h r ft km hkm a hft) km_hh_18 ki_hh_tableOf ks_hh_tableOf kn_hh kc_hh_tableOf (by decide +kernel) rfl ⟨Nat.le_of_ble_eq_true rfl, Nat.le_of_ble_eq_true rfl⟩ hK hP hD hS hA [0, 1] [2, 3, 4, 5, 6, 7, 8] rfl (by decide) rfl (by decide) (by decide) rfl rfl hl.1 rfl (Nat.le_of_ble_eq_true rfl) d_hh_clear_2 ⟨Nat.zero_le _, Nat.zero_le _⟩ (fun v u H locs hpost hP hD hS => ?_)
  subst hpost
  refine W.eq (g2 := F0 m 5 ls [.ref a]) rfl ?_
  have hP : va_P D cls ((tw cI a mv j u0) ++ [(h, .inr (1, [.ref r])), (r, .inl (cT, 3, .inr (.inr (.inr (.inr ft)))))]) H := hP
  have hD : va_D A ((tw cI a mv j u0) ++ [(h, .inr (1, [.ref r])), (r, .inl (cT, 3, .inr (.inr (.inr (.inr ft)))))]) := hD
  have hP : va_P D cls ([(h, .inr (1, [.ref r])), (r, .inl (cT, 3, .inr (.inr (.inr (.inr ft)))))] ++ (tw cI a mv j u0)) H := hP.sub [7, 8, 0, 1, 2, 3, 4, 5, 6] rfl
  have hD : va_D A ([(h, .inr (1, [.ref r])), (r, .inl (cT, 3, .inr (.inr (.inr (.inr ft)))))] ++ (tw cI a mv j u0)) := hD.sub [7, 8, 0, 1, 2, 3, 4, 5, 6] (by decide) rfl
  refine lv_astore_n (lv' := [(2, .ref a), (0, .ref h), (1, .int (nI km))]) hx hb d_hh_clear_5 rfl hl (by decide) rfl (fun ls hl => ?_)
  refine lv_aload_n hx hb d_hh_clear_6 rfl (lv_at hl 0 rfl) ?_
  refine lv_ifnonnull (tgt := 14) hx hb d_hh_clear_7 (by decide) ?_
  refine lv_aload_n hx hb d_hh_clear_14 rfl (lv_at hl 0 rfl) ?_
  refine cg_V (hn := 0) (As := []) (rest := []) (wr := [(h, .inr (1, [.ref r])), (r, .inl (cT, 3, .inr (.inr (.inr (.inr ft)))))]) (q0 := 0) (ci := 0) hx hb hml hown hts (c_tb_dropAll l D cI cT cP a mv j L u0 hL) km_hh_55 ki_tb_dropAll ks_tb_dropAll kn_tb kc_tb_dropAll (by decide +kernel) rfl ⟨Nat.le_of_ble_eq_true rfl, Nat.le_of_ble_eq_true rfl⟩ hK hP hD hS hA [2, 3, 4, 5, 6, 7, 8] [0, 1] rfl (by decide) rfl (by decide) (by decide) rfl rfl hl.1 rfl (Nat.le_of_ble_eq_true rfl) d_hh_clear_15 ⟨Nat.zero_le _, Nat.zero_le _⟩ (fun v u H locs hpost hP hD hS => ?_)
  obtain ⟨e9, hT2⟩ := hpost
  subst e9
  refine W.eq (g2 := F0 m 18 ls [.int (nI L.length)]) rfl ?_
  have hP : va_P D cls ([(h, .inr (1, [.ref r])), (r, .inl (cT, 3, .inr (.inr (.inr (.inr ft)))))] ++ (tw cI a mv j u)) H := hP
  have hD : va_D A ([(h, .inr (1, [.ref r])), (r, .inl (cT, 3, .inr (.inr (.inr (.inr ft)))))] ++ (tw cI a mv j u)) := hD
  exact cg_iret (u := u) hQ hx hb hr hlk hK hP hD hS (⟨rfl, hT2⟩) d_hh_clear_18
set_option maxRecDepth 100000 in
set_option maxHeartbeats 4000000 in
theorem c_hh_clear_x (l : Launch) (D : va_G) (cI cT cP : ClassId) (h r : Nat) (q : Int32) (hq : bad q)  : Cg l y_hh_clear b_hh_clear 3 (some .int) 2 0 0 D (ty3 cI cT cP) [.ref h, .int q] ([(h, .inr (1, [.ref r]))]) (fun (v : Option Value) (u : Unit) => v = some (.int (-1))) (fun u => [(h, .inr (1, [.ref r]))]) := by
  refine cg_enter rfl (Nat.le_of_ble_eq_true rfl) ?_
  intro p e s m below meth c args hx hb hr hlk hml hown hin hts A hA hK hP hD hS ls hl Q hQ
  have hl : lv_has ls 3 [(0, .ref h), (1, .int q)] := hl
  have hP : va_P D cls ([(h, .inr (1, [.ref r]))]) s.heap := hP
  have hD : va_D A ([(h, .inr (1, [.ref r]))]) := hD
  refine lv_aload_n hx hb d_hh_clear_0 rfl (lv_at hl 0 rfl) ?_
  refine lv_iload_n hx hb d_hh_clear_1 rfl (lv_at hl 1 rfl) ?_
  refine cg_V (hn := 1) (As := [.int q]) (rest := []) (wr := []) (q0 := 0) (ci := 1) hx hb hml hown hts (c_hh_tableOf_x l D cI cT cP h r q hq) km_hh_18 ki_hh_tableOf ks_hh_tableOf kn_hh kc_hh_tableOf (by decide +kernel) rfl ⟨Nat.le_of_ble_eq_true rfl, Nat.le_of_ble_eq_true rfl⟩ hK hP hD hS hA [0] [] rfl (by decide) rfl (by decide) (by decide) rfl rfl hl.1 rfl (Nat.le_of_ble_eq_true rfl) d_hh_clear_2 ⟨Nat.zero_le _, Nat.zero_le _⟩ (fun v u H locs hpost hP hD hS => ?_)
  subst hpost
  refine W.eq (g2 := F0 m 5 ls [.null]) rfl ?_
  have hP : va_P D cls ([(h, .inr (1, [.ref r]))]) H := hP
  have hD : va_D A ([(h, .inr (1, [.ref r]))]) := hD
  refine lv_astore_nN (lv' := [(2, .null), (0, .ref h), (1, .int q)]) hx hb d_hh_clear_5 rfl hl (by decide) rfl (fun ls hl => ?_)
  refine lv_aload_nN hx hb d_hh_clear_6 rfl (lv_at hl 0 rfl) ?_
  refine lv_ifnonnullN hx hb d_hh_clear_7 ?_
  refine lv_iconst (v := (-1)) hx hb d_hh_clear_10 (by decide) ?_
  refine lv_goto (tgt := 18) hx hb d_hh_clear_11 (by decide) ?_
  exact cg_iret (u := ()) hQ hx hb hr hlk hK hP hD hS rfl d_hh_clear_18
set_option maxRecDepth 100000 in
set_option maxHeartbeats 4000000 in
/-- sum -/
theorem c_hh_sum (l : Launch) (D : va_G) (cI cT cP : ClassId) (h r : Nat) (ft : Nat → Option Nat) (km : Nat) (hkm : km < 3) (a : Nat) (hft : ft km = some a) (mv : Bool) (j : Nat) (L : List (Int32 × Int32)) (u0 : TB) (hL : TL j L u0) : Cg l y_hh_sum b_hh_sum 3 (some .long) 1 0 0 D (ty3 cI cT cP) [.ref h, .int (nI km)] ([(h, .inr (1, [.ref r])), (r, .inl (cT, 3, .inr (.inr (.inr (.inr ft)))))] ++ (tw cI a mv j u0)) (fun (v : Option Value) (u : Unit) => v = some (.long (sm L))) (fun u => [(h, .inr (1, [.ref r])), (r, .inl (cT, 3, .inr (.inr (.inr (.inr ft)))))] ++ (tw cI a mv j u0)) := by
  refine cg_enter rfl (Nat.le_of_ble_eq_true rfl) ?_
  intro p e s m below meth c args hx hb hr hlk hml hown hin hts A hA hK hP hD hS ls hl Q hQ
  have hl : lv_has ls 3 [(0, .ref h), (1, .int (nI km))] := hl
  have hP : va_P D cls ([(h, .inr (1, [.ref r])), (r, .inl (cT, 3, .inr (.inr (.inr (.inr ft)))))] ++ (tw cI a mv j u0)) s.heap := hP
  have hD : va_D A ([(h, .inr (1, [.ref r])), (r, .inl (cT, 3, .inr (.inr (.inr (.inr ft)))))] ++ (tw cI a mv j u0)) := hD
  refine lv_aload_n hx hb d_hh_sum_0 rfl (lv_at hl 0 rfl) ?_
  refine lv_iload_n hx hb d_hh_sum_1 rfl (lv_at hl 1 rfl) ?_
  refine cg_V (hn := 1) (As := [.int (nI km)]) (rest := []) (wr := tw cI a mv j u0) (q0 := 0) (ci := 1) hx hb hml hown hts (c_hh_tableOf l D cI cT cP h r ft km hkm a hft) km_hh_18 ki_hh_tableOf ks_hh_tableOf kn_hh kc_hh_tableOf (by decide +kernel) rfl ⟨Nat.le_of_ble_eq_true rfl, Nat.le_of_ble_eq_true rfl⟩ hK hP hD hS hA [0, 1] [2, 3, 4, 5, 6, 7, 8] rfl (by decide) rfl (by decide) (by decide) rfl rfl hl.1 rfl (Nat.le_of_ble_eq_true rfl) d_hh_sum_2 ⟨Nat.zero_le _, Nat.zero_le _⟩ (fun v u H locs hpost hP hD hS => ?_)
  subst hpost
  refine W.eq (g2 := F0 m 5 ls [.ref a]) rfl ?_
  have hP : va_P D cls ((tw cI a mv j u0) ++ [(h, .inr (1, [.ref r])), (r, .inl (cT, 3, .inr (.inr (.inr (.inr ft)))))]) H := hP
  have hD : va_D A ((tw cI a mv j u0) ++ [(h, .inr (1, [.ref r])), (r, .inl (cT, 3, .inr (.inr (.inr (.inr ft)))))]) := hD
  have hP : va_P D cls ([(h, .inr (1, [.ref r])), (r, .inl (cT, 3, .inr (.inr (.inr (.inr ft)))))] ++ (tw cI a mv j u0)) H := hP.sub [7, 8, 0, 1, 2, 3, 4, 5, 6] rfl
  have hD : va_D A ([(h, .inr (1, [.ref r])), (r, .inl (cT, 3, .inr (.inr (.inr (.inr ft)))))] ++ (tw cI a mv j u0)) := hD.sub [7, 8, 0, 1, 2, 3, 4, 5, 6] (by decide) rfl
  refine lv_astore_n (lv' := [(2, .ref a), (0, .ref h), (1, .int (nI km))]) hx hb d_hh_sum_5 rfl hl (by decide) rfl (fun ls hl => ?_)
  refine lv_aload_n hx hb d_hh_sum_6 rfl (lv_at hl 0 rfl) ?_
  refine lv_ifnonnull (tgt := 16) hx hb d_hh_sum_7 (by decide) ?_
  refine lv_aload_n hx hb d_hh_sum_16 rfl (lv_at hl 0 rfl) ?_
  refine cg_V (hn := 0) (As := []) (rest := []) (wr := [(h, .inr (1, [.ref r])), (r, .inl (cT, 3, .inr (.inr (.inr (.inr ft)))))]) (q0 := 0) (ci := 0) hx hb hml hown hts (c_tb_total l D cI cT cP a mv j L u0 hL) km_hh_78 ki_tb_total ks_tb_total kn_tb kc_tb_total (by decide +kernel) rfl ⟨Nat.le_of_ble_eq_true rfl, Nat.le_of_ble_eq_true rfl⟩ hK hP hD hS hA [2, 3, 4, 5, 6, 7, 8] [0, 1] rfl (by decide) rfl (by decide) (by decide) rfl rfl hl.1 rfl (Nat.le_of_ble_eq_true rfl) d_hh_sum_17 ⟨Nat.zero_le _, Nat.zero_le _⟩ (fun v u H locs hpost hP hD hS => ?_)
  subst hpost
  refine W.eq (g2 := F0 m 20 ls [.long (sm L)]) rfl ?_
  have hP : va_P D cls ([(h, .inr (1, [.ref r])), (r, .inl (cT, 3, .inr (.inr (.inr (.inr ft)))))] ++ (tw cI a mv j u0)) H := hP
  have hD : va_D A ([(h, .inr (1, [.ref r])), (r, .inl (cT, 3, .inr (.inr (.inr (.inr ft)))))] ++ (tw cI a mv j u0)) := hD
  exact cg_lret (u := ()) hQ hx hb hr hlk hK hP hD hS rfl d_hh_sum_20
set_option maxRecDepth 100000 in
set_option maxHeartbeats 4000000 in
theorem c_hh_sum_x (l : Launch) (D : va_G) (cI cT cP : ClassId) (h r : Nat) (q : Int32) (hq : bad q)  : Cg l y_hh_sum b_hh_sum 3 (some .long) 1 0 0 D (ty3 cI cT cP) [.ref h, .int q] ([(h, .inr (1, [.ref r]))]) (fun (v : Option Value) (u : Unit) => v = some (.long 1099511627777)) (fun u => [(h, .inr (1, [.ref r]))]) := by
  refine cg_enter rfl (Nat.le_of_ble_eq_true rfl) ?_
  intro p e s m below meth c args hx hb hr hlk hml hown hin hts A hA hK hP hD hS ls hl Q hQ
  have hl : lv_has ls 3 [(0, .ref h), (1, .int q)] := hl
  have hP : va_P D cls ([(h, .inr (1, [.ref r]))]) s.heap := hP
  have hD : va_D A ([(h, .inr (1, [.ref r]))]) := hD
  refine lv_aload_n hx hb d_hh_sum_0 rfl (lv_at hl 0 rfl) ?_
  refine lv_iload_n hx hb d_hh_sum_1 rfl (lv_at hl 1 rfl) ?_
  refine cg_V (hn := 1) (As := [.int q]) (rest := []) (wr := []) (q0 := 0) (ci := 1) hx hb hml hown hts (c_hh_tableOf_x l D cI cT cP h r q hq) km_hh_18 ki_hh_tableOf ks_hh_tableOf kn_hh kc_hh_tableOf (by decide +kernel) rfl ⟨Nat.le_of_ble_eq_true rfl, Nat.le_of_ble_eq_true rfl⟩ hK hP hD hS hA [0] [] rfl (by decide) rfl (by decide) (by decide) rfl rfl hl.1 rfl (Nat.le_of_ble_eq_true rfl) d_hh_sum_2 ⟨Nat.zero_le _, Nat.zero_le _⟩ (fun v u H locs hpost hP hD hS => ?_)
  subst hpost
  refine W.eq (g2 := F0 m 5 ls [.null]) rfl ?_
  have hP : va_P D cls ([(h, .inr (1, [.ref r]))]) H := hP
  have hD : va_D A ([(h, .inr (1, [.ref r]))]) := hD
  refine lv_astore_nN (lv' := [(2, .null), (0, .ref h), (1, .int q)]) hx hb d_hh_sum_5 rfl hl (by decide) rfl (fun ls hl => ?_)
  refine lv_aload_nN hx hb d_hh_sum_6 rfl (lv_at hl 0 rfl) ?_
  refine lv_ifnonnullN hx hb d_hh_sum_7 ?_
  refine lv_ldc2 hx hb hown (hts _ kk_hh_22) d_hh_sum_10 ?_
  refine lv_goto (tgt := 20) hx hb d_hh_sum_13 (by decide) ?_
  exact cg_lret (u := ()) hQ hx hb hr hlk hK hP hD hS rfl d_hh_sum_20
set_option maxRecDepth 100000 in
set_option maxHeartbeats 4000000 in
/-- raise -/
theorem c_hh_raise (l : Launch) (D : va_G) (cI cT cP : ClassId) (h r : Nat) (ft : Nat → Option Nat) (km : Nat) (hkm : km < 3) (a : Nat) (hft : ft km = some a) (mv : Bool) (j : Nat) (L : List (Int32 × Int32)) (u0 : TB) (hL : TL j L u0) (b0 : Int32) : Cg l y_hh_raise b_hh_raise 4 (some .int) 1 0 0 D (ty3 cI cT cP) [.ref h, .int (nI km), .int b0] ([(h, .inr (1, [.ref r])), (r, .inl (cT, 3, .inr (.inr (.inr (.inr ft)))))] ++ (tw cI a mv j u0)) (fun (v : Option Value) (u : TB) => v = some (.int (nI L.length)) ∧ TL j (rs b0 L) u) (fun u => [(h, .inr (1, [.ref r])), (r, .inl (cT, 3, .inr (.inr (.inr (.inr ft)))))] ++ (tw cI a mv j u)) := by
  refine cg_enter rfl (Nat.le_of_ble_eq_true rfl) ?_
  intro p e s m below meth c args hx hb hr hlk hml hown hin hts A hA hK hP hD hS ls hl Q hQ
  have hl : lv_has ls 4 [(0, .ref h), (1, .int (nI km)), (2, .int b0)] := hl
  have hP : va_P D cls ([(h, .inr (1, [.ref r])), (r, .inl (cT, 3, .inr (.inr (.inr (.inr ft)))))] ++ (tw cI a mv j u0)) s.heap := hP
  have hD : va_D A ([(h, .inr (1, [.ref r])), (r, .inl (cT, 3, .inr (.inr (.inr (.inr ft)))))] ++ (tw cI a mv j u0)) := hD
  refine lv_aload_n hx hb d_hh_raise_0 rfl (lv_at hl 0 rfl) ?_
  refine lv_iload_n hx hb d_hh_raise_1 rfl (lv_at hl 1 rfl) ?_
  refine cg_V (hn := 1) (As := [.int (nI km)]) (rest := []) (wr := tw cI a mv j u0) (q0 := 0) (ci := 1) hx hb hml hown hts (c_hh_tableOf l D cI cT cP h r ft km hkm a hft) km_hh_18 ki_hh_tableOf ks_hh_tableOf kn_hh kc_hh_tableOf (by decide +kernel) rfl ⟨Nat.le_of_ble_eq_true rfl, Nat.le_of_ble_eq_true rfl⟩ hK hP hD hS hA [0, 1] [2, 3, 4, 5, 6, 7, 8] rfl (by decide) rfl (by decide) (by decide) rfl rfl hl.1 rfl (Nat.le_of_ble_eq_true rfl) d_hh_raise_2 ⟨Nat.zero_le _, Nat.zero_le _⟩ (fun v u H locs hpost hP hD hS => ?_)
  subst hpost
  refine W.eq (g2 := F0 m 5 ls [.ref a]) rfl ?_
  have hP : va_P D cls ((tw cI a mv j u0) ++ [(h, .inr (1, [.ref r])), (r, .inl (cT, 3, .inr (.inr (.inr (.inr ft)))))]) H := hP
  have hD : va_D A ((tw cI a mv j u0) ++ [(h, .inr (1, [.ref r])), (r, .inl (cT, 3, .inr (.inr (.inr (.inr ft)))))]) := hD
  have hP : va_P D cls ([(h, .inr (1, [.ref r])), (r, .inl (cT, 3, .inr (.inr (.inr (.inr ft)))))] ++ (tw cI a mv j u0)) H := hP.sub [7, 8, 0, 1, 2, 3, 4, 5, 6] rfl
  have hD : va_D A ([(h, .inr (1, [.ref r])), (r, .inl (cT, 3, .inr (.inr (.inr (.inr ft)))))] ++ (tw cI a mv j u0)) := hD.sub [7, 8, 0, 1, 2, 3, 4, 5, 6] (by decide) rfl
  refine lv_astore_n (lv' := [(3, .ref a), (0, .ref h), (1, .int (nI km)), (2, .int b0)]) hx hb d_hh_raise_5 rfl hl (by decide) rfl (fun ls hl => ?_)
  refine lv_aload_n hx hb d_hh_raise_6 rfl (lv_at hl 0 rfl) ?_
  refine lv_ifnonnull (tgt := 14) hx hb d_hh_raise_7 (by decide) ?_
  refine lv_aload_n hx hb d_hh_raise_14 rfl (lv_at hl 0 rfl) ?_
  refine lv_iload_n hx hb d_hh_raise_15 rfl (lv_at hl 3 rfl) ?_
  refine cg_V (hn := 1) (As := [.int b0]) (rest := []) (wr := [(h, .inr (1, [.ref r])), (r, .inl (cT, 3, .inr (.inr (.inr (.inr ft)))))]) (q0 := 0) (ci := 0) hx hb hml hown hts (c_tb_increase l D cI cT cP a mv j L u0 hL b0) km_hh_86 ki_tb_increase ks_tb_increase kn_tb kc_tb_increase (by decide +kernel) rfl ⟨Nat.le_of_ble_eq_true rfl, Nat.le_of_ble_eq_true rfl⟩ hK hP hD hS hA [2, 3, 4, 5, 6, 7, 8] [0, 1] rfl (by decide) rfl (by decide) (by decide) rfl rfl hl.1 rfl (Nat.le_of_ble_eq_true rfl) d_hh_raise_16 ⟨Nat.zero_le _, Nat.zero_le _⟩ (fun v u H locs hpost hP hD hS => ?_)
  obtain ⟨e9, hT2⟩ := hpost
  subst e9
  refine W.eq (g2 := F0 m 19 ls [.int (nI L.length)]) rfl ?_
  have hP : va_P D cls ([(h, .inr (1, [.ref r])), (r, .inl (cT, 3, .inr (.inr (.inr (.inr ft)))))] ++ (tw cI a mv j u)) H := hP
  have hD : va_D A ([(h, .inr (1, [.ref r])), (r, .inl (cT, 3, .inr (.inr (.inr (.inr ft)))))] ++ (tw cI a mv j u)) := hD
  exact cg_iret (u := u) hQ hx hb hr hlk hK hP hD hS (⟨rfl, hT2⟩) d_hh_raise_19
set_option maxRecDepth 100000 in
set_option maxHeartbeats 4000000 in
theorem c_hh_raise_x (l : Launch) (D : va_G) (cI cT cP : ClassId) (h r : Nat) (q : Int32) (hq : bad q) (b0 : Int32) : Cg l y_hh_raise b_hh_raise 4 (some .int) 1 0 0 D (ty3 cI cT cP) [.ref h, .int q, .int b0] ([(h, .inr (1, [.ref r]))]) (fun (v : Option Value) (u : Unit) => v = some (.int (-1))) (fun u => [(h, .inr (1, [.ref r]))]) := by
  refine cg_enter rfl (Nat.le_of_ble_eq_true rfl) ?_
  intro p e s m below meth c args hx hb hr hlk hml hown hin hts A hA hK hP hD hS ls hl Q hQ
  have hl : lv_has ls 4 [(0, .ref h), (1, .int q), (2, .int b0)] := hl
  have hP : va_P D cls ([(h, .inr (1, [.ref r]))]) s.heap := hP
  have hD : va_D A ([(h, .inr (1, [.ref r]))]) := hD
  refine lv_aload_n hx hb d_hh_raise_0 rfl (lv_at hl 0 rfl) ?_
  refine lv_iload_n hx hb d_hh_raise_1 rfl (lv_at hl 1 rfl) ?_
  refine cg_V (hn := 1) (As := [.int q]) (rest := []) (wr := []) (q0 := 0) (ci := 1) hx hb hml hown hts (c_hh_tableOf_x l D cI cT cP h r q hq) km_hh_18 ki_hh_tableOf ks_hh_tableOf kn_hh kc_hh_tableOf (by decide +kernel) rfl ⟨Nat.le_of_ble_eq_true rfl, Nat.le_of_ble_eq_true rfl⟩ hK hP hD hS hA [0] [] rfl (by decide) rfl (by decide) (by decide) rfl rfl hl.1 rfl (Nat.le_of_ble_eq_true rfl) d_hh_raise_2 ⟨Nat.zero_le _, Nat.zero_le _⟩ (fun v u H locs hpost hP hD hS => ?_)
  subst hpost
  refine W.eq (g2 := F0 m 5 ls [.null]) rfl ?_
  have hP : va_P D cls ([(h, .inr (1, [.ref r]))]) H := hP
  have hD : va_D A ([(h, .inr (1, [.ref r]))]) := hD
  refine lv_astore_nN (lv' := [(3, .null), (0, .ref h), (1, .int q), (2, .int b0)]) hx hb d_hh_raise_5 rfl hl (by decide) rfl (fun ls hl => ?_)
  refine lv_aload_nN hx hb d_hh_raise_6 rfl (lv_at hl 0 rfl) ?_
  refine lv_ifnonnullN hx hb d_hh_raise_7 ?_
  refine lv_iconst (v := (-1)) hx hb d_hh_raise_10 (by decide) ?_
  refine lv_goto (tgt := 19) hx hb d_hh_raise_11 (by decide) ?_
  exact cg_iret (u := ()) hQ hx hb hr hlk hK hP hD hS rfl d_hh_raise_19
set_option maxRecDepth 100000 in
set_option maxHeartbeats 4000000 in
/-- sweep -/
theorem c_hh_sweep (l : Launch) (D : va_G) (cI cT cP : ClassId) (h r : Nat) (ft : Nat → Option Nat) (km : Nat) (hkm : km < 3) (a : Nat) (hft : ft km = some a) (mv : Bool) (j : Nat) (L : List (Int32 × Int32)) (u0 : TB) (hL : TL j L u0) (d0 r0 : Int32) : Cg l y_hh_sweep b_hh_sweep 5 (some .int) 4 0 0 D (ty3 cI cT cP) [.ref h, .int (nI km), .int d0, .int r0] ([(h, .inr (1, [.ref r])), (r, .inl (cT, 3, .inr (.inr (.inr (.inr ft)))))] ++ (tw cI a mv j u0)) (fun (v : Option Value) (u : TB) => v = some (.int (swa d0 r0 L)) ∧ TL j (swl d0 r0 L) u) (fun u => [(h, .inr (1, [.ref r])), (r, .inl (cT, 3, .inr (.inr (.inr (.inr ft)))))] ++ (tw cI a mv j u)) := by
  refine cg_enter rfl (Nat.le_of_ble_eq_true rfl) ?_
  intro p e s m below meth c args hx hb hr hlk hml hown hin hts A hA hK hP hD hS ls hl Q hQ
  have hl : lv_has ls 5 [(0, .ref h), (1, .int (nI km)), (2, .int d0), (3, .int r0)] := hl
  have hP : va_P D cls ([(h, .inr (1, [.ref r])), (r, .inl (cT, 3, .inr (.inr (.inr (.inr ft)))))] ++ (tw cI a mv j u0)) s.heap := hP
  have hD : va_D A ([(h, .inr (1, [.ref r])), (r, .inl (cT, 3, .inr (.inr (.inr (.inr ft)))))] ++ (tw cI a mv j u0)) := hD
  refine lv_aload_n hx hb d_hh_sweep_0 rfl (lv_at hl 0 rfl) ?_
  refine lv_iload_n hx hb d_hh_sweep_1 rfl (lv_at hl 1 rfl) ?_
  refine cg_V (hn := 1) (As := [.int (nI km)]) (rest := []) (wr := tw cI a mv j u0) (q0 := 0) (ci := 1) hx hb hml hown hts (c_hh_tableOf l D cI cT cP h r ft km hkm a hft) km_hh_18 ki_hh_tableOf ks_hh_tableOf kn_hh kc_hh_tableOf (by decide +kernel) rfl ⟨Nat.le_of_ble_eq_true rfl, Nat.le_of_ble_eq_true rfl⟩ hK hP hD hS hA [0, 1] [2, 3, 4, 5, 6, 7, 8] rfl (by decide) rfl (by decide) (by decide) rfl rfl hl.1 rfl (Nat.le_of_ble_eq_true rfl) d_hh_sweep_2 ⟨Nat.zero_le _, Nat.zero_le _⟩ (fun v u H locs hpost hP hD hS => ?_)
  subst hpost
  refine W.eq (g2 := F0 m 5 ls [.ref a]) rfl ?_
  have hP : va_P D cls ((tw cI a mv j u0) ++ [(h, .inr (1, [.ref r])), (r, .inl (cT, 3, .inr (.inr (.inr (.inr ft)))))]) H := hP
  have hD : va_D A ((tw cI a mv j u0) ++ [(h, .inr (1, [.ref r])), (r, .inl (cT, 3, .inr (.inr (.inr (.inr ft)))))]) := hD
  have hP : va_P D cls ([(h, .inr (1, [.ref r])), (r, .inl (cT, 3, .inr (.inr (.inr (.inr ft)))))] ++ (tw cI a mv j u0)) H := hP.sub [7, 8, 0, 1, 2, 3, 4, 5, 6] rfl
  have hD : va_D A ([(h, .inr (1, [.ref r])), (r, .inl (cT, 3, .inr (.inr (.inr (.inr ft)))))] ++ (tw cI a mv j u0)) := hD.sub [7, 8, 0, 1, 2, 3, 4, 5, 6] (by decide) rfl
  refine lv_astore (lv' := [(4, .ref a), (0, .ref h), (1, .int (nI km)), (2, .int d0), (3, .int r0)]) hx hb d_hh_sweep_5 hl (by decide) rfl (fun ls hl => ?_)
  refine lv_aload hx hb d_hh_sweep_7 (lv_at hl 0 rfl) ?_
  refine lv_ifnull hx hb d_hh_sweep_9 ?_
  refine lv_iload_n hx hb d_hh_sweep_12 rfl (lv_at hl 3 rfl) ?_
  refine lv_iconst (v := 1) hx hb d_hh_sweep_13 (by decide) ?_
  by_cases h1 : 1 ≤ d0
  · refine lv_icmp_ge (tgt := 21) hx hb d_hh_sweep_14 (by decide) (fun _ => ?_) (fun z9 => absurd h1 z9)
    refine lv_aload hx hb d_hh_sweep_21 (lv_at hl 0 rfl) ?_
    refine lv_iload_n hx hb d_hh_sweep_23 rfl (lv_at hl 3 rfl) ?_
    refine lv_iload_n hx hb d_hh_sweep_24 rfl (lv_at hl 4 rfl) ?_
    have hd0 : ¬ d0 = 0 := fun z9 => by rw [z9] at h1; exact absurd h1 (by decide)
    refine cg_V (hn := 2) (As := [.int d0, .int r0]) (rest := []) (wr := [(h, .inr (1, [.ref r])), (r, .inl (cT, 3, .inr (.inr (.inr (.inr ft)))))]) (q0 := 0) (ci := 0) hx hb hml hown hts (c_tb_dropByRest l D cI cT cP a mv j L u0 hL d0 r0 hd0) km_hh_82 ki_tb_dropByRest ks_tb_dropByRest kn_tb kc_tb_dropByRest (by decide +kernel) rfl ⟨Nat.le_of_ble_eq_true rfl, Nat.le_of_ble_eq_true rfl⟩ hK hP hD hS hA [2, 3, 4, 5, 6, 7, 8] [0, 1] rfl (by decide) rfl (by decide) (by decide) rfl rfl hl.1 rfl (Nat.le_of_ble_eq_true rfl) d_hh_sweep_25 ⟨Nat.zero_le _, Nat.zero_le _⟩ (fun v u H locs hpost hP hD hS => ?_)
    obtain ⟨e9, hT2⟩ := hpost
    subst e9
    refine W.eq (g2 := F0 m 28 ls [.int (nI (L.length - (sw d0 r0 L).length))]) rfl ?_
    have hP : va_P D cls ([(h, .inr (1, [.ref r])), (r, .inl (cT, 3, .inr (.inr (.inr (.inr ft)))))] ++ (tw cI a mv j u)) H := hP
    have hD : va_D A ([(h, .inr (1, [.ref r])), (r, .inl (cT, 3, .inr (.inr (.inr (.inr ft)))))] ++ (tw cI a mv j u)) := hD
    exact cg_iret (u := u) hQ hx hb hr hlk hK hP hD hS (⟨by unfold swa; rw [if_pos h1], by unfold swl; rw [if_pos h1]; exact hT2⟩) d_hh_sweep_28
  · refine lv_icmp_ge (tgt := 21) hx hb d_hh_sweep_14 (by decide) (fun z9 => absurd z9 h1) (fun _ => ?_)
    refine lv_iconst (v := (-1)) hx hb d_hh_sweep_17 (by decide) ?_
    refine lv_goto (tgt := 28) hx hb d_hh_sweep_18 (by decide) ?_
    exact cg_iret (u := u0) hQ hx hb hr hlk hK hP hD hS (⟨by unfold swa; rw [if_neg h1], by unfold swl; rw [if_neg h1]; exact hL⟩) d_hh_sweep_28
set_option maxRecDepth 100000 in
set_option maxHeartbeats 4000000 in
theorem c_hh_sweep_x (l : Launch) (D : va_G) (cI cT cP : ClassId) (h r : Nat) (q : Int32) (hq : bad q) (d0 r0 : Int32) : Cg l y_hh_sweep b_hh_sweep 5 (some .int) 4 0 0 D (ty3 cI cT cP) [.ref h, .int q, .int d0, .int r0] ([(h, .inr (1, [.ref r]))]) (fun (v : Option Value) (u : Unit) => v = some (.int (-1))) (fun u => [(h, .inr (1, [.ref r]))]) := by
  refine cg_enter rfl (Nat.le_of_ble_eq_true rfl) ?_
  intro p e s m below meth c args hx hb hr hlk hml hown hin hts A hA hK hP hD hS ls hl Q hQ
  have hl : lv_has ls 5 [(0, .ref h), (1, .int q), (2, .int d0), (3, .int r0)] := hl
  have hP : va_P D cls ([(h, .inr (1, [.ref r]))]) s.heap := hP
  have hD : va_D A ([(h, .inr (1, [.ref r]))]) := hD
  refine lv_aload_n hx hb d_hh_sweep_0 rfl (lv_at hl 0 rfl) ?_
  refine lv_iload_n hx hb d_hh_sweep_1 rfl (lv_at hl 1 rfl) ?_
  refine cg_V (hn := 1) (As := [.int q]) (rest := []) (wr := []) (q0 := 0) (ci := 1) hx hb hml hown hts (c_hh_tableOf_x l D cI cT cP h r q hq) km_hh_18 ki_hh_tableOf ks_hh_tableOf kn_hh kc_hh_tableOf (by decide +kernel) rfl ⟨Nat.le_of_ble_eq_true rfl, Nat.le_of_ble_eq_true rfl⟩ hK hP hD hS hA [0] [] rfl (by decide) rfl (by decide) (by decide) rfl rfl hl.1 rfl (Nat.le_of_ble_eq_true rfl) d_hh_sweep_2 ⟨Nat.zero_le _, Nat.zero_le _⟩ (fun v u H locs hpost hP hD hS => ?_)
  subst hpost
  refine W.eq (g2 := F0 m 5 ls [.null]) rfl ?_
  have hP : va_P D cls ([(h, .inr (1, [.ref r]))]) H := hP
  have hD : va_D A ([(h, .inr (1, [.ref r]))]) := hD
  refine lv_astoreN (lv' := [(4, .null), (0, .ref h), (1, .int q), (2, .int d0), (3, .int r0)]) hx hb d_hh_sweep_5 hl (by decide) rfl (fun ls hl => ?_)
  refine lv_aloadN hx hb d_hh_sweep_7 (lv_at hl 0 rfl) ?_
  refine lv_ifnullN (tgt := 17) hx hb d_hh_sweep_9 (by decide) ?_
  refine lv_iconst (v := (-1)) hx hb d_hh_sweep_17 (by decide) ?_
  refine lv_goto (tgt := 28) hx hb d_hh_sweep_18 (by decide) ?_
  exact cg_iret (u := ()) hQ hx hb hr hlk hK hP hD hS rfl d_hh_sweep_28
set_option maxRecDepth 100000 in
set_option maxHeartbeats 4000000 in
/-- entry -/
theorem c_hh_entry (l : Launch) (D : va_G) (cI cT cP : ClassId) (h r : Nat) (ft : Nat → Option Nat) (km : Nat) (hkm : km < 3) (a : Nat) (hft : ft km = some a) (mv : Bool) (j : Nat) (L : List (Int32 × Int32)) (u0 : TB) (hL : TL j L u0) (q0 w0 : Int32) : Cg l y_hh_entry b_hh_entry 6 (some .long) 1 0 0 D (ty3 cI cT cP) [.ref h, .int (nI km), .int q0, .int w0] ([(h, .inr (1, [.ref r])), (r, .inl (cT, 3, .inr (.inr (.inr (.inr ft)))))] ++ (tw cI a mv j u0)) (fun (v : Option Value) (u : Unit) => v = some (.long (ey km w0 q0 L))) (fun u => [(h, .inr (1, [.ref r])), (r, .inl (cT, 3, .inr (.inr (.inr (.inr ft)))))] ++ (tw cI a mv j u0)) := by
  obtain ⟨qk, qv, qb, qf, qh, qc, K, V, P, N, G, C, fl, mm, R⟩ := u0
  obtain ⟨Fr, bl, hTA, hTN, hTH, hKn, eL⟩ := hL
  have hTA : TA (2 ^ (4 + j)) j mm R Fr := hTA
  have hTN : TN P N R := hTN
  have hTH : TH (2 ^ (4 + j)) K G C fl R Fr bl := hTH
  have hKn : (R.map K).Nodup := hKn
  have eL : L = kv K V R := eL
  have hLl : L.length = R.length := by rw [eL]; exact List.length_map ..
  have hn : 2 ^ (4 + j) < 2 ^ 31 := (ta_len hTA).2.2
  have hRl : R.length < 2 ^ 31 := (ta_len hTA).2.1
  refine cg_enter rfl (Nat.le_of_ble_eq_true rfl) ?_
  intro p e s m below meth c args hx hb hr hlk hml hown hin hts A hA hK hP hD hS ls hl Q hQ
  have hl : lv_has ls 6 [(0, .ref h), (1, .int (nI km)), (2, .int q0), (3, .int w0)] := hl
  have hP : va_P D cls ([(h, .inr (1, [.ref r])), (r, .inl (cT, 3, .inr (.inr (.inr (.inr ft)))))] ++ (tx cI a (mvI mv) (nI R.length) qk qv qb qf qh qc (2 ^ (4 + j)) K V P N G C fl (nI mm))) s.heap := hP
  have hD : va_D A ([(h, .inr (1, [.ref r])), (r, .inl (cT, 3, .inr (.inr (.inr (.inr ft)))))] ++ (tx cI a (mvI mv) (nI R.length) qk qv qb qf qh qc (2 ^ (4 + j)) K V P N G C fl (nI mm))) := hD
  refine lv_aload_n hx hb d_hh_entry_0 rfl (lv_at hl 0 rfl) ?_
  refine lv_iload_n hx hb d_hh_entry_1 rfl (lv_at hl 1 rfl) ?_
  refine cg_V (hn := 1) (As := [.int (nI km)]) (rest := []) (wr := tx cI a (mvI mv) (nI R.length) qk qv qb qf qh qc (2 ^ (4 + j)) K V P N G C fl (nI mm)) (q0 := 0) (ci := 1) hx hb hml hown hts (c_hh_tableOf l D cI cT cP h r ft km hkm a hft) km_hh_18 ki_hh_tableOf ks_hh_tableOf kn_hh kc_hh_tableOf (by decide +kernel) rfl ⟨Nat.le_of_ble_eq_true rfl, Nat.le_of_ble_eq_true rfl⟩ hK hP hD hS hA [0, 1] [2, 3, 4, 5, 6, 7, 8] rfl (by decide) rfl (by decide) (by decide) rfl rfl hl.1 rfl (Nat.le_of_ble_eq_true rfl) d_hh_entry_2 ⟨Nat.zero_le _, Nat.zero_le _⟩ (fun v u H locs hpost hP hD hS => ?_)
  subst hpost
  refine W.eq (g2 := F0 m 5 ls [.ref a]) rfl ?_
  have hP : va_P D cls ((tx cI a (mvI mv) (nI R.length) qk qv qb qf qh qc (2 ^ (4 + j)) K V P N G C fl (nI mm)) ++ [(h, .inr (1, [.ref r])), (r, .inl (cT, 3, .inr (.inr (.inr (.inr ft)))))]) H := hP
  have hD : va_D A ((tx cI a (mvI mv) (nI R.length) qk qv qb qf qh qc (2 ^ (4 + j)) K V P N G C fl (nI mm)) ++ [(h, .inr (1, [.ref r])), (r, .inl (cT, 3, .inr (.inr (.inr (.inr ft)))))]) := hD
  have hP : va_P D cls ([(h, .inr (1, [.ref r])), (r, .inl (cT, 3, .inr (.inr (.inr (.inr ft)))))] ++ (tx cI a (mvI mv) (nI R.length) qk qv qb qf qh qc (2 ^ (4 + j)) K V P N G C fl (nI mm))) H := hP.sub [7, 8, 0, 1, 2, 3, 4, 5, 6] rfl
  have hD : va_D A ([(h, .inr (1, [.ref r])), (r, .inl (cT, 3, .inr (.inr (.inr (.inr ft)))))] ++ (tx cI a (mvI mv) (nI R.length) qk qv qb qf qh qc (2 ^ (4 + j)) K V P N G C fl (nI mm))) := hD.sub [7, 8, 0, 1, 2, 3, 4, 5, 6] (by decide) rfl
  refine lv_astore (lv' := [(4, .ref a), (0, .ref h), (1, .int (nI km)), (2, .int q0), (3, .int w0)]) hx hb d_hh_entry_5 hl (by decide) rfl (fun ls hl => ?_)
  refine lv_aload hx hb d_hh_entry_7 (lv_at hl 0 rfl) ?_
  refine lv_ifnull hx hb d_hh_entry_9 ?_
  refine lv_iload_n hx hb d_hh_entry_12 rfl (lv_at hl 2 rfl) ?_
  by_cases hk0 : km = 0
  · refine lv_if_eq (tgt := 25) hx hb d_hh_entry_13 (by decide) (fun _ => ?_) (fun z9 => absurd (by rw [hk0]; rfl) z9)
    refine lv_ldc2 hx hb hown (hts _ kk_hh_22) d_hh_entry_25 ?_
    exact cg_lret (u := ()) hQ hx hb hr hlk hK hP hD hS (by unfold ey; rw [if_pos (Or.inl hk0)]) d_hh_entry_28
  · refine lv_if_eq (tgt := 25) hx hb d_hh_entry_13 (by decide) (fun z9 => absurd z9 (nI_ne0 (by omega) (by omega))) (fun _ => ?_)
    refine lv_iload_n hx hb d_hh_entry_16 rfl (lv_at hl 4 rfl) ?_
    by_cases h0 : w0 = 0
    · refine lv_if_eq (tgt := 29) hx hb d_hh_entry_17 (by decide) (fun _ => ?_) (fun z9 => absurd h0 z9)
      refine lv_aload hx hb d_hh_entry_29 (lv_at hl 0 rfl) ?_
      refine lv_iload_n hx hb d_hh_entry_31 rfl (lv_at hl 3 rfl) ?_
      refine cg_V (hn := 1) (As := [.int q0]) (rest := []) (wr := [(h, .inr (1, [.ref r])), (r, .inl (cT, 3, .inr (.inr (.inr (.inr ft)))))]) (q0 := 0) (ci := 0) hx hb hml hown hts (c_tb_slotAt l D cI cT cP a mv j L (qk, qv, qb, qf, qh, qc, K, V, P, N, G, C, fl, mm, R) ⟨Fr, bl, hTA, hTN, hTH, hKn, eL⟩ q0) km_hh_67 ki_tb_slotAt ks_tb_slotAt kn_tb kc_tb_slotAt (by decide +kernel) rfl ⟨Nat.le_of_ble_eq_true rfl, Nat.le_of_ble_eq_true rfl⟩ hK hP hD hS hA [2, 3, 4, 5, 6, 7, 8] [0, 1] rfl (by decide) rfl (by decide) (by decide) rfl rfl hl.1 rfl (Nat.le_of_ble_eq_true rfl) d_hh_entry_32 ⟨Nat.zero_le _, Nat.zero_le _⟩ (fun v u H locs hpost hP hD hS => ?_)
      subst hpost
      refine W.eq (g2 := F0 m 35 ls [.int (nI (sa q0 R))]) rfl ?_
      have hP : va_P D cls ([(h, .inr (1, [.ref r])), (r, .inl (cT, 3, .inr (.inr (.inr (.inr ft)))))] ++ (tx cI a (mvI mv) (nI R.length) qk qv qb qf qh qc (2 ^ (4 + j)) K V P N G C fl (nI mm))) H := hP
      have hD : va_D A ([(h, .inr (1, [.ref r])), (r, .inl (cT, 3, .inr (.inr (.inr (.inr ft)))))] ++ (tx cI a (mvI mv) (nI R.length) qk qv qb qf qh qc (2 ^ (4 + j)) K V P N G C fl (nI mm))) := hD
      have hey : ey km w0 q0 L = eyo w0 (at_ q0 L) := by unfold ey; rw [if_neg (fun z9 => z9.elim hk0 (fun z8 => z8 (Or.inl h0)))]
      refine lv_istore (lv' := [(5, .int (nI (sa q0 R))), (4, .ref a), (0, .ref h), (1, .int (nI km)), (2, .int q0), (3, .int w0)]) hx hb d_hh_entry_35 hl (by decide) rfl (fun ls hl => ?_)
      refine lv_iload hx hb d_hh_entry_37 (lv_at hl 0 rfl) ?_
      rcases sa_at (q := q0) (fun x hx1 => (ta_in hTA hx1).1) eL with ⟨e0, e1⟩ | ⟨hxR, e1⟩
      · refine lv_if_ne (tgt := 46) hx hb d_hh_entry_39 (by decide) (fun z9 => absurd (by rw [e0]; rfl) z9) (fun _ => ?_)
        refine lv_ldc2 hx hb hown (hts _ kk_hh_35) d_hh_entry_42 ?_
        exact cg_lret (u := ()) hQ hx hb hr hlk hK hP hD hS (by rw [hey, e1]; rfl) d_hh_entry_45
      · generalize sa q0 R = x at *
        have hxn := ta_in hTA hxR
        refine lv_if_ne (tgt := 46) hx hb d_hh_entry_39 (by decide) (fun _ => ?_) (fun z9 => absurd z9 (nI_ne0 hxn.1 (by omega)))
        refine lv_iload_n hx hb d_hh_entry_46 rfl (lv_at hl 5 rfl) ?_
        refine lv_if_ne (tgt := 62) hx hb d_hh_entry_47 (by decide) (fun z9 => absurd h0 z9) (fun _ => ?_)
        refine lv_aload hx hb d_hh_entry_50 (lv_at hl 1 rfl) ?_
        refine va_get (D := D) (ci := 0) (v := .ref qk) (C := R_tb) (T := F_tb) (N := 10) hx hb hts i_tb hown hK hP 2 rfl rfl 2 (by decide) (hts _ kf_hh_71) (fun _ h9 => h9) rfl d_hh_entry_52 ?_
        refine lv_iload hx hb d_hh_entry_55 (lv_at hl 0 rfl) ?_
        refine wa_ld (k := x) hx hb hK hP 3 0 rfl rfl hxn.2.2 hn d_hh_entry_57 ?_
        refine lv_i2l (v := (K x).toInt64) hx hb d_hh_entry_58 rfl ?_
        refine lv_goto (tgt := 71) hx hb d_hh_entry_59 (by decide) ?_
        exact cg_lret (u := ()) hQ hx hb hr hlk hK hP hD hS (by rw [hey, e1, eyo_k h0]) d_hh_entry_71
    · refine lv_if_eq (tgt := 29) hx hb d_hh_entry_17 (by decide) (fun z9 => absurd z9 h0) (fun _ => ?_)
      refine lv_iload_n hx hb d_hh_entry_20 rfl (lv_at hl 4 rfl) ?_
      refine lv_iconst (v := 1) hx hb d_hh_entry_21 (by decide) ?_
      by_cases h1 : w0 = 1
      · refine lv_icmp_eq (tgt := 29) hx hb d_hh_entry_22 (by decide) (fun _ => ?_) (fun z9 => absurd h1 z9)
        refine lv_aload hx hb d_hh_entry_29 (lv_at hl 0 rfl) ?_
        refine lv_iload_n hx hb d_hh_entry_31 rfl (lv_at hl 3 rfl) ?_
        refine cg_V (hn := 1) (As := [.int q0]) (rest := []) (wr := [(h, .inr (1, [.ref r])), (r, .inl (cT, 3, .inr (.inr (.inr (.inr ft)))))]) (q0 := 0) (ci := 0) hx hb hml hown hts (c_tb_slotAt l D cI cT cP a mv j L (qk, qv, qb, qf, qh, qc, K, V, P, N, G, C, fl, mm, R) ⟨Fr, bl, hTA, hTN, hTH, hKn, eL⟩ q0) km_hh_67 ki_tb_slotAt ks_tb_slotAt kn_tb kc_tb_slotAt (by decide +kernel) rfl ⟨Nat.le_of_ble_eq_true rfl, Nat.le_of_ble_eq_true rfl⟩ hK hP hD hS hA [2, 3, 4, 5, 6, 7, 8] [0, 1] rfl (by decide) rfl (by decide) (by decide) rfl rfl hl.1 rfl (Nat.le_of_ble_eq_true rfl) d_hh_entry_32 ⟨Nat.zero_le _, Nat.zero_le _⟩ (fun v u H locs hpost hP hD hS => ?_)
        subst hpost
        refine W.eq (g2 := F0 m 35 ls [.int (nI (sa q0 R))]) rfl ?_
        have hP : va_P D cls ([(h, .inr (1, [.ref r])), (r, .inl (cT, 3, .inr (.inr (.inr (.inr ft)))))] ++ (tx cI a (mvI mv) (nI R.length) qk qv qb qf qh qc (2 ^ (4 + j)) K V P N G C fl (nI mm))) H := hP
        have hD : va_D A ([(h, .inr (1, [.ref r])), (r, .inl (cT, 3, .inr (.inr (.inr (.inr ft)))))] ++ (tx cI a (mvI mv) (nI R.length) qk qv qb qf qh qc (2 ^ (4 + j)) K V P N G C fl (nI mm))) := hD
        have hey : ey km w0 q0 L = eyo w0 (at_ q0 L) := by unfold ey; rw [if_neg (fun z9 => z9.elim hk0 (fun z8 => z8 (Or.inr h1)))]
        refine lv_istore (lv' := [(5, .int (nI (sa q0 R))), (4, .ref a), (0, .ref h), (1, .int (nI km)), (2, .int q0), (3, .int w0)]) hx hb d_hh_entry_35 hl (by decide) rfl (fun ls hl => ?_)
        refine lv_iload hx hb d_hh_entry_37 (lv_at hl 0 rfl) ?_
        rcases sa_at (q := q0) (fun x hx1 => (ta_in hTA hx1).1) eL with ⟨e0, e1⟩ | ⟨hxR, e1⟩
        · refine lv_if_ne (tgt := 46) hx hb d_hh_entry_39 (by decide) (fun z9 => absurd (by rw [e0]; rfl) z9) (fun _ => ?_)
          refine lv_ldc2 hx hb hown (hts _ kk_hh_35) d_hh_entry_42 ?_
          exact cg_lret (u := ()) hQ hx hb hr hlk hK hP hD hS (by rw [hey, e1]; rfl) d_hh_entry_45
        · generalize sa q0 R = x at *
          have hxn := ta_in hTA hxR
          refine lv_if_ne (tgt := 46) hx hb d_hh_entry_39 (by decide) (fun _ => ?_) (fun z9 => absurd z9 (nI_ne0 hxn.1 (by omega)))
          refine lv_iload_n hx hb d_hh_entry_46 rfl (lv_at hl 5 rfl) ?_
          refine lv_if_ne (tgt := 62) hx hb d_hh_entry_47 (by decide) (fun _ => ?_) (fun z9 => absurd z9 h0)
          refine lv_aload hx hb d_hh_entry_62 (lv_at hl 1 rfl) ?_
          refine va_get (D := D) (ci := 0) (v := .ref qv) (C := R_tb) (T := F_tb) (N := 10) hx hb hts i_tb hown hK hP 2 rfl rfl 3 (by decide) (hts _ kf_hh_75) (fun _ h9 => h9) rfl d_hh_entry_64 ?_
          refine lv_iload hx hb d_hh_entry_67 (lv_at hl 0 rfl) ?_
          refine wa_ld (k := x) hx hb hK hP 4 0 rfl rfl hxn.2.2 hn d_hh_entry_69 ?_
          refine lv_i2l (v := (V x).toInt64) hx hb d_hh_entry_70 rfl ?_
          exact cg_lret (u := ()) hQ hx hb hr hlk hK hP hD hS (by rw [hey, e1, eyo_v h0]) d_hh_entry_71
      · refine lv_icmp_eq (tgt := 29) hx hb d_hh_entry_22 (by decide) (fun z9 => absurd z9 h1) (fun _ => ?_)
        refine lv_ldc2 hx hb hown (hts _ kk_hh_22) d_hh_entry_25 ?_
        exact cg_lret (u := ()) hQ hx hb hr hlk hK hP hD hS (by unfold ey; rw [if_pos (Or.inr (fun z9 => z9.elim h0 h1))]) d_hh_entry_28
set_option maxRecDepth 100000 in
set_option maxHeartbeats 4000000 in
theorem c_hh_entry_x (l : Launch) (D : va_G) (cI cT cP : ClassId) (h r : Nat) (q : Int32) (hq : bad q) (q0 w0 : Int32) : Cg l y_hh_entry b_hh_entry 6 (some .long) 1 0 0 D (ty3 cI cT cP) [.ref h, .int q, .int q0, .int w0] ([(h, .inr (1, [.ref r]))]) (fun (v : Option Value) (u : Unit) => v = some (.long 1099511627777)) (fun u => [(h, .inr (1, [.ref r]))]) := by
  refine cg_enter rfl (Nat.le_of_ble_eq_true rfl) ?_
  intro p e s m below meth c args hx hb hr hlk hml hown hin hts A hA hK hP hD hS ls hl Q hQ
  have hl : lv_has ls 6 [(0, .ref h), (1, .int q), (2, .int q0), (3, .int w0)] := hl
  have hP : va_P D cls ([(h, .inr (1, [.ref r]))]) s.heap := hP
  have hD : va_D A ([(h, .inr (1, [.ref r]))]) := hD
  refine lv_aload_n hx hb d_hh_entry_0 rfl (lv_at hl 0 rfl) ?_
  refine lv_iload_n hx hb d_hh_entry_1 rfl (lv_at hl 1 rfl) ?_
  refine cg_V (hn := 1) (As := [.int q]) (rest := []) (wr := []) (q0 := 0) (ci := 1) hx hb hml hown hts (c_hh_tableOf_x l D cI cT cP h r q hq) km_hh_18 ki_hh_tableOf ks_hh_tableOf kn_hh kc_hh_tableOf (by decide +kernel) rfl ⟨Nat.le_of_ble_eq_true rfl, Nat.le_of_ble_eq_true rfl⟩ hK hP hD hS hA [0] [] rfl (by decide) rfl (by decide) (by decide) rfl rfl hl.1 rfl (Nat.le_of_ble_eq_true rfl) d_hh_entry_2 ⟨Nat.zero_le _, Nat.zero_le _⟩ (fun v u H locs hpost hP hD hS => ?_)
  subst hpost
  refine W.eq (g2 := F0 m 5 ls [.null]) rfl ?_
  have hP : va_P D cls ([(h, .inr (1, [.ref r]))]) H := hP
  have hD : va_D A ([(h, .inr (1, [.ref r]))]) := hD
  refine lv_astoreN (lv' := [(4, .null), (0, .ref h), (1, .int q), (2, .int q0), (3, .int w0)]) hx hb d_hh_entry_5 hl (by decide) rfl (fun ls hl => ?_)
  refine lv_aloadN hx hb d_hh_entry_7 (lv_at hl 0 rfl) ?_
  refine lv_ifnullN (tgt := 25) hx hb d_hh_entry_9 (by decide) ?_
  refine lv_ldc2 hx hb hown (hts _ kk_hh_22) d_hh_entry_25 ?_
  exact cg_lret (u := ()) hQ hx hb hr hlk hK hP hD hS rfl d_hh_entry_28
end
section
-- HashHall (3): printed by wip/whole/gen/hh3.py
/-- how many entries a fill asks for -/
def fc (n : Int32) : Nat := if n < 0 then 0 else n.toNatClampNeg
def fo (n : Int32) (L : List (Int32 × Int32)) : Bool := decide (1 ≤ fc n ∧ fc n ≤ 400 ∧ L.length ≤ 1000)
def fj (mv : Bool) (f d : Int32) : Nat × List (Int32 × Int32) → Nat → Nat → Nat × List (Int32 × Int32)
  | jl, _, 0 => jl
  | jl, i, c + 1 => fj mv f d (njs jl.1 (f + nI i * d) jl.2, st mv (f + nI i * d) (nI i) jl.2) (i + 1) c
def fp (mv : Bool) (f d n : Int32) (jl : Nat × List (Int32 × Int32)) : Nat × List (Int32 × Int32) := if fo n jl.2 then fj mv f d jl 0 (fc n) else jl
def fa (mv : Bool) (f d n : Int32) (jl : Nat × List (Int32 × Int32)) : Int32 := if fo n jl.2 then nI (fp mv f d n jl).2.length else -1
theorem fc_nI {c : Nat} (h : c < 2 ^ 31) : fc (nI c) = c := by
  unfold fc
  rw [if_neg (nI_pos h), nI_clamp h]
theorem fc_cases (n : Int32) : (n < 1 ∧ fc n = 0) ∨ (400 < n ∧ ¬ n < 1 ∧ 400 < fc n) ∨ ∃ c, 1 ≤ c ∧ c ≤ 400 ∧ n = nI c ∧ fc n = c := by
  by_cases h : n < 0
  · refine Or.inl ⟨?_, by unfold fc; rw [if_pos h]⟩
    rw [Int32.lt_iff_toInt_lt] at h ⊢
    have h1 : (1 : Int32).toInt = 1 := by decide
    have h0 : (0 : Int32).toInt = 0 := by decide
    omega
  · obtain ⟨c, hc, e⟩ := nI_of h
    subst e
    rw [fc_nI hc]
    have e1 : (1 : Int32) = nI 1 := rfl
    have e4 : (400 : Int32) = nI 400 := rfl
    by_cases h1 : c < 1
    · refine Or.inl ⟨?_, by omega⟩
      rw [e1, nI_ltI hc (by decide)]
      exact h1
    · by_cases h4 : 400 < c
      · refine Or.inr (Or.inl ⟨?_, ?_, h4⟩)
        · rw [e4, nI_ltI (by decide) hc]; exact h4
        · rw [e1, nI_ltI hc (by decide)]; exact h1
      · exact Or.inr (Or.inr ⟨c, by omega, by omega, rfl, rfl⟩)
theorem fj_le {mv : Bool} {f d : Int32} {c : Nat} : ∀ (jl : Nat × List (Int32 × Int32)) (i : Nat), jl.1 ≤ (fj mv f d jl i c).1 := by
  induction c with
  | zero => exact fun jl i => Nat.le_refl _
  | succ c ih => exact fun jl i => Nat.le_trans (njs_le jl.1 (f + nI i * d) jl.2) (ih (njs jl.1 (f + nI i * d) jl.2, st mv (f + nI i * d) (nI i) jl.2) (i + 1))
set_option maxRecDepth 100000 in
set_option maxHeartbeats 4000000 in
/-- fill -/
theorem c_hh_fill (l : Launch) (D : va_G) (cI cT cP : ClassId) (h r : Nat) (ft : Nat → Option Nat) (km : Nat) (hkm : km < 3) (a : Nat) (hft : ft km = some a) (mv : Bool) (j : Nat) (L : List (Int32 × Int32)) (u0 : TB) (hL : TL j L u0) (f0 s0 n0 : Int32) : Cg l y_hh_fill b_hh_fill 7 (some .int) 5 (mcT j (fp mv f0 s0 n0 (j, L)).1) (msT j (fp mv f0 s0 n0 (j, L)).1) D (ty3 cI cT cP) [.ref h, .int (nI km), .int f0, .int s0, .int n0] ([(h, .inr (1, [.ref r])), (r, .inl (cT, 3, .inr (.inr (.inr (.inr ft)))))] ++ (tw cI a mv j u0)) (fun (v : Option Value) (u : TB) => v = some (.int (fa mv f0 s0 n0 (j, L))) ∧ TL (fp mv f0 s0 n0 (j, L)).1 (fp mv f0 s0 n0 (j, L)).2 u) (fun u => [(h, .inr (1, [.ref r])), (r, .inl (cT, 3, .inr (.inr (.inr (.inr ft)))))] ++ (tw cI a mv ((fp mv f0 s0 n0 (j, L)).1) u)) := by
  obtain ⟨qk, qv, qb, qf, qh, qc, K, V, P, N, G, C, fl, mm, R⟩ := u0
  obtain ⟨Fr, bl, hTA, hTN, hTH, hKn, eL⟩ := hL
  have hTA : TA (2 ^ (4 + j)) j mm R Fr := hTA
  have hTN : TN P N R := hTN
  have hTH : TH (2 ^ (4 + j)) K G C fl R Fr bl := hTH
  have hKn : (R.map K).Nodup := hKn
  have eL : L = kv K V R := eL
  have hLl : L.length = R.length := by rw [eL]; exact List.length_map ..
  have hn : 2 ^ (4 + j) < 2 ^ 31 := (ta_len hTA).2.2
  have hRl : R.length < 2 ^ 31 := (ta_len hTA).2.1
  refine cg_enter rfl (Nat.le_of_ble_eq_true rfl) ?_
  intro p e s m below meth c args hx hb hr hlk hml hown hin hts A hA hK hP hD hS ls hl Q hQ
  have hl : lv_has ls 7 [(0, .ref h), (1, .int (nI km)), (2, .int f0), (3, .int s0), (4, .int n0)] := hl
  have hP : va_P D cls ([(h, .inr (1, [.ref r])), (r, .inl (cT, 3, .inr (.inr (.inr (.inr ft)))))] ++ (tx cI a (mvI mv) (nI R.length) qk qv qb qf qh qc (2 ^ (4 + j)) K V P N G C fl (nI mm))) s.heap := hP
  have hD : va_D A ([(h, .inr (1, [.ref r])), (r, .inl (cT, 3, .inr (.inr (.inr (.inr ft)))))] ++ (tx cI a (mvI mv) (nI R.length) qk qv qb qf qh qc (2 ^ (4 + j)) K V P N G C fl (nI mm))) := hD
  refine lv_aload_n hx hb d_hh_fill_0 rfl (lv_at hl 0 rfl) ?_
  refine lv_iload_n hx hb d_hh_fill_1 rfl (lv_at hl 1 rfl) ?_
  refine cg_V (hn := 1) (As := [.int (nI km)]) (rest := []) (wr := tx cI a (mvI mv) (nI R.length) qk qv qb qf qh qc (2 ^ (4 + j)) K V P N G C fl (nI mm)) (q0 := 0) (ci := 1) hx hb hml hown hts (c_hh_tableOf l D cI cT cP h r ft km hkm a hft) km_hh_18 ki_hh_tableOf ks_hh_tableOf kn_hh kc_hh_tableOf (by decide +kernel) rfl ⟨Nat.le_of_ble_eq_true rfl, Nat.le_of_ble_eq_true rfl⟩ hK hP hD hS hA [0, 1] [2, 3, 4, 5, 6, 7, 8] rfl (by decide) rfl (by decide) (by decide) rfl rfl hl.1 rfl (Nat.le_of_ble_eq_true rfl) d_hh_fill_2 ⟨Nat.zero_le _, Nat.zero_le _⟩ (fun v u H locs hpost hP hD hS => ?_)
  subst hpost
  refine W.eq (g2 := F0 m 5 ls [.ref a]) rfl ?_
  have hP : va_P D cls ((tx cI a (mvI mv) (nI R.length) qk qv qb qf qh qc (2 ^ (4 + j)) K V P N G C fl (nI mm)) ++ [(h, .inr (1, [.ref r])), (r, .inl (cT, 3, .inr (.inr (.inr (.inr ft)))))]) H := hP
  have hD : va_D A ((tx cI a (mvI mv) (nI R.length) qk qv qb qf qh qc (2 ^ (4 + j)) K V P N G C fl (nI mm)) ++ [(h, .inr (1, [.ref r])), (r, .inl (cT, 3, .inr (.inr (.inr (.inr ft)))))]) := hD
  have hP : va_P D cls ([(h, .inr (1, [.ref r])), (r, .inl (cT, 3, .inr (.inr (.inr (.inr ft)))))] ++ (tx cI a (mvI mv) (nI R.length) qk qv qb qf qh qc (2 ^ (4 + j)) K V P N G C fl (nI mm))) H := hP.sub [7, 8, 0, 1, 2, 3, 4, 5, 6] rfl
  have hD : va_D A ([(h, .inr (1, [.ref r])), (r, .inl (cT, 3, .inr (.inr (.inr (.inr ft)))))] ++ (tx cI a (mvI mv) (nI R.length) qk qv qb qf qh qc (2 ^ (4 + j)) K V P N G C fl (nI mm))) := hD.sub [7, 8, 0, 1, 2, 3, 4, 5, 6] (by decide) rfl
  refine lv_astore (lv' := [(5, .ref a), (0, .ref h), (1, .int (nI km)), (2, .int f0), (3, .int s0), (4, .int n0)]) hx hb d_hh_fill_5 hl (by decide) rfl (fun ls hl => ?_)
  refine lv_aload hx hb d_hh_fill_7 (lv_at hl 0 rfl) ?_
  refine lv_ifnull hx hb d_hh_fill_9 ?_
  refine lv_iload hx hb d_hh_fill_12 (lv_at hl 5 rfl) ?_
  refine lv_iconst (v := 1) hx hb d_hh_fill_14 (by decide) ?_
  rcases fc_cases n0 with ⟨h1, h2⟩ | ⟨h1, h1b, h2⟩ | ⟨c0, h1, h2, h3, h4⟩
  · refine lv_icmp_lt (tgt := 37) hx hb d_hh_fill_15 (by decide) (fun _ => ?_) (fun z9 => absurd h1 z9)
    have hfo : fo n0 L = false := decide_eq_false (fun z9 => by omega)
    have ep : fp mv f0 s0 n0 (j, L) = (j, L) := by unfold fp; rw [hfo]; rfl
    refine lv_iconst (v := (-1)) hx hb d_hh_fill_37 (by decide) ?_
    refine W.widen (k := mcT j (fp mv f0 s0 n0 (j, L)).1) (n := msT j (fp mv f0 s0 n0 (j, L)).1) (Nat.zero_le _) (Nat.zero_le _) ?_
    have hP : va_P D cls ([(h, .inr (1, [.ref r])), (r, .inl (cT, 3, .inr (.inr (.inr (.inr ft)))))] ++ (tw cI a mv (fp mv f0 s0 n0 (j, L)).1 (qk, qv, qb, qf, qh, qc, K, V, P, N, G, C, fl, mm, R))) H := by rw [ep]; exact hP
    have hD : va_D A ([(h, .inr (1, [.ref r])), (r, .inl (cT, 3, .inr (.inr (.inr (.inr ft)))))] ++ (tw cI a mv (fp mv f0 s0 n0 (j, L)).1 (qk, qv, qb, qf, qh, qc, K, V, P, N, G, C, fl, mm, R))) := by rw [ep]; exact hD
    exact cg_iret (u := (qk, qv, qb, qf, qh, qc, K, V, P, N, G, C, fl, mm, R)) hQ hx hb hr hlk hK hP hD hS (⟨by unfold fa; rw [show fo n0 (j, L).2 = false from hfo]; rfl, by rw [ep]; exact ⟨Fr, bl, hTA, hTN, hTH, hKn, eL⟩⟩) d_hh_fill_38
  · refine lv_icmp_lt (tgt := 37) hx hb d_hh_fill_15 (by decide) (fun z9 => absurd z9 h1b) (fun _ => ?_)
    refine lv_iload hx hb d_hh_fill_18 (lv_at hl 5 rfl) ?_
    refine lv_sipush (v := 400) hx hb d_hh_fill_20 (by decide) ?_
    refine lv_icmp_gt (tgt := 37) hx hb d_hh_fill_23 (by decide) (fun _ => ?_) (fun z9 => absurd h1 z9)
    have hfo : fo n0 L = false := decide_eq_false (fun z9 => by omega)
    have ep : fp mv f0 s0 n0 (j, L) = (j, L) := by unfold fp; rw [hfo]; rfl
    refine lv_iconst (v := (-1)) hx hb d_hh_fill_37 (by decide) ?_
    refine W.widen (k := mcT j (fp mv f0 s0 n0 (j, L)).1) (n := msT j (fp mv f0 s0 n0 (j, L)).1) (Nat.zero_le _) (Nat.zero_le _) ?_
    have hP : va_P D cls ([(h, .inr (1, [.ref r])), (r, .inl (cT, 3, .inr (.inr (.inr (.inr ft)))))] ++ (tw cI a mv (fp mv f0 s0 n0 (j, L)).1 (qk, qv, qb, qf, qh, qc, K, V, P, N, G, C, fl, mm, R))) H := by rw [ep]; exact hP
    have hD : va_D A ([(h, .inr (1, [.ref r])), (r, .inl (cT, 3, .inr (.inr (.inr (.inr ft)))))] ++ (tw cI a mv (fp mv f0 s0 n0 (j, L)).1 (qk, qv, qb, qf, qh, qc, K, V, P, N, G, C, fl, mm, R))) := by rw [ep]; exact hD
    exact cg_iret (u := (qk, qv, qb, qf, qh, qc, K, V, P, N, G, C, fl, mm, R)) hQ hx hb hr hlk hK hP hD hS (⟨by unfold fa; rw [show fo n0 (j, L).2 = false from hfo]; rfl, by rw [ep]; exact ⟨Fr, bl, hTA, hTN, hTH, hKn, eL⟩⟩) d_hh_fill_38
  · refine lv_icmp_lt (tgt := 37) hx hb d_hh_fill_15 (by decide) (fun z9 => absurd z9 (by rw [h3]; exact nI_nlt h1 (by omega))) (fun _ => ?_)
    refine lv_iload hx hb d_hh_fill_18 (lv_at hl 5 rfl) ?_
    refine lv_sipush (v := 400) hx hb d_hh_fill_20 (by decide) ?_
    refine lv_icmp_gt (tgt := 37) hx hb d_hh_fill_23 (by decide) (fun z9 => absurd z9 (by rw [h3]; exact nI_nlt h2 (by decide))) (fun _ => ?_)
    refine lv_aload hx hb d_hh_fill_26 (lv_at hl 0 rfl) ?_
    refine va_get (D := D) (ci := 0) (v := .int (nI R.length)) (C := R_tb) (T := F_tb) (N := 10) hx hb hts i_tb hown hK hP 2 rfl rfl 1 (by decide) (hts _ kf_hh_51) (fun _ h9 => h9) rfl d_hh_fill_28 ?_
    refine lv_sipush (v := 1000) hx hb d_hh_fill_31 (by decide) ?_
    by_cases h5 : R.length ≤ 1000
    · refine lv_icmp_le (tgt := 39) hx hb d_hh_fill_34 (by decide) (fun _ => ?_) (fun z9 => absurd (nI_le (a := R.length) (b := 1000) h5 (by decide)) z9)
      refine lv_iconst (v := 0) hx hb d_hh_fill_39 (by decide) ?_
      refine lv_istore (lv' := [(6, .int 0), (5, .ref a), (0, .ref h), (1, .int (nI km)), (2, .int f0), (3, .int s0), (4, .int n0)]) hx hb d_hh_fill_40 hl (by decide) rfl (fun ls hl => ?_)
      have hfo : fo n0 L = true := decide_eq_true ⟨by omega, by omega, by omega⟩
      have ep : fj mv f0 s0 (j, L) 0 c0 = fp mv f0 s0 n0 (j, L) := by unfold fp; rw [show fo n0 (j, L).2 = true from hfo, h4]; rfl
      have hL : TL j L (qk, qv, qb, qf, qh, qc, K, V, P, N, G, C, fl, mm, R) := ⟨Fr, bl, hTA, hTN, hTH, hKn, eL⟩
      have loop : ∀ (cn i jc : Nat) (Lc : List (Int32 × Int32)) (uc : TB), i + cn = c0 → TL jc Lc uc → j ≤ jc → fj mv f0 s0 (jc, Lc) i cn = fp mv f0 s0 n0 (j, L) → Lc.length + cn ≤ 1400 → ∀ (H : Heap) (locs : List Loc), va_P D cls ([(h, .inr (1, [.ref r])), (r, .inl (cT, 3, .inr (.inr (.inr (.inr ft)))))] ++ (tw cI a mv jc uc)) H → va_D A ([(h, .inr (1, [.ref r])), (r, .inl (cT, 3, .inr (.inr (.inr (.inr ft)))))] ++ (tw cI a mv jc uc)) → va_S A s.heap H locs → ∀ ls : Array Slot, lv_has ls 7 [(0, .ref h), (1, .int (nI km)), (2, .int f0), (3, .int s0), (4, .int n0), (5, .ref a), (6, .int (nI i))] → W p l e (rmL 5 (mcT j (fp mv f0 s0 n0 (j, L)).1) (msT j (fp mv f0 s0 n0 (j, L)).1)) s m args below meth c H locs (mcT j jc) (msT j jc) Q (F0 m 42 ls []) := by
        clear hP hD hS hL hTA hTN hTH hKn eL hLl hn hRl
        intro cn
        induction cn with
        | zero =>
          intro i jc Lc uc hi hT hjc hst hlc H locs hP hD hS ls hl
          have e1 : jc = (fp mv f0 s0 n0 (j, L)).1 := by rw [← hst]; rfl
          have e2 : Lc = (fp mv f0 s0 n0 (j, L)).2 := by rw [← hst]; rfl
          subst e1
          subst e2
          refine lv_iload hx hb d_hh_fill_42 (lv_at hl 6 rfl) ?_
          refine lv_iload hx hb d_hh_fill_44 (lv_at hl 4 rfl) ?_
          refine lv_icmp_ge (tgt := 69) hx hb d_hh_fill_46 (by decide) (fun _ => ?_) (fun z9 => absurd (by rw [h3]; exact nI_le (by omega) (by omega)) z9)
          obtain ⟨qk, qv, qb, qf, qh, qc, K, V, P, N, G, C, fl, mm, R⟩ := uc
          obtain ⟨Fr, bl, hTA, hTN, hTH, hKn, eL⟩ := hT
          have hTA : TA (2 ^ (4 + ((fp mv f0 s0 n0 (j, L)).1))) ((fp mv f0 s0 n0 (j, L)).1) mm R Fr := hTA
          have hTN : TN P N R := hTN
          have hTH : TH (2 ^ (4 + ((fp mv f0 s0 n0 (j, L)).1))) K G C fl R Fr bl := hTH
          have hKn : (R.map K).Nodup := hKn
          have eL : ((fp mv f0 s0 n0 (j, L)).2) = kv K V R := eL
          have hLl : ((fp mv f0 s0 n0 (j, L)).2).length = R.length := by rw [eL]; exact List.length_map ..
          have hn : 2 ^ (4 + ((fp mv f0 s0 n0 (j, L)).1)) < 2 ^ 31 := (ta_len hTA).2.2
          have hRl : R.length < 2 ^ 31 := (ta_len hTA).2.1
          have hP : va_P D cls ([(h, .inr (1, [.ref r])), (r, .inl (cT, 3, .inr (.inr (.inr (.inr ft)))))] ++ (tx cI a (mvI mv) (nI R.length) qk qv qb qf qh qc (2 ^ (4 + (fp mv f0 s0 n0 (j, L)).1)) K V P N G C fl (nI mm))) H := hP
          have hD : va_D A ([(h, .inr (1, [.ref r])), (r, .inl (cT, 3, .inr (.inr (.inr (.inr ft)))))] ++ (tx cI a (mvI mv) (nI R.length) qk qv qb qf qh qc (2 ^ (4 + (fp mv f0 s0 n0 (j, L)).1)) K V P N G C fl (nI mm))) := hD
          refine lv_aload hx hb d_hh_fill_69 (lv_at hl 5 rfl) ?_
          refine va_get (D := D) (ci := 0) (v := .int (nI R.length)) (C := R_tb) (T := F_tb) (N := 10) hx hb hts i_tb hown hK hP 2 rfl rfl 1 (by decide) (hts _ kf_hh_51) (fun _ h9 => h9) rfl d_hh_fill_71 ?_
          exact cg_iret (u := (qk, qv, qb, qf, qh, qc, K, V, P, N, G, C, fl, mm, R)) hQ hx hb hr hlk hK hP hD hS (⟨by unfold fa; rw [show fo n0 (j, L).2 = true from hfo, ← hLl]; rfl, ⟨Fr, bl, hTA, hTN, hTH, hKn, eL⟩⟩) d_hh_fill_74
        | succ cn ih =>
          intro i jc Lc uc hi hT hjc hst hlc H locs hP hD hS ls hl
          have hstep : fj mv f0 s0 (njs jc (f0 + (nI i * s0)) Lc, st mv (f0 + (nI i * s0)) (nI i) Lc) (i + 1) cn = fp mv f0 s0 n0 (j, L) := hst
          have hj1 := njs_le jc (f0 + (nI i * s0)) Lc
          have hj2 : njs jc (f0 + (nI i * s0)) Lc ≤ (fp mv f0 s0 n0 (j, L)).1 := by rw [← hstep]; exact fj_le (njs jc (f0 + (nI i * s0)) Lc, st mv (f0 + (nI i * s0)) (nI i) Lc) (i + 1)
          have hsl := st_len (mv := mv) (k := (f0 + (nI i * s0))) (v := nI i) (L := Lc)
          refine lv_iload hx hb d_hh_fill_42 (lv_at hl 6 rfl) ?_
          refine lv_iload hx hb d_hh_fill_44 (lv_at hl 4 rfl) ?_
          refine lv_icmp_ge (tgt := 69) hx hb d_hh_fill_46 (by decide) (fun z9 => absurd z9 (by rw [h3]; exact nI_ge (by omega) (by omega))) (fun _ => ?_)
          refine lv_aload hx hb d_hh_fill_49 (lv_at hl 5 rfl) ?_
          refine lv_iload_n hx hb d_hh_fill_51 rfl (lv_at hl 2 rfl) ?_
          refine lv_iload hx hb d_hh_fill_52 (lv_at hl 6 rfl) ?_
          refine lv_iload_n hx hb d_hh_fill_54 rfl (lv_at hl 3 rfl) ?_
          refine lv_imul hx hb d_hh_fill_55 ?_
          refine lv_iadd hx hb d_hh_fill_56 ?_
          refine lv_iload hx hb d_hh_fill_57 (lv_at hl 6 rfl) ?_
          refine cg_V (hn := 2) (As := [.int (f0 + ((nI i) * s0)), .int (nI i)]) (rest := []) (wr := [(h, .inr (1, [.ref r])), (r, .inl (cT, 3, .inr (.inr (.inr (.inr ft)))))]) (q0 := 0) (ci := 0) hx hb hml hown hts (c_tb_store l D cI cT cP a mv jc Lc uc hT (f0 + (nI i * s0)) (nI i) (by omega)) km_hh_24 ki_tb_store ks_tb_store kn_tb kc_tb_store (by decide +kernel) rfl ⟨Nat.le_of_ble_eq_true rfl, Nat.le_of_ble_eq_true rfl⟩ hK hP hD hS hA [2, 3, 4, 5, 6, 7, 8] [0, 1] rfl (by decide) rfl (by decide) (by decide) rfl rfl hl.1 rfl (Nat.le_of_ble_eq_true rfl) d_hh_fill_59 ⟨by show _ ≤ mcT j (fp mv f0 s0 n0 (j, L)).1; rw [mcT_add hjc hj1]; exact mcT_le hj2, by show _ ≤ msT j (fp mv f0 s0 n0 (j, L)).1; rw [msT_add hjc hj1]; exact msT_le hj2⟩ (fun v u H locs hpost hP hD hS => ?_)
          obtain ⟨e9, hT3⟩ := hpost
          subst e9
          refine W.eq (g2 := F0 m 62 ls [.long (an (lk (f0 + (nI i * s0)) Lc))]) rfl ?_
          have hP : va_P D cls ([(h, .inr (1, [.ref r])), (r, .inl (cT, 3, .inr (.inr (.inr (.inr ft)))))] ++ (tw cI a mv (njs jc (f0 + (nI i * s0)) Lc) u)) H := hP
          have hD : va_D A ([(h, .inr (1, [.ref r])), (r, .inl (cT, 3, .inr (.inr (.inr (.inr ft)))))] ++ (tw cI a mv (njs jc (f0 + (nI i * s0)) Lc) u)) := hD
          refine W.widen (k := mcT j (njs jc (f0 + (nI i * s0)) Lc)) (n := msT j (njs jc (f0 + (nI i * s0)) Lc)) (Nat.le_of_eq (mcT_add hjc hj1)) (Nat.le_of_eq (msT_add hjc hj1)) ?_
          refine lv_pop2_2 hx hb d_hh_fill_62 rfl ?_
          refine lv_iinc (v := nI (i + 1)) (lv' := [(6, .int (nI (i + 1))), (0, .ref h), (1, .int (nI km)), (2, .int f0), (3, .int s0), (4, .int n0), (5, .ref a)]) hx hb d_hh_fill_63 hl (k := 6) rfl (inc_n i) (by decide) rfl (fun ls hl => ?_)
          refine lv_goto (tgt := 42) hx hb d_hh_fill_66 (by decide) ?_
          exact ih (i + 1) _ _ u (by omega) hT3 (Nat.le_trans hjc hj1) hstep (by omega) _ _ hP hD hS ls (lv_sub hl [1, 2, 3, 4, 5, 6, 0] rfl)
      refine W.widen (k := mcT j j) (n := msT j j) (Nat.zero_le _) (Nat.zero_le _) ?_
      exact loop c0 0 j L (qk, qv, qb, qf, qh, qc, K, V, P, N, G, C, fl, mm, R) (by omega) hL (Nat.le_refl _) ep (by omega) _ _ hP hD hS ls (lv_sub hl [2, 3, 4, 5, 6, 1, 0] rfl)
    · refine lv_icmp_le (tgt := 39) hx hb d_hh_fill_34 (by decide) (fun z9 => absurd z9 (fun z9 => h5 ((nI_leI (a := R.length) (b := 1000) hRl (by decide)).mp z9))) (fun _ => ?_)
      have hfo : fo n0 L = false := decide_eq_false (fun z9 => by omega)
      have ep : fp mv f0 s0 n0 (j, L) = (j, L) := by unfold fp; rw [hfo]; rfl
      refine lv_iconst (v := (-1)) hx hb d_hh_fill_37 (by decide) ?_
      refine W.widen (k := mcT j (fp mv f0 s0 n0 (j, L)).1) (n := msT j (fp mv f0 s0 n0 (j, L)).1) (Nat.zero_le _) (Nat.zero_le _) ?_
      have hP : va_P D cls ([(h, .inr (1, [.ref r])), (r, .inl (cT, 3, .inr (.inr (.inr (.inr ft)))))] ++ (tw cI a mv (fp mv f0 s0 n0 (j, L)).1 (qk, qv, qb, qf, qh, qc, K, V, P, N, G, C, fl, mm, R))) H := by rw [ep]; exact hP
      have hD : va_D A ([(h, .inr (1, [.ref r])), (r, .inl (cT, 3, .inr (.inr (.inr (.inr ft)))))] ++ (tw cI a mv (fp mv f0 s0 n0 (j, L)).1 (qk, qv, qb, qf, qh, qc, K, V, P, N, G, C, fl, mm, R))) := by rw [ep]; exact hD
      exact cg_iret (u := (qk, qv, qb, qf, qh, qc, K, V, P, N, G, C, fl, mm, R)) hQ hx hb hr hlk hK hP hD hS (⟨by unfold fa; rw [show fo n0 (j, L).2 = false from hfo]; rfl, by rw [ep]; exact ⟨Fr, bl, hTA, hTN, hTH, hKn, eL⟩⟩) d_hh_fill_38
set_option maxRecDepth 100000 in
set_option maxHeartbeats 4000000 in
theorem c_hh_fill_x (l : Launch) (D : va_G) (cI cT cP : ClassId) (h r : Nat) (q : Int32) (hq : bad q) (f0 s0 n0 : Int32) : Cg l y_hh_fill b_hh_fill 7 (some .int) 5 0 0 D (ty3 cI cT cP) [.ref h, .int q, .int f0, .int s0, .int n0] ([(h, .inr (1, [.ref r]))]) (fun (v : Option Value) (u : Unit) => v = some (.int (-1))) (fun u => [(h, .inr (1, [.ref r]))]) := by
  refine cg_enter rfl (Nat.le_of_ble_eq_true rfl) ?_
  intro p e s m below meth c args hx hb hr hlk hml hown hin hts A hA hK hP hD hS ls hl Q hQ
  have hl : lv_has ls 7 [(0, .ref h), (1, .int q), (2, .int f0), (3, .int s0), (4, .int n0)] := hl
  have hP : va_P D cls ([(h, .inr (1, [.ref r]))]) s.heap := hP
  have hD : va_D A ([(h, .inr (1, [.ref r]))]) := hD
  refine lv_aload_n hx hb d_hh_fill_0 rfl (lv_at hl 0 rfl) ?_
  refine lv_iload_n hx hb d_hh_fill_1 rfl (lv_at hl 1 rfl) ?_
  refine cg_V (hn := 1) (As := [.int q]) (rest := []) (wr := []) (q0 := 0) (ci := 1) hx hb hml hown hts (c_hh_tableOf_x l D cI cT cP h r q hq) km_hh_18 ki_hh_tableOf ks_hh_tableOf kn_hh kc_hh_tableOf (by decide +kernel) rfl ⟨Nat.le_of_ble_eq_true rfl, Nat.le_of_ble_eq_true rfl⟩ hK hP hD hS hA [0] [] rfl (by decide) rfl (by decide) (by decide) rfl rfl hl.1 rfl (Nat.le_of_ble_eq_true rfl) d_hh_fill_2 ⟨Nat.zero_le _, Nat.zero_le _⟩ (fun v u H locs hpost hP hD hS => ?_)
  subst hpost
  refine W.eq (g2 := F0 m 5 ls [.null]) rfl ?_
  have hP : va_P D cls ([(h, .inr (1, [.ref r]))]) H := hP
  have hD : va_D A ([(h, .inr (1, [.ref r]))]) := hD
  refine lv_astoreN (lv' := [(5, .null), (0, .ref h), (1, .int q), (2, .int f0), (3, .int s0), (4, .int n0)]) hx hb d_hh_fill_5 hl (by decide) rfl (fun ls hl => ?_)
  refine lv_aloadN hx hb d_hh_fill_7 (lv_at hl 0 rfl) ?_
  refine lv_ifnullN (tgt := 37) hx hb d_hh_fill_9 (by decide) ?_
  refine lv_iconst (v := (-1)) hx hb d_hh_fill_37 (by decide) ?_
  exact cg_iret (u := ()) hQ hx hb hr hlk hK hP hD hS rfl d_hh_fill_38
set_option maxRecDepth 100000 in
set_option maxHeartbeats 4000000 in
/-- same, two maps -/
theorem c_hh_same (l : Launch) (D : va_G) (cI cT cP : ClassId) (h r : Nat) (ft : Nat → Option Nat) (k1 : Nat) (hk1 : k1 < 3) (a : Nat) (hf1 : ft k1 = some a) (k2 : Nat) (hk2 : k2 < 3) (a2 : Nat) (hf2 : ft k2 = some a2) (mv : Bool) (j : Nat) (L : List (Int32 × Int32)) (u0 : TB) (hL : TL j L u0) (mv2 : Bool) (j2 : Nat) (L2 : List (Int32 × Int32)) (u2 : TB) (hL2 : TL j2 L2 u2) : Cg l y_hh_same b_hh_same 5 (some .boolean) 3 0 0 D (ty3 cI cT cP) [.ref h, .int (nI k1), .int (nI k2)] ([(h, .inr (1, [.ref r])), (r, .inl (cT, 3, .inr (.inr (.inr (.inr ft)))))] ++ (tw cI a mv j u0) ++ (tw cI a2 mv2 j2 u2)) (fun (v : Option Value) (u : Unit) => v = some (.int (zI (mt L L2)))) (fun u => [(h, .inr (1, [.ref r])), (r, .inl (cT, 3, .inr (.inr (.inr (.inr ft)))))] ++ (tw cI a mv j u0) ++ (tw cI a2 mv2 j2 u2)) := by
  refine cg_enter rfl (Nat.le_of_ble_eq_true rfl) ?_
  intro p e s m below meth c args hx hb hr hlk hml hown hin hts A hA hK hP hD hS ls hl Q hQ
  have hl : lv_has ls 5 [(0, .ref h), (1, .int (nI k1)), (2, .int (nI k2))] := hl
  have hP : va_P D cls ([(h, .inr (1, [.ref r])), (r, .inl (cT, 3, .inr (.inr (.inr (.inr ft)))))] ++ (tw cI a mv j u0) ++ (tw cI a2 mv2 j2 u2)) s.heap := hP
  have hD : va_D A ([(h, .inr (1, [.ref r])), (r, .inl (cT, 3, .inr (.inr (.inr (.inr ft)))))] ++ (tw cI a mv j u0) ++ (tw cI a2 mv2 j2 u2)) := hD
  refine lv_aload_n hx hb d_hh_same_0 rfl (lv_at hl 0 rfl) ?_
  refine lv_iload_n hx hb d_hh_same_1 rfl (lv_at hl 1 rfl) ?_
  refine cg_V (hn := 1) (As := [.int (nI k1)]) (rest := []) (wr := (tw cI a mv j u0) ++ (tw cI a2 mv2 j2 u2)) (q0 := 0) (ci := 1) hx hb hml hown hts (c_hh_tableOf l D cI cT cP h r ft k1 hk1 a hf1) km_hh_18 ki_hh_tableOf ks_hh_tableOf kn_hh kc_hh_tableOf (by decide +kernel) rfl ⟨Nat.le_of_ble_eq_true rfl, Nat.le_of_ble_eq_true rfl⟩ hK hP hD hS hA [0, 1] [2, 3, 4, 5, 6, 7, 8, 9, 10, 11, 12, 13, 14, 15] rfl (by decide) rfl (by decide) (by decide) rfl rfl hl.1 rfl (Nat.le_of_ble_eq_true rfl) d_hh_same_2 ⟨Nat.zero_le _, Nat.zero_le _⟩ (fun v u H locs hpost hP hD hS => ?_)
  subst hpost
  refine W.eq (g2 := F0 m 5 ls [.ref a]) rfl ?_
  have hP : va_P D cls ((tw cI a mv j u0) ++ (tw cI a2 mv2 j2 u2) ++ [(h, .inr (1, [.ref r])), (r, .inl (cT, 3, .inr (.inr (.inr (.inr ft)))))]) H := hP
  have hD : va_D A ((tw cI a mv j u0) ++ (tw cI a2 mv2 j2 u2) ++ [(h, .inr (1, [.ref r])), (r, .inl (cT, 3, .inr (.inr (.inr (.inr ft)))))]) := hD
  have hP : va_P D cls ([(h, .inr (1, [.ref r])), (r, .inl (cT, 3, .inr (.inr (.inr (.inr ft)))))] ++ (tw cI a mv j u0) ++ (tw cI a2 mv2 j2 u2)) H := hP.sub [14, 15, 0, 1, 2, 3, 4, 5, 6, 7, 8, 9, 10, 11, 12, 13] rfl
  have hD : va_D A ([(h, .inr (1, [.ref r])), (r, .inl (cT, 3, .inr (.inr (.inr (.inr ft)))))] ++ (tw cI a mv j u0) ++ (tw cI a2 mv2 j2 u2)) := hD.sub [14, 15, 0, 1, 2, 3, 4, 5, 6, 7, 8, 9, 10, 11, 12, 13] (by decide) rfl
  refine lv_astore_n (lv' := [(3, .ref a), (0, .ref h), (1, .int (nI k1)), (2, .int (nI k2))]) hx hb d_hh_same_5 rfl hl (by decide) rfl (fun ls hl => ?_)
  refine lv_aload_n hx hb d_hh_same_6 rfl (lv_at hl 1 rfl) ?_
  refine lv_iload_n hx hb d_hh_same_7 rfl (lv_at hl 3 rfl) ?_
  refine cg_V (hn := 1) (As := [.int (nI k2)]) (rest := []) (wr := (tw cI a mv j u0) ++ (tw cI a2 mv2 j2 u2)) (q0 := 0) (ci := 1) hx hb hml hown hts (c_hh_tableOf l D cI cT cP h r ft k2 hk2 a2 hf2) km_hh_18 ki_hh_tableOf ks_hh_tableOf kn_hh kc_hh_tableOf (by decide +kernel) rfl ⟨Nat.le_of_ble_eq_true rfl, Nat.le_of_ble_eq_true rfl⟩ hK hP hD hS hA [0, 1] [2, 3, 4, 5, 6, 7, 8, 9, 10, 11, 12, 13, 14, 15] rfl (by decide) rfl (by decide) (by decide) rfl rfl hl.1 rfl (Nat.le_of_ble_eq_true rfl) d_hh_same_8 ⟨Nat.zero_le _, Nat.zero_le _⟩ (fun v u H locs hpost hP hD hS => ?_)
  subst hpost
  refine W.eq (g2 := F0 m 11 ls [.ref a2]) rfl ?_
  have hP : va_P D cls ((tw cI a mv j u0) ++ (tw cI a2 mv2 j2 u2) ++ [(h, .inr (1, [.ref r])), (r, .inl (cT, 3, .inr (.inr (.inr (.inr ft)))))]) H := hP
  have hD : va_D A ((tw cI a mv j u0) ++ (tw cI a2 mv2 j2 u2) ++ [(h, .inr (1, [.ref r])), (r, .inl (cT, 3, .inr (.inr (.inr (.inr ft)))))]) := hD
  have hP : va_P D cls ([(h, .inr (1, [.ref r])), (r, .inl (cT, 3, .inr (.inr (.inr (.inr ft)))))] ++ (tw cI a mv j u0) ++ (tw cI a2 mv2 j2 u2)) H := hP.sub [14, 15, 0, 1, 2, 3, 4, 5, 6, 7, 8, 9, 10, 11, 12, 13] rfl
  have hD : va_D A ([(h, .inr (1, [.ref r])), (r, .inl (cT, 3, .inr (.inr (.inr (.inr ft)))))] ++ (tw cI a mv j u0) ++ (tw cI a2 mv2 j2 u2)) := hD.sub [14, 15, 0, 1, 2, 3, 4, 5, 6, 7, 8, 9, 10, 11, 12, 13] (by decide) rfl
  refine lv_astore (lv' := [(4, .ref a2), (3, .ref a), (0, .ref h), (1, .int (nI k1)), (2, .int (nI k2))]) hx hb d_hh_same_11 hl (by decide) rfl (fun ls hl => ?_)
  refine lv_aload_n hx hb d_hh_same_13 rfl (lv_at hl 1 rfl) ?_
  refine lv_ifnull hx hb d_hh_same_14 ?_
  refine lv_aload hx hb d_hh_same_17 (lv_at hl 0 rfl) ?_
  refine lv_ifnull hx hb d_hh_same_19 ?_
  refine lv_aload_n hx hb d_hh_same_22 rfl (lv_at hl 1 rfl) ?_
  refine lv_aload hx hb d_hh_same_23 (lv_at hl 0 rfl) ?_
  refine cg_V (hn := 1) (As := [.ref a2]) (rest := []) (wr := [(h, .inr (1, [.ref r])), (r, .inl (cT, 3, .inr (.inr (.inr (.inr ft)))))]) (q0 := 0) (ci := 0) hx hb hml hown hts (c_tb_matches l D cI cT cP a mv j L u0 hL a2 mv2 j2 L2 u2 hL2) km_hh_89 ki_tb_matches ks_tb_matches kn_tb kc_tb_matches (by decide +kernel) rfl ⟨Nat.le_of_ble_eq_true rfl, Nat.le_of_ble_eq_true rfl⟩ hK hP hD hS hA [2, 3, 4, 5, 6, 7, 8, 9, 10, 11, 12, 13, 14, 15] [0, 1] rfl (by decide) rfl (by decide) (by decide) rfl rfl hl.1 rfl (Nat.le_of_ble_eq_true rfl) d_hh_same_25 ⟨Nat.zero_le _, Nat.zero_le _⟩ (fun v u H locs hpost hP hD hS => ?_)
  subst hpost
  refine W.eq (g2 := F0 m 28 ls [.int (zI (mt L L2))]) rfl ?_
  have hP : va_P D cls ([(h, .inr (1, [.ref r])), (r, .inl (cT, 3, .inr (.inr (.inr (.inr ft)))))] ++ (tw cI a mv j u0) ++ (tw cI a2 mv2 j2 u2)) H := hP
  have hD : va_D A ([(h, .inr (1, [.ref r])), (r, .inl (cT, 3, .inr (.inr (.inr (.inr ft)))))] ++ (tw cI a mv j u0) ++ (tw cI a2 mv2 j2 u2)) := hD
  generalize hbb : mt L L2 = bb
  cases bb with
  | false =>
    refine lv_if_eq (tgt := 35) hx hb d_hh_same_28 (by decide) (fun _ => ?_) (fun z9 => absurd rfl z9)
    refine lv_iconst (v := 0) hx hb d_hh_same_35 (by decide) ?_
    exact cg_zret (u := ()) hQ hx hb hr hlk hK hP hD hS rfl (by rw [hbb]; rfl) d_hh_same_36
  | true =>
    refine lv_if_eq (tgt := 35) hx hb d_hh_same_28 (by decide) (fun z9 => absurd z9 (by decide)) (fun _ => ?_)
    refine lv_iconst (v := 1) hx hb d_hh_same_31 (by decide) ?_
    refine lv_goto (tgt := 36) hx hb d_hh_same_32 (by decide) ?_
    exact cg_zret (u := ()) hQ hx hb hr hlk hK hP hD hS rfl (by rw [hbb]; rfl) d_hh_same_36
set_option maxRecDepth 100000 in
set_option maxHeartbeats 4000000 in
/-- same, one map twice -/
theorem c_hh_same_s (l : Launch) (D : va_G) (cI cT cP : ClassId) (h r : Nat) (ft : Nat → Option Nat) (km : Nat) (hkm : km < 3) (a : Nat) (hft : ft km = some a) (mv : Bool) (j : Nat) (L : List (Int32 × Int32)) (u0 : TB) (hL : TL j L u0) : Cg l y_hh_same b_hh_same 5 (some .boolean) 3 0 0 D (ty3 cI cT cP) [.ref h, .int (nI km), .int (nI km)] ([(h, .inr (1, [.ref r])), (r, .inl (cT, 3, .inr (.inr (.inr (.inr ft)))))] ++ (tw cI a mv j u0)) (fun (v : Option Value) (u : Unit) => v = some (.int 1)) (fun u => [(h, .inr (1, [.ref r])), (r, .inl (cT, 3, .inr (.inr (.inr (.inr ft)))))] ++ (tw cI a mv j u0)) := by
  refine cg_enter rfl (Nat.le_of_ble_eq_true rfl) ?_
  intro p e s m below meth c args hx hb hr hlk hml hown hin hts A hA hK hP hD hS ls hl Q hQ
  have hl : lv_has ls 5 [(0, .ref h), (1, .int (nI km)), (2, .int (nI km))] := hl
  have hP : va_P D cls ([(h, .inr (1, [.ref r])), (r, .inl (cT, 3, .inr (.inr (.inr (.inr ft)))))] ++ (tw cI a mv j u0)) s.heap := hP
  have hD : va_D A ([(h, .inr (1, [.ref r])), (r, .inl (cT, 3, .inr (.inr (.inr (.inr ft)))))] ++ (tw cI a mv j u0)) := hD
  refine lv_aload_n hx hb d_hh_same_0 rfl (lv_at hl 0 rfl) ?_
  refine lv_iload_n hx hb d_hh_same_1 rfl (lv_at hl 1 rfl) ?_
  refine cg_V (hn := 1) (As := [.int (nI km)]) (rest := []) (wr := tw cI a mv j u0) (q0 := 0) (ci := 1) hx hb hml hown hts (c_hh_tableOf l D cI cT cP h r ft km hkm a hft) km_hh_18 ki_hh_tableOf ks_hh_tableOf kn_hh kc_hh_tableOf (by decide +kernel) rfl ⟨Nat.le_of_ble_eq_true rfl, Nat.le_of_ble_eq_true rfl⟩ hK hP hD hS hA [0, 1] [2, 3, 4, 5, 6, 7, 8] rfl (by decide) rfl (by decide) (by decide) rfl rfl hl.1 rfl (Nat.le_of_ble_eq_true rfl) d_hh_same_2 ⟨Nat.zero_le _, Nat.zero_le _⟩ (fun v u H locs hpost hP hD hS => ?_)
  subst hpost
  refine W.eq (g2 := F0 m 5 ls [.ref a]) rfl ?_
  have hP : va_P D cls ((tw cI a mv j u0) ++ [(h, .inr (1, [.ref r])), (r, .inl (cT, 3, .inr (.inr (.inr (.inr ft)))))]) H := hP
  have hD : va_D A ((tw cI a mv j u0) ++ [(h, .inr (1, [.ref r])), (r, .inl (cT, 3, .inr (.inr (.inr (.inr ft)))))]) := hD
  have hP : va_P D cls ([(h, .inr (1, [.ref r])), (r, .inl (cT, 3, .inr (.inr (.inr (.inr ft)))))] ++ (tw cI a mv j u0)) H := hP.sub [7, 8, 0, 1, 2, 3, 4, 5, 6] rfl
  have hD : va_D A ([(h, .inr (1, [.ref r])), (r, .inl (cT, 3, .inr (.inr (.inr (.inr ft)))))] ++ (tw cI a mv j u0)) := hD.sub [7, 8, 0, 1, 2, 3, 4, 5, 6] (by decide) rfl
  refine lv_astore_n (lv' := [(3, .ref a), (0, .ref h), (1, .int (nI km)), (2, .int (nI km))]) hx hb d_hh_same_5 rfl hl (by decide) rfl (fun ls hl => ?_)
  refine lv_aload_n hx hb d_hh_same_6 rfl (lv_at hl 1 rfl) ?_
  refine lv_iload_n hx hb d_hh_same_7 rfl (lv_at hl 3 rfl) ?_
  refine cg_V (hn := 1) (As := [.int (nI km)]) (rest := []) (wr := tw cI a mv j u0) (q0 := 0) (ci := 1) hx hb hml hown hts (c_hh_tableOf l D cI cT cP h r ft km hkm a hft) km_hh_18 ki_hh_tableOf ks_hh_tableOf kn_hh kc_hh_tableOf (by decide +kernel) rfl ⟨Nat.le_of_ble_eq_true rfl, Nat.le_of_ble_eq_true rfl⟩ hK hP hD hS hA [0, 1] [2, 3, 4, 5, 6, 7, 8] rfl (by decide) rfl (by decide) (by decide) rfl rfl hl.1 rfl (Nat.le_of_ble_eq_true rfl) d_hh_same_8 ⟨Nat.zero_le _, Nat.zero_le _⟩ (fun v u H locs hpost hP hD hS => ?_)
  subst hpost
  refine W.eq (g2 := F0 m 11 ls [.ref a]) rfl ?_
  have hP : va_P D cls ((tw cI a mv j u0) ++ [(h, .inr (1, [.ref r])), (r, .inl (cT, 3, .inr (.inr (.inr (.inr ft)))))]) H := hP
  have hD : va_D A ((tw cI a mv j u0) ++ [(h, .inr (1, [.ref r])), (r, .inl (cT, 3, .inr (.inr (.inr (.inr ft)))))]) := hD
  have hP : va_P D cls ([(h, .inr (1, [.ref r])), (r, .inl (cT, 3, .inr (.inr (.inr (.inr ft)))))] ++ (tw cI a mv j u0)) H := hP.sub [7, 8, 0, 1, 2, 3, 4, 5, 6] rfl
  have hD : va_D A ([(h, .inr (1, [.ref r])), (r, .inl (cT, 3, .inr (.inr (.inr (.inr ft)))))] ++ (tw cI a mv j u0)) := hD.sub [7, 8, 0, 1, 2, 3, 4, 5, 6] (by decide) rfl
  refine lv_astore (lv' := [(4, .ref a), (3, .ref a), (0, .ref h), (1, .int (nI km)), (2, .int (nI km))]) hx hb d_hh_same_11 hl (by decide) rfl (fun ls hl => ?_)
  refine lv_aload_n hx hb d_hh_same_13 rfl (lv_at hl 1 rfl) ?_
  refine lv_ifnull hx hb d_hh_same_14 ?_
  refine lv_aload hx hb d_hh_same_17 (lv_at hl 0 rfl) ?_
  refine lv_ifnull hx hb d_hh_same_19 ?_
  refine lv_aload_n hx hb d_hh_same_22 rfl (lv_at hl 1 rfl) ?_
  refine lv_aload hx hb d_hh_same_23 (lv_at hl 0 rfl) ?_
  refine cg_V (hn := 1) (As := [.ref a]) (rest := []) (wr := [(h, .inr (1, [.ref r])), (r, .inl (cT, 3, .inr (.inr (.inr (.inr ft)))))]) (q0 := 0) (ci := 0) hx hb hml hown hts (c_tb_matches_self l D cI cT cP a mv j L u0 hL) km_hh_89 ki_tb_matches ks_tb_matches kn_tb kc_tb_matches (by decide +kernel) rfl ⟨Nat.le_of_ble_eq_true rfl, Nat.le_of_ble_eq_true rfl⟩ hK hP hD hS hA [2, 3, 4, 5, 6, 7, 8] [0, 1] rfl (by decide) rfl (by decide) (by decide) rfl rfl hl.1 rfl (Nat.le_of_ble_eq_true rfl) d_hh_same_25 ⟨Nat.zero_le _, Nat.zero_le _⟩ (fun v u H locs hpost hP hD hS => ?_)
  subst hpost
  refine W.eq (g2 := F0 m 28 ls [.int 1]) rfl ?_
  have hP : va_P D cls ([(h, .inr (1, [.ref r])), (r, .inl (cT, 3, .inr (.inr (.inr (.inr ft)))))] ++ (tw cI a mv j u0)) H := hP
  have hD : va_D A ([(h, .inr (1, [.ref r])), (r, .inl (cT, 3, .inr (.inr (.inr (.inr ft)))))] ++ (tw cI a mv j u0)) := hD
  refine lv_if_eq (tgt := 35) hx hb d_hh_same_28 (by decide) (fun z9 => absurd z9 (by decide)) (fun _ => ?_)
  refine lv_iconst (v := 1) hx hb d_hh_same_31 (by decide) ?_
  refine lv_goto (tgt := 36) hx hb d_hh_same_32 (by decide) ?_
  exact cg_zret (u := ()) hQ hx hb hr hlk hK hP hD hS rfl rfl d_hh_same_36
set_option maxRecDepth 100000 in
set_option maxHeartbeats 4000000 in
/-- same, refused -/
theorem c_hh_same_x (l : Launch) (D : va_G) (cI cT cP : ClassId) (h r : Nat) (ft : Nat → Option Nat) (hft : ∀ k, k < 3 → ∃ b, ft k = some b) (q1 q2 : Int32) (hq : bad q1 ∨ bad q2) : Cg l y_hh_same b_hh_same 5 (some .boolean) 3 0 0 D (ty3 cI cT cP) [.ref h, .int q1, .int q2] ([(h, .inr (1, [.ref r])), (r, .inl (cT, 3, .inr (.inr (.inr (.inr ft)))))]) (fun (v : Option Value) (u : Unit) => v = some (.int 0)) (fun u => [(h, .inr (1, [.ref r])), (r, .inl (cT, 3, .inr (.inr (.inr (.inr ft)))))]) := by
  refine cg_enter rfl (Nat.le_of_ble_eq_true rfl) ?_
  intro p e s m below meth c args hx hb hr hlk hml hown hin hts A hA hK hP hD hS ls hl Q hQ
  have hl : lv_has ls 5 [(0, .ref h), (1, .int q1), (2, .int q2)] := hl
  have hP : va_P D cls ([(h, .inr (1, [.ref r])), (r, .inl (cT, 3, .inr (.inr (.inr (.inr ft)))))]) s.heap := hP
  have hD : va_D A ([(h, .inr (1, [.ref r])), (r, .inl (cT, 3, .inr (.inr (.inr (.inr ft)))))]) := hD
  rcases bad_or q1 with b1 | ⟨k1, hk1, e1⟩
  · rcases bad_or q2 with b2 | ⟨k2, hk2, e2⟩
    · refine lv_aload_n hx hb d_hh_same_0 rfl (lv_at hl 0 rfl) ?_
      refine lv_iload_n hx hb d_hh_same_1 rfl (lv_at hl 1 rfl) ?_
      refine cg_V (hn := 1) (As := [.int q1]) (rest := []) (wr := [(r, .inl (cT, 3, .inr (.inr (.inr (.inr ft)))))]) (q0 := 0) (ci := 1) hx hb hml hown hts (c_hh_tableOf_x l D cI cT cP h r q1 b1) km_hh_18 ki_hh_tableOf ks_hh_tableOf kn_hh kc_hh_tableOf (by decide +kernel) rfl ⟨Nat.le_of_ble_eq_true rfl, Nat.le_of_ble_eq_true rfl⟩ hK hP hD hS hA [0] [1] rfl (by decide) rfl (by decide) (by decide) rfl rfl hl.1 rfl (Nat.le_of_ble_eq_true rfl) d_hh_same_2 ⟨Nat.zero_le _, Nat.zero_le _⟩ (fun v u H locs hpost hP hD hS => ?_)
      subst hpost
      refine W.eq (g2 := F0 m 5 ls [.null]) rfl ?_
      have hP : va_P D cls ([(r, .inl (cT, 3, .inr (.inr (.inr (.inr ft))))), (h, .inr (1, [.ref r]))]) H := hP
      have hD : va_D A ([(r, .inl (cT, 3, .inr (.inr (.inr (.inr ft))))), (h, .inr (1, [.ref r]))]) := hD
      have hP : va_P D cls ([(h, .inr (1, [.ref r])), (r, .inl (cT, 3, .inr (.inr (.inr (.inr ft)))))]) H := hP.sub [1, 0] rfl
      have hD : va_D A ([(h, .inr (1, [.ref r])), (r, .inl (cT, 3, .inr (.inr (.inr (.inr ft)))))]) := hD.sub [1, 0] (by decide) rfl
      refine lv_astore_nN (lv' := [(3, .null), (0, .ref h), (1, .int q1), (2, .int q2)]) hx hb d_hh_same_5 rfl hl (by decide) rfl (fun ls hl => ?_)
      refine lv_aload_n hx hb d_hh_same_6 rfl (lv_at hl 1 rfl) ?_
      refine lv_iload_n hx hb d_hh_same_7 rfl (lv_at hl 3 rfl) ?_
      refine cg_V (hn := 1) (As := [.int q2]) (rest := []) (wr := [(r, .inl (cT, 3, .inr (.inr (.inr (.inr ft)))))]) (q0 := 0) (ci := 1) hx hb hml hown hts (c_hh_tableOf_x l D cI cT cP h r q2 b2) km_hh_18 ki_hh_tableOf ks_hh_tableOf kn_hh kc_hh_tableOf (by decide +kernel) rfl ⟨Nat.le_of_ble_eq_true rfl, Nat.le_of_ble_eq_true rfl⟩ hK hP hD hS hA [0] [1] rfl (by decide) rfl (by decide) (by decide) rfl rfl hl.1 rfl (Nat.le_of_ble_eq_true rfl) d_hh_same_8 ⟨Nat.zero_le _, Nat.zero_le _⟩ (fun v u H locs hpost hP hD hS => ?_)
      subst hpost
      refine W.eq (g2 := F0 m 11 ls [.null]) rfl ?_
      have hP : va_P D cls ([(r, .inl (cT, 3, .inr (.inr (.inr (.inr ft))))), (h, .inr (1, [.ref r]))]) H := hP
      have hD : va_D A ([(r, .inl (cT, 3, .inr (.inr (.inr (.inr ft))))), (h, .inr (1, [.ref r]))]) := hD
      have hP : va_P D cls ([(h, .inr (1, [.ref r])), (r, .inl (cT, 3, .inr (.inr (.inr (.inr ft)))))]) H := hP.sub [1, 0] rfl
      have hD : va_D A ([(h, .inr (1, [.ref r])), (r, .inl (cT, 3, .inr (.inr (.inr (.inr ft)))))]) := hD.sub [1, 0] (by decide) rfl
      refine lv_astoreN (lv' := [(4, .null), (3, .null), (0, .ref h), (1, .int q1), (2, .int q2)]) hx hb d_hh_same_11 hl (by decide) rfl (fun ls hl => ?_)
      refine lv_aload_nN hx hb d_hh_same_13 rfl (lv_at hl 1 rfl) ?_
      refine lv_ifnullN (tgt := 35) hx hb d_hh_same_14 (by decide) ?_
      refine lv_iconst (v := 0) hx hb d_hh_same_35 (by decide) ?_
      exact cg_zret (u := ()) hQ hx hb hr hlk hK hP hD hS rfl rfl d_hh_same_36
    · obtain ⟨a2, hf2⟩ := hft k2 hk2
      subst e2
      refine lv_aload_n hx hb d_hh_same_0 rfl (lv_at hl 0 rfl) ?_
      refine lv_iload_n hx hb d_hh_same_1 rfl (lv_at hl 1 rfl) ?_
      refine cg_V (hn := 1) (As := [.int q1]) (rest := []) (wr := [(r, .inl (cT, 3, .inr (.inr (.inr (.inr ft)))))]) (q0 := 0) (ci := 1) hx hb hml hown hts (c_hh_tableOf_x l D cI cT cP h r q1 b1) km_hh_18 ki_hh_tableOf ks_hh_tableOf kn_hh kc_hh_tableOf (by decide +kernel) rfl ⟨Nat.le_of_ble_eq_true rfl, Nat.le_of_ble_eq_true rfl⟩ hK hP hD hS hA [0] [1] rfl (by decide) rfl (by decide) (by decide) rfl rfl hl.1 rfl (Nat.le_of_ble_eq_true rfl) d_hh_same_2 ⟨Nat.zero_le _, Nat.zero_le _⟩ (fun v u H locs hpost hP hD hS => ?_)
      subst hpost
      refine W.eq (g2 := F0 m 5 ls [.null]) rfl ?_
      have hP : va_P D cls ([(r, .inl (cT, 3, .inr (.inr (.inr (.inr ft))))), (h, .inr (1, [.ref r]))]) H := hP
      have hD : va_D A ([(r, .inl (cT, 3, .inr (.inr (.inr (.inr ft))))), (h, .inr (1, [.ref r]))]) := hD
      have hP : va_P D cls ([(h, .inr (1, [.ref r])), (r, .inl (cT, 3, .inr (.inr (.inr (.inr ft)))))]) H := hP.sub [1, 0] rfl
      have hD : va_D A ([(h, .inr (1, [.ref r])), (r, .inl (cT, 3, .inr (.inr (.inr (.inr ft)))))]) := hD.sub [1, 0] (by decide) rfl
      refine lv_astore_nN (lv' := [(3, .null), (0, .ref h), (1, .int q1), (2, .int (nI k2))]) hx hb d_hh_same_5 rfl hl (by decide) rfl (fun ls hl => ?_)
      refine lv_aload_n hx hb d_hh_same_6 rfl (lv_at hl 1 rfl) ?_
      refine lv_iload_n hx hb d_hh_same_7 rfl (lv_at hl 3 rfl) ?_
      refine cg_V (hn := 1) (As := [.int (nI k2)]) (rest := []) (wr := []) (q0 := 0) (ci := 1) hx hb hml hown hts (c_hh_tableOf l D cI cT cP h r ft k2 hk2 a2 hf2) km_hh_18 ki_hh_tableOf ks_hh_tableOf kn_hh kc_hh_tableOf (by decide +kernel) rfl ⟨Nat.le_of_ble_eq_true rfl, Nat.le_of_ble_eq_true rfl⟩ hK hP hD hS hA [0, 1] [] rfl (by decide) rfl (by decide) (by decide) rfl rfl hl.1 rfl (Nat.le_of_ble_eq_true rfl) d_hh_same_8 ⟨Nat.zero_le _, Nat.zero_le _⟩ (fun v u H locs hpost hP hD hS => ?_)
      subst hpost
      refine W.eq (g2 := F0 m 11 ls [.ref a2]) rfl ?_
      have hP : va_P D cls ([(h, .inr (1, [.ref r])), (r, .inl (cT, 3, .inr (.inr (.inr (.inr ft)))))]) H := hP
      have hD : va_D A ([(h, .inr (1, [.ref r])), (r, .inl (cT, 3, .inr (.inr (.inr (.inr ft)))))]) := hD
      have hP : va_P D cls ([(h, .inr (1, [.ref r])), (r, .inl (cT, 3, .inr (.inr (.inr (.inr ft)))))]) H := hP.sub [0, 1] rfl
      have hD : va_D A ([(h, .inr (1, [.ref r])), (r, .inl (cT, 3, .inr (.inr (.inr (.inr ft)))))]) := hD.sub [0, 1] (by decide) rfl
      refine lv_astore (lv' := [(4, .ref a2), (3, .null), (0, .ref h), (1, .int q1), (2, .int (nI k2))]) hx hb d_hh_same_11 hl (by decide) rfl (fun ls hl => ?_)
      refine lv_aload_nN hx hb d_hh_same_13 rfl (lv_at hl 1 rfl) ?_
      refine lv_ifnullN (tgt := 35) hx hb d_hh_same_14 (by decide) ?_
      refine lv_iconst (v := 0) hx hb d_hh_same_35 (by decide) ?_
      exact cg_zret (u := ()) hQ hx hb hr hlk hK hP hD hS rfl rfl d_hh_same_36
  · obtain ⟨a1, hf1⟩ := hft k1 hk1
    rcases bad_or q2 with b2 | ⟨k2, hk2, e2⟩
    · subst e1
      refine lv_aload_n hx hb d_hh_same_0 rfl (lv_at hl 0 rfl) ?_
      refine lv_iload_n hx hb d_hh_same_1 rfl (lv_at hl 1 rfl) ?_
      refine cg_V (hn := 1) (As := [.int (nI k1)]) (rest := []) (wr := []) (q0 := 0) (ci := 1) hx hb hml hown hts (c_hh_tableOf l D cI cT cP h r ft k1 hk1 a1 hf1) km_hh_18 ki_hh_tableOf ks_hh_tableOf kn_hh kc_hh_tableOf (by decide +kernel) rfl ⟨Nat.le_of_ble_eq_true rfl, Nat.le_of_ble_eq_true rfl⟩ hK hP hD hS hA [0, 1] [] rfl (by decide) rfl (by decide) (by decide) rfl rfl hl.1 rfl (Nat.le_of_ble_eq_true rfl) d_hh_same_2 ⟨Nat.zero_le _, Nat.zero_le _⟩ (fun v u H locs hpost hP hD hS => ?_)
      subst hpost
      refine W.eq (g2 := F0 m 5 ls [.ref a1]) rfl ?_
      have hP : va_P D cls ([(h, .inr (1, [.ref r])), (r, .inl (cT, 3, .inr (.inr (.inr (.inr ft)))))]) H := hP
      have hD : va_D A ([(h, .inr (1, [.ref r])), (r, .inl (cT, 3, .inr (.inr (.inr (.inr ft)))))]) := hD
      have hP : va_P D cls ([(h, .inr (1, [.ref r])), (r, .inl (cT, 3, .inr (.inr (.inr (.inr ft)))))]) H := hP.sub [0, 1] rfl
      have hD : va_D A ([(h, .inr (1, [.ref r])), (r, .inl (cT, 3, .inr (.inr (.inr (.inr ft)))))]) := hD.sub [0, 1] (by decide) rfl
      refine lv_astore_n (lv' := [(3, .ref a1), (0, .ref h), (1, .int (nI k1)), (2, .int q2)]) hx hb d_hh_same_5 rfl hl (by decide) rfl (fun ls hl => ?_)
      refine lv_aload_n hx hb d_hh_same_6 rfl (lv_at hl 1 rfl) ?_
      refine lv_iload_n hx hb d_hh_same_7 rfl (lv_at hl 3 rfl) ?_
      refine cg_V (hn := 1) (As := [.int q2]) (rest := []) (wr := [(r, .inl (cT, 3, .inr (.inr (.inr (.inr ft)))))]) (q0 := 0) (ci := 1) hx hb hml hown hts (c_hh_tableOf_x l D cI cT cP h r q2 b2) km_hh_18 ki_hh_tableOf ks_hh_tableOf kn_hh kc_hh_tableOf (by decide +kernel) rfl ⟨Nat.le_of_ble_eq_true rfl, Nat.le_of_ble_eq_true rfl⟩ hK hP hD hS hA [0] [1] rfl (by decide) rfl (by decide) (by decide) rfl rfl hl.1 rfl (Nat.le_of_ble_eq_true rfl) d_hh_same_8 ⟨Nat.zero_le _, Nat.zero_le _⟩ (fun v u H locs hpost hP hD hS => ?_)
      subst hpost
      refine W.eq (g2 := F0 m 11 ls [.null]) rfl ?_
      have hP : va_P D cls ([(r, .inl (cT, 3, .inr (.inr (.inr (.inr ft))))), (h, .inr (1, [.ref r]))]) H := hP
      have hD : va_D A ([(r, .inl (cT, 3, .inr (.inr (.inr (.inr ft))))), (h, .inr (1, [.ref r]))]) := hD
      have hP : va_P D cls ([(h, .inr (1, [.ref r])), (r, .inl (cT, 3, .inr (.inr (.inr (.inr ft)))))]) H := hP.sub [1, 0] rfl
      have hD : va_D A ([(h, .inr (1, [.ref r])), (r, .inl (cT, 3, .inr (.inr (.inr (.inr ft)))))]) := hD.sub [1, 0] (by decide) rfl
      refine lv_astoreN (lv' := [(4, .null), (3, .ref a1), (0, .ref h), (1, .int (nI k1)), (2, .int q2)]) hx hb d_hh_same_11 hl (by decide) rfl (fun ls hl => ?_)
      refine lv_aload_n hx hb d_hh_same_13 rfl (lv_at hl 1 rfl) ?_
      refine lv_ifnull hx hb d_hh_same_14 ?_
      refine lv_aloadN hx hb d_hh_same_17 (lv_at hl 0 rfl) ?_
      refine lv_ifnullN (tgt := 35) hx hb d_hh_same_19 (by decide) ?_
      refine lv_iconst (v := 0) hx hb d_hh_same_35 (by decide) ?_
      exact cg_zret (u := ()) hQ hx hb hr hlk hK hP hD hS rfl rfl d_hh_same_36
    · obtain ⟨a2, hf2⟩ := hft k2 hk2
      have nb : ∀ k, k < 3 → ¬ bad (nI k) := fun k hk z9 => z9.elim (nI_pos (by omega)) (nI_ge hk (by decide))
      exact absurd hq (fun z9 => z9.elim (fun z8 => nb k1 hk1 (e1 ▸ z8)) (fun z8 => nb k2 hk2 (e2 ▸ z8)))
set_option maxRecDepth 100000 in
set_option maxHeartbeats 4000000 in
/-- pour, refused -/
theorem c_hh_pour_x (l : Launch) (D : va_G) (cI cT cP : ClassId) (h r : Nat) (ft : Nat → Option Nat) (hft : ∀ k, k < 3 → ∃ b, ft k = some b) (q1 q2 : Int32) (hq : bad q1 ∨ bad q2 ∨ q1 = q2) : Cg l y_hh_pour b_hh_pour 5 (some .int) 6 0 0 D (ty3 cI cT cP) [.ref h, .int q1, .int q2] ([(h, .inr (1, [.ref r])), (r, .inl (cT, 3, .inr (.inr (.inr (.inr ft)))))]) (fun (v : Option Value) (u : Unit) => v = some (.int (-1))) (fun u => [(h, .inr (1, [.ref r])), (r, .inl (cT, 3, .inr (.inr (.inr (.inr ft)))))]) := by
  refine cg_enter rfl (Nat.le_of_ble_eq_true rfl) ?_
  intro p e s m below meth c args hx hb hr hlk hml hown hin hts A hA hK hP hD hS ls hl Q hQ
  have hl : lv_has ls 5 [(0, .ref h), (1, .int q1), (2, .int q2)] := hl
  have hP : va_P D cls ([(h, .inr (1, [.ref r])), (r, .inl (cT, 3, .inr (.inr (.inr (.inr ft)))))]) s.heap := hP
  have hD : va_D A ([(h, .inr (1, [.ref r])), (r, .inl (cT, 3, .inr (.inr (.inr (.inr ft)))))]) := hD
  rcases bad_or q1 with b1 | ⟨k1, hk1, e1⟩
  · rcases bad_or q2 with b2 | ⟨k2, hk2, e2⟩
    · refine lv_aload_n hx hb d_hh_pour_0 rfl (lv_at hl 0 rfl) ?_
      refine lv_iload_n hx hb d_hh_pour_1 rfl (lv_at hl 1 rfl) ?_
      refine cg_V (hn := 1) (As := [.int q1]) (rest := []) (wr := [(r, .inl (cT, 3, .inr (.inr (.inr (.inr ft)))))]) (q0 := 0) (ci := 1) hx hb hml hown hts (c_hh_tableOf_x l D cI cT cP h r q1 b1) km_hh_18 ki_hh_tableOf ks_hh_tableOf kn_hh kc_hh_tableOf (by decide +kernel) rfl ⟨Nat.le_of_ble_eq_true rfl, Nat.le_of_ble_eq_true rfl⟩ hK hP hD hS hA [0] [1] rfl (by decide) rfl (by decide) (by decide) rfl rfl hl.1 rfl (Nat.le_of_ble_eq_true rfl) d_hh_pour_2 ⟨Nat.zero_le _, Nat.zero_le _⟩ (fun v u H locs hpost hP hD hS => ?_)
      subst hpost
      refine W.eq (g2 := F0 m 5 ls [.null]) rfl ?_
      have hP : va_P D cls ([(r, .inl (cT, 3, .inr (.inr (.inr (.inr ft))))), (h, .inr (1, [.ref r]))]) H := hP
      have hD : va_D A ([(r, .inl (cT, 3, .inr (.inr (.inr (.inr ft))))), (h, .inr (1, [.ref r]))]) := hD
      have hP : va_P D cls ([(h, .inr (1, [.ref r])), (r, .inl (cT, 3, .inr (.inr (.inr (.inr ft)))))]) H := hP.sub [1, 0] rfl
      have hD : va_D A ([(h, .inr (1, [.ref r])), (r, .inl (cT, 3, .inr (.inr (.inr (.inr ft)))))]) := hD.sub [1, 0] (by decide) rfl
      refine lv_astore_nN (lv' := [(3, .null), (0, .ref h), (1, .int q1), (2, .int q2)]) hx hb d_hh_pour_5 rfl hl (by decide) rfl (fun ls hl => ?_)
      refine lv_aload_n hx hb d_hh_pour_6 rfl (lv_at hl 1 rfl) ?_
      refine lv_iload_n hx hb d_hh_pour_7 rfl (lv_at hl 3 rfl) ?_
      refine cg_V (hn := 1) (As := [.int q2]) (rest := []) (wr := [(r, .inl (cT, 3, .inr (.inr (.inr (.inr ft)))))]) (q0 := 0) (ci := 1) hx hb hml hown hts (c_hh_tableOf_x l D cI cT cP h r q2 b2) km_hh_18 ki_hh_tableOf ks_hh_tableOf kn_hh kc_hh_tableOf (by decide +kernel) rfl ⟨Nat.le_of_ble_eq_true rfl, Nat.le_of_ble_eq_true rfl⟩ hK hP hD hS hA [0] [1] rfl (by decide) rfl (by decide) (by decide) rfl rfl hl.1 rfl (Nat.le_of_ble_eq_true rfl) d_hh_pour_8 ⟨Nat.zero_le _, Nat.zero_le _⟩ (fun v u H locs hpost hP hD hS => ?_)
      subst hpost
      refine W.eq (g2 := F0 m 11 ls [.null]) rfl ?_
      have hP : va_P D cls ([(r, .inl (cT, 3, .inr (.inr (.inr (.inr ft))))), (h, .inr (1, [.ref r]))]) H := hP
      have hD : va_D A ([(r, .inl (cT, 3, .inr (.inr (.inr (.inr ft))))), (h, .inr (1, [.ref r]))]) := hD
      have hP : va_P D cls ([(h, .inr (1, [.ref r])), (r, .inl (cT, 3, .inr (.inr (.inr (.inr ft)))))]) H := hP.sub [1, 0] rfl
      have hD : va_D A ([(h, .inr (1, [.ref r])), (r, .inl (cT, 3, .inr (.inr (.inr (.inr ft)))))]) := hD.sub [1, 0] (by decide) rfl
      refine lv_astoreN (lv' := [(4, .null), (3, .null), (0, .ref h), (1, .int q1), (2, .int q2)]) hx hb d_hh_pour_11 hl (by decide) rfl (fun ls hl => ?_)
      refine lv_aload_nN hx hb d_hh_pour_13 rfl (lv_at hl 1 rfl) ?_
      refine lv_ifnullN (tgt := 27) hx hb d_hh_pour_14 (by decide) ?_
      refine lv_iconst (v := (-1)) hx hb d_hh_pour_27 (by decide) ?_
      exact cg_iret (u := ()) hQ hx hb hr hlk hK hP hD hS rfl d_hh_pour_28
    · obtain ⟨a2, hf2⟩ := hft k2 hk2
      subst e2
      refine lv_aload_n hx hb d_hh_pour_0 rfl (lv_at hl 0 rfl) ?_
      refine lv_iload_n hx hb d_hh_pour_1 rfl (lv_at hl 1 rfl) ?_
      refine cg_V (hn := 1) (As := [.int q1]) (rest := []) (wr := [(r, .inl (cT, 3, .inr (.inr (.inr (.inr ft)))))]) (q0 := 0) (ci := 1) hx hb hml hown hts (c_hh_tableOf_x l D cI cT cP h r q1 b1) km_hh_18 ki_hh_tableOf ks_hh_tableOf kn_hh kc_hh_tableOf (by decide +kernel) rfl ⟨Nat.le_of_ble_eq_true rfl, Nat.le_of_ble_eq_true rfl⟩ hK hP hD hS hA [0] [1] rfl (by decide) rfl (by decide) (by decide) rfl rfl hl.1 rfl (Nat.le_of_ble_eq_true rfl) d_hh_pour_2 ⟨Nat.zero_le _, Nat.zero_le _⟩ (fun v u H locs hpost hP hD hS => ?_)
      subst hpost
      refine W.eq (g2 := F0 m 5 ls [.null]) rfl ?_
      have hP : va_P D cls ([(r, .inl (cT, 3, .inr (.inr (.inr (.inr ft))))), (h, .inr (1, [.ref r]))]) H := hP
      have hD : va_D A ([(r, .inl (cT, 3, .inr (.inr (.inr (.inr ft))))), (h, .inr (1, [.ref r]))]) := hD
      have hP : va_P D cls ([(h, .inr (1, [.ref r])), (r, .inl (cT, 3, .inr (.inr (.inr (.inr ft)))))]) H := hP.sub [1, 0] rfl
      have hD : va_D A ([(h, .inr (1, [.ref r])), (r, .inl (cT, 3, .inr (.inr (.inr (.inr ft)))))]) := hD.sub [1, 0] (by decide) rfl
      refine lv_astore_nN (lv' := [(3, .null), (0, .ref h), (1, .int q1), (2, .int (nI k2))]) hx hb d_hh_pour_5 rfl hl (by decide) rfl (fun ls hl => ?_)
      refine lv_aload_n hx hb d_hh_pour_6 rfl (lv_at hl 1 rfl) ?_
      refine lv_iload_n hx hb d_hh_pour_7 rfl (lv_at hl 3 rfl) ?_
      refine cg_V (hn := 1) (As := [.int (nI k2)]) (rest := []) (wr := []) (q0 := 0) (ci := 1) hx hb hml hown hts (c_hh_tableOf l D cI cT cP h r ft k2 hk2 a2 hf2) km_hh_18 ki_hh_tableOf ks_hh_tableOf kn_hh kc_hh_tableOf (by decide +kernel) rfl ⟨Nat.le_of_ble_eq_true rfl, Nat.le_of_ble_eq_true rfl⟩ hK hP hD hS hA [0, 1] [] rfl (by decide) rfl (by decide) (by decide) rfl rfl hl.1 rfl (Nat.le_of_ble_eq_true rfl) d_hh_pour_8 ⟨Nat.zero_le _, Nat.zero_le _⟩ (fun v u H locs hpost hP hD hS => ?_)
      subst hpost
      refine W.eq (g2 := F0 m 11 ls [.ref a2]) rfl ?_
      have hP : va_P D cls ([(h, .inr (1, [.ref r])), (r, .inl (cT, 3, .inr (.inr (.inr (.inr ft)))))]) H := hP
      have hD : va_D A ([(h, .inr (1, [.ref r])), (r, .inl (cT, 3, .inr (.inr (.inr (.inr ft)))))]) := hD
      have hP : va_P D cls ([(h, .inr (1, [.ref r])), (r, .inl (cT, 3, .inr (.inr (.inr (.inr ft)))))]) H := hP.sub [0, 1] rfl
      have hD : va_D A ([(h, .inr (1, [.ref r])), (r, .inl (cT, 3, .inr (.inr (.inr (.inr ft)))))]) := hD.sub [0, 1] (by decide) rfl
      refine lv_astore (lv' := [(4, .ref a2), (3, .null), (0, .ref h), (1, .int q1), (2, .int (nI k2))]) hx hb d_hh_pour_11 hl (by decide) rfl (fun ls hl => ?_)
      refine lv_aload_nN hx hb d_hh_pour_13 rfl (lv_at hl 1 rfl) ?_
      refine lv_ifnullN (tgt := 27) hx hb d_hh_pour_14 (by decide) ?_
      refine lv_iconst (v := (-1)) hx hb d_hh_pour_27 (by decide) ?_
      exact cg_iret (u := ()) hQ hx hb hr hlk hK hP hD hS rfl d_hh_pour_28
  · obtain ⟨a1, hf1⟩ := hft k1 hk1
    rcases bad_or q2 with b2 | ⟨k2, hk2, e2⟩
    · subst e1
      refine lv_aload_n hx hb d_hh_pour_0 rfl (lv_at hl 0 rfl) ?_
      refine lv_iload_n hx hb d_hh_pour_1 rfl (lv_at hl 1 rfl) ?_
      refine cg_V (hn := 1) (As := [.int (nI k1)]) (rest := []) (wr := []) (q0 := 0) (ci := 1) hx hb hml hown hts (c_hh_tableOf l D cI cT cP h r ft k1 hk1 a1 hf1) km_hh_18 ki_hh_tableOf ks_hh_tableOf kn_hh kc_hh_tableOf (by decide +kernel) rfl ⟨Nat.le_of_ble_eq_true rfl, Nat.le_of_ble_eq_true rfl⟩ hK hP hD hS hA [0, 1] [] rfl (by decide) rfl (by decide) (by decide) rfl rfl hl.1 rfl (Nat.le_of_ble_eq_true rfl) d_hh_pour_2 ⟨Nat.zero_le _, Nat.zero_le _⟩ (fun v u H locs hpost hP hD hS => ?_)
      subst hpost
      refine W.eq (g2 := F0 m 5 ls [.ref a1]) rfl ?_
      have hP : va_P D cls ([(h, .inr (1, [.ref r])), (r, .inl (cT, 3, .inr (.inr (.inr (.inr ft)))))]) H := hP
      have hD : va_D A ([(h, .inr (1, [.ref r])), (r, .inl (cT, 3, .inr (.inr (.inr (.inr ft)))))]) := hD
      have hP : va_P D cls ([(h, .inr (1, [.ref r])), (r, .inl (cT, 3, .inr (.inr (.inr (.inr ft)))))]) H := hP.sub [0, 1] rfl
      have hD : va_D A ([(h, .inr (1, [.ref r])), (r, .inl (cT, 3, .inr (.inr (.inr (.inr ft)))))]) := hD.sub [0, 1] (by decide) rfl
      refine lv_astore_n (lv' := [(3, .ref a1), (0, .ref h), (1, .int (nI k1)), (2, .int q2)]) hx hb d_hh_pour_5 rfl hl (by decide) rfl (fun ls hl => ?_)
      refine lv_aload_n hx hb d_hh_pour_6 rfl (lv_at hl 1 rfl) ?_
      refine lv_iload_n hx hb d_hh_pour_7 rfl (lv_at hl 3 rfl) ?_
      refine cg_V (hn := 1) (As := [.int q2]) (rest := []) (wr := [(r, .inl (cT, 3, .inr (.inr (.inr (.inr ft)))))]) (q0 := 0) (ci := 1) hx hb hml hown hts (c_hh_tableOf_x l D cI cT cP h r q2 b2) km_hh_18 ki_hh_tableOf ks_hh_tableOf kn_hh kc_hh_tableOf (by decide +kernel) rfl ⟨Nat.le_of_ble_eq_true rfl, Nat.le_of_ble_eq_true rfl⟩ hK hP hD hS hA [0] [1] rfl (by decide) rfl (by decide) (by decide) rfl rfl hl.1 rfl (Nat.le_of_ble_eq_true rfl) d_hh_pour_8 ⟨Nat.zero_le _, Nat.zero_le _⟩ (fun v u H locs hpost hP hD hS => ?_)
      subst hpost
      refine W.eq (g2 := F0 m 11 ls [.null]) rfl ?_
      have hP : va_P D cls ([(r, .inl (cT, 3, .inr (.inr (.inr (.inr ft))))), (h, .inr (1, [.ref r]))]) H := hP
      have hD : va_D A ([(r, .inl (cT, 3, .inr (.inr (.inr (.inr ft))))), (h, .inr (1, [.ref r]))]) := hD
      have hP : va_P D cls ([(h, .inr (1, [.ref r])), (r, .inl (cT, 3, .inr (.inr (.inr (.inr ft)))))]) H := hP.sub [1, 0] rfl
      have hD : va_D A ([(h, .inr (1, [.ref r])), (r, .inl (cT, 3, .inr (.inr (.inr (.inr ft)))))]) := hD.sub [1, 0] (by decide) rfl
      refine lv_astoreN (lv' := [(4, .null), (3, .ref a1), (0, .ref h), (1, .int (nI k1)), (2, .int q2)]) hx hb d_hh_pour_11 hl (by decide) rfl (fun ls hl => ?_)
      refine lv_aload_n hx hb d_hh_pour_13 rfl (lv_at hl 1 rfl) ?_
      refine lv_ifnull hx hb d_hh_pour_14 ?_
      refine lv_aloadN hx hb d_hh_pour_17 (lv_at hl 0 rfl) ?_
      refine lv_ifnullN (tgt := 27) hx hb d_hh_pour_19 (by decide) ?_
      refine lv_iconst (v := (-1)) hx hb d_hh_pour_27 (by decide) ?_
      exact cg_iret (u := ()) hQ hx hb hr hlk hK hP hD hS rfl d_hh_pour_28
    · obtain ⟨a2, hf2⟩ := hft k2 hk2
      have nb : ∀ k, k < 3 → ¬ bad (nI k) := fun k hk z9 => z9.elim (nI_pos (by omega)) (nI_ge hk (by decide))
      have heq : q1 = q2 := hq.elim (fun z8 => absurd (e1 ▸ z8) (nb k1 hk1)) (fun z7 => z7.elim (fun z8 => absurd (e2 ▸ z8) (nb k2 hk2)) id)
      subst e1
      subst e2
      refine lv_aload_n hx hb d_hh_pour_0 rfl (lv_at hl 0 rfl) ?_
      refine lv_iload_n hx hb d_hh_pour_1 rfl (lv_at hl 1 rfl) ?_
      refine cg_V (hn := 1) (As := [.int (nI k1)]) (rest := []) (wr := []) (q0 := 0) (ci := 1) hx hb hml hown hts (c_hh_tableOf l D cI cT cP h r ft k1 hk1 a1 hf1) km_hh_18 ki_hh_tableOf ks_hh_tableOf kn_hh kc_hh_tableOf (by decide +kernel) rfl ⟨Nat.le_of_ble_eq_true rfl, Nat.le_of_ble_eq_true rfl⟩ hK hP hD hS hA [0, 1] [] rfl (by decide) rfl (by decide) (by decide) rfl rfl hl.1 rfl (Nat.le_of_ble_eq_true rfl) d_hh_pour_2 ⟨Nat.zero_le _, Nat.zero_le _⟩ (fun v u H locs hpost hP hD hS => ?_)
      subst hpost
      refine W.eq (g2 := F0 m 5 ls [.ref a1]) rfl ?_
      have hP : va_P D cls ([(h, .inr (1, [.ref r])), (r, .inl (cT, 3, .inr (.inr (.inr (.inr ft)))))]) H := hP
      have hD : va_D A ([(h, .inr (1, [.ref r])), (r, .inl (cT, 3, .inr (.inr (.inr (.inr ft)))))]) := hD
      have hP : va_P D cls ([(h, .inr (1, [.ref r])), (r, .inl (cT, 3, .inr (.inr (.inr (.inr ft)))))]) H := hP.sub [0, 1] rfl
      have hD : va_D A ([(h, .inr (1, [.ref r])), (r, .inl (cT, 3, .inr (.inr (.inr (.inr ft)))))]) := hD.sub [0, 1] (by decide) rfl
      refine lv_astore_n (lv' := [(3, .ref a1), (0, .ref h), (1, .int (nI k1)), (2, .int (nI k2))]) hx hb d_hh_pour_5 rfl hl (by decide) rfl (fun ls hl => ?_)
      refine lv_aload_n hx hb d_hh_pour_6 rfl (lv_at hl 1 rfl) ?_
      refine lv_iload_n hx hb d_hh_pour_7 rfl (lv_at hl 3 rfl) ?_
      refine cg_V (hn := 1) (As := [.int (nI k2)]) (rest := []) (wr := []) (q0 := 0) (ci := 1) hx hb hml hown hts (c_hh_tableOf l D cI cT cP h r ft k2 hk2 a2 hf2) km_hh_18 ki_hh_tableOf ks_hh_tableOf kn_hh kc_hh_tableOf (by decide +kernel) rfl ⟨Nat.le_of_ble_eq_true rfl, Nat.le_of_ble_eq_true rfl⟩ hK hP hD hS hA [0, 1] [] rfl (by decide) rfl (by decide) (by decide) rfl rfl hl.1 rfl (Nat.le_of_ble_eq_true rfl) d_hh_pour_8 ⟨Nat.zero_le _, Nat.zero_le _⟩ (fun v u H locs hpost hP hD hS => ?_)
      subst hpost
      refine W.eq (g2 := F0 m 11 ls [.ref a2]) rfl ?_
      have hP : va_P D cls ([(h, .inr (1, [.ref r])), (r, .inl (cT, 3, .inr (.inr (.inr (.inr ft)))))]) H := hP
      have hD : va_D A ([(h, .inr (1, [.ref r])), (r, .inl (cT, 3, .inr (.inr (.inr (.inr ft)))))]) := hD
      have hP : va_P D cls ([(h, .inr (1, [.ref r])), (r, .inl (cT, 3, .inr (.inr (.inr (.inr ft)))))]) H := hP.sub [0, 1] rfl
      have hD : va_D A ([(h, .inr (1, [.ref r])), (r, .inl (cT, 3, .inr (.inr (.inr (.inr ft)))))]) := hD.sub [0, 1] (by decide) rfl
      refine lv_astore (lv' := [(4, .ref a2), (3, .ref a1), (0, .ref h), (1, .int (nI k1)), (2, .int (nI k2))]) hx hb d_hh_pour_11 hl (by decide) rfl (fun ls hl => ?_)
      refine lv_aload_n hx hb d_hh_pour_13 rfl (lv_at hl 1 rfl) ?_
      refine lv_ifnull hx hb d_hh_pour_14 ?_
      refine lv_aload hx hb d_hh_pour_17 (lv_at hl 0 rfl) ?_
      refine lv_ifnull hx hb d_hh_pour_19 ?_
      refine lv_iload_n hx hb d_hh_pour_22 rfl (lv_at hl 3 rfl) ?_
      refine lv_iload_n hx hb d_hh_pour_23 rfl (lv_at hl 4 rfl) ?_
      refine lv_icmp_ne (tgt := 29) hx hb d_hh_pour_24 (by decide) (fun z9 => absurd heq z9) (fun _ => ?_)
      refine lv_iconst (v := (-1)) hx hb d_hh_pour_27 (by decide) ?_
      exact cg_iret (u := ()) hQ hx hb hr hlk hK hP hD hS rfl d_hh_pour_28
end
section
-- HashHall (4): pour: printed by wip/whole/gen/hh4.py
/-- may k1 be poured into k2 -/
def po_ (k1 k2 : Nat) (L1 L2 : List (Int32 × Int32)) : Bool := decide (L1.length + L2.length ≤ 1400) && (decide (¬ k1 = 0) || (decide (k2 = 1) && hka L2 L1))
def pp (k1 k2 : Nat) (mv : Bool) (jl : Nat × List (Int32 × Int32)) (L1 : List (Int32 × Int32)) : Nat × List (Int32 × Int32) := if po_ k1 k2 L1 jl.2 then pj mv jl L1 else jl
def pa (k1 k2 : Nat) (mv : Bool) (jl : Nat × List (Int32 × Int32)) (L1 : List (Int32 × Int32)) : Int32 := if po_ k1 k2 L1 jl.2 then nI (pp k1 k2 mv jl L1).2.length else -1
set_option maxRecDepth 100000 in
set_option maxHeartbeats 4000000 in
/-- pour -/
theorem c_hh_pour (l : Launch) (D : va_G) (cI cT cP : ClassId) (h r : Nat) (ft : Nat → Option Nat) (k1 : Nat) (hk1 : k1 < 3) (a : Nat) (hf1 : ft k1 = some a) (k2 : Nat) (hk2 : k2 < 3) (a2 : Nat) (hf2 : ft k2 = some a2) (mv : Bool) (j : Nat) (L : List (Int32 × Int32)) (u0 : TB) (hL : TL j L u0) (mv2 : Bool) (j2 : Nat) (L2 : List (Int32 × Int32)) (u2 : TB) (hL2 : TL j2 L2 u2) (hne : ¬ k1 = k2) : Cg l y_hh_pour b_hh_pour 5 (some .int) 6 (mcT j2 (pp k1 k2 mv2 (j2, L2) L).1) (msT j2 (pp k1 k2 mv2 (j2, L2) L).1) D (ty3 cI cT cP) [.ref h, .int (nI k1), .int (nI k2)] ([(h, .inr (1, [.ref r])), (r, .inl (cT, 3, .inr (.inr (.inr (.inr ft)))))] ++ (tw cI a mv j u0) ++ (tw cI a2 mv2 j2 u2)) (fun (v : Option Value) (u : TB) => v = some (.int (pa k1 k2 mv2 (j2, L2) L)) ∧ TL (pp k1 k2 mv2 (j2, L2) L).1 (pp k1 k2 mv2 (j2, L2) L).2 u) (fun u => [(h, .inr (1, [.ref r])), (r, .inl (cT, 3, .inr (.inr (.inr (.inr ft)))))] ++ (tw cI a mv j u0) ++ (tw cI a2 mv2 ((pp k1 k2 mv2 (j2, L2) L).1) u)) := by
  obtain ⟨qk, qv, qb, qf, qh, qc, K, V, P, N, G, C, fl, mm, R⟩ := u0
  obtain ⟨Fr, bl, hTA, hTN, hTH, hKn, eL⟩ := hL
  have hTA : TA (2 ^ (4 + j)) j mm R Fr := hTA
  have hTN : TN P N R := hTN
  have hTH : TH (2 ^ (4 + j)) K G C fl R Fr bl := hTH
  have hKn : (R.map K).Nodup := hKn
  have eL : L = kv K V R := eL
  have hLl : L.length = R.length := by rw [eL]; exact List.length_map ..
  have hn : 2 ^ (4 + j) < 2 ^ 31 := (ta_len hTA).2.2
  have hRl : R.length < 2 ^ 31 := (ta_len hTA).2.1
  obtain ⟨qk2, qv2, qb2, qf2, qh2, qc2, K2, V2, P2, N2, G2, C2, fl2, mm2, R2⟩ := u2
  obtain ⟨Fr2, bl2, hTA2, hTN2, hTH2, hKn2, eL2⟩ := hL2
  have hTA2 : TA (2 ^ (4 + j2)) j2 mm2 R2 Fr2 := hTA2
  have hTN2 : TN P2 N2 R2 := hTN2
  have hTH2 : TH (2 ^ (4 + j2)) K2 G2 C2 fl2 R2 Fr2 bl2 := hTH2
  have hKn2 : (R2.map K2).Nodup := hKn2
  have eL2 : L2 = kv K2 V2 R2 := eL2
  have hLl2 : L2.length = R2.length := by rw [eL2]; exact List.length_map ..
  have hn2 : 2 ^ (4 + j2) < 2 ^ 31 := (ta_len hTA2).2.2
  have hRl2 : R2.length < 2 ^ 31 := (ta_len hTA2).2.1
  refine cg_enter rfl (Nat.le_of_ble_eq_true rfl) ?_
  intro p e s m below meth c args hx hb hr hlk hml hown hin hts A hA hK hP hD hS ls hl Q hQ
  have hl : lv_has ls 5 [(0, .ref h), (1, .int (nI k1)), (2, .int (nI k2))] := hl
  have hP : va_P D cls ([(h, .inr (1, [.ref r])), (r, .inl (cT, 3, .inr (.inr (.inr (.inr ft)))))] ++ (tx cI a (mvI mv) (nI R.length) qk qv qb qf qh qc (2 ^ (4 + j)) K V P N G C fl (nI mm)) ++ (tx cI a2 (mvI mv2) (nI R2.length) qk2 qv2 qb2 qf2 qh2 qc2 (2 ^ (4 + j2)) K2 V2 P2 N2 G2 C2 fl2 (nI mm2))) s.heap := hP
  have hD : va_D A ([(h, .inr (1, [.ref r])), (r, .inl (cT, 3, .inr (.inr (.inr (.inr ft)))))] ++ (tx cI a (mvI mv) (nI R.length) qk qv qb qf qh qc (2 ^ (4 + j)) K V P N G C fl (nI mm)) ++ (tx cI a2 (mvI mv2) (nI R2.length) qk2 qv2 qb2 qf2 qh2 qc2 (2 ^ (4 + j2)) K2 V2 P2 N2 G2 C2 fl2 (nI mm2))) := hD
  refine lv_aload_n hx hb d_hh_pour_0 rfl (lv_at hl 0 rfl) ?_
  refine lv_iload_n hx hb d_hh_pour_1 rfl (lv_at hl 1 rfl) ?_
  refine cg_V (hn := 1) (As := [.int (nI k1)]) (rest := []) (wr := (tx cI a (mvI mv) (nI R.length) qk qv qb qf qh qc (2 ^ (4 + j)) K V P N G C fl (nI mm)) ++ (tx cI a2 (mvI mv2) (nI R2.length) qk2 qv2 qb2 qf2 qh2 qc2 (2 ^ (4 + j2)) K2 V2 P2 N2 G2 C2 fl2 (nI mm2))) (q0 := 0) (ci := 1) hx hb hml hown hts (c_hh_tableOf l D cI cT cP h r ft k1 hk1 a hf1) km_hh_18 ki_hh_tableOf ks_hh_tableOf kn_hh kc_hh_tableOf (by decide +kernel) rfl ⟨Nat.le_of_ble_eq_true rfl, Nat.le_of_ble_eq_true rfl⟩ hK hP hD hS hA [0, 1] [2, 3, 4, 5, 6, 7, 8, 9, 10, 11, 12, 13, 14, 15] rfl (by decide) rfl (by decide) (by decide) rfl rfl hl.1 rfl (Nat.le_of_ble_eq_true rfl) d_hh_pour_2 ⟨Nat.zero_le _, Nat.zero_le _⟩ (fun v u H locs hpost hP hD hS => ?_)
  subst hpost
  refine W.eq (g2 := F0 m 5 ls [.ref a]) rfl ?_
  have hP : va_P D cls ((tx cI a (mvI mv) (nI R.length) qk qv qb qf qh qc (2 ^ (4 + j)) K V P N G C fl (nI mm)) ++ (tx cI a2 (mvI mv2) (nI R2.length) qk2 qv2 qb2 qf2 qh2 qc2 (2 ^ (4 + j2)) K2 V2 P2 N2 G2 C2 fl2 (nI mm2)) ++ [(h, .inr (1, [.ref r])), (r, .inl (cT, 3, .inr (.inr (.inr (.inr ft)))))]) H := hP
  have hD : va_D A ((tx cI a (mvI mv) (nI R.length) qk qv qb qf qh qc (2 ^ (4 + j)) K V P N G C fl (nI mm)) ++ (tx cI a2 (mvI mv2) (nI R2.length) qk2 qv2 qb2 qf2 qh2 qc2 (2 ^ (4 + j2)) K2 V2 P2 N2 G2 C2 fl2 (nI mm2)) ++ [(h, .inr (1, [.ref r])), (r, .inl (cT, 3, .inr (.inr (.inr (.inr ft)))))]) := hD
  have hP : va_P D cls ([(h, .inr (1, [.ref r])), (r, .inl (cT, 3, .inr (.inr (.inr (.inr ft)))))] ++ (tx cI a (mvI mv) (nI R.length) qk qv qb qf qh qc (2 ^ (4 + j)) K V P N G C fl (nI mm)) ++ (tx cI a2 (mvI mv2) (nI R2.length) qk2 qv2 qb2 qf2 qh2 qc2 (2 ^ (4 + j2)) K2 V2 P2 N2 G2 C2 fl2 (nI mm2))) H := hP.sub [14, 15, 0, 1, 2, 3, 4, 5, 6, 7, 8, 9, 10, 11, 12, 13] rfl
  have hD : va_D A ([(h, .inr (1, [.ref r])), (r, .inl (cT, 3, .inr (.inr (.inr (.inr ft)))))] ++ (tx cI a (mvI mv) (nI R.length) qk qv qb qf qh qc (2 ^ (4 + j)) K V P N G C fl (nI mm)) ++ (tx cI a2 (mvI mv2) (nI R2.length) qk2 qv2 qb2 qf2 qh2 qc2 (2 ^ (4 + j2)) K2 V2 P2 N2 G2 C2 fl2 (nI mm2))) := hD.sub [14, 15, 0, 1, 2, 3, 4, 5, 6, 7, 8, 9, 10, 11, 12, 13] (by decide) rfl
  refine lv_astore_n (lv' := [(3, .ref a), (0, .ref h), (1, .int (nI k1)), (2, .int (nI k2))]) hx hb d_hh_pour_5 rfl hl (by decide) rfl (fun ls hl => ?_)
  refine lv_aload_n hx hb d_hh_pour_6 rfl (lv_at hl 1 rfl) ?_
  refine lv_iload_n hx hb d_hh_pour_7 rfl (lv_at hl 3 rfl) ?_
  refine cg_V (hn := 1) (As := [.int (nI k2)]) (rest := []) (wr := (tx cI a (mvI mv) (nI R.length) qk qv qb qf qh qc (2 ^ (4 + j)) K V P N G C fl (nI mm)) ++ (tx cI a2 (mvI mv2) (nI R2.length) qk2 qv2 qb2 qf2 qh2 qc2 (2 ^ (4 + j2)) K2 V2 P2 N2 G2 C2 fl2 (nI mm2))) (q0 := 0) (ci := 1) hx hb hml hown hts (c_hh_tableOf l D cI cT cP h r ft k2 hk2 a2 hf2) km_hh_18 ki_hh_tableOf ks_hh_tableOf kn_hh kc_hh_tableOf (by decide +kernel) rfl ⟨Nat.le_of_ble_eq_true rfl, Nat.le_of_ble_eq_true rfl⟩ hK hP hD hS hA [0, 1] [2, 3, 4, 5, 6, 7, 8, 9, 10, 11, 12, 13, 14, 15] rfl (by decide) rfl (by decide) (by decide) rfl rfl hl.1 rfl (Nat.le_of_ble_eq_true rfl) d_hh_pour_8 ⟨Nat.zero_le _, Nat.zero_le _⟩ (fun v u H locs hpost hP hD hS => ?_)
  subst hpost
  refine W.eq (g2 := F0 m 11 ls [.ref a2]) rfl ?_
  have hP : va_P D cls ((tx cI a (mvI mv) (nI R.length) qk qv qb qf qh qc (2 ^ (4 + j)) K V P N G C fl (nI mm)) ++ (tx cI a2 (mvI mv2) (nI R2.length) qk2 qv2 qb2 qf2 qh2 qc2 (2 ^ (4 + j2)) K2 V2 P2 N2 G2 C2 fl2 (nI mm2)) ++ [(h, .inr (1, [.ref r])), (r, .inl (cT, 3, .inr (.inr (.inr (.inr ft)))))]) H := hP
  have hD : va_D A ((tx cI a (mvI mv) (nI R.length) qk qv qb qf qh qc (2 ^ (4 + j)) K V P N G C fl (nI mm)) ++ (tx cI a2 (mvI mv2) (nI R2.length) qk2 qv2 qb2 qf2 qh2 qc2 (2 ^ (4 + j2)) K2 V2 P2 N2 G2 C2 fl2 (nI mm2)) ++ [(h, .inr (1, [.ref r])), (r, .inl (cT, 3, .inr (.inr (.inr (.inr ft)))))]) := hD
  have hP : va_P D cls ([(h, .inr (1, [.ref r])), (r, .inl (cT, 3, .inr (.inr (.inr (.inr ft)))))] ++ (tx cI a (mvI mv) (nI R.length) qk qv qb qf qh qc (2 ^ (4 + j)) K V P N G C fl (nI mm)) ++ (tx cI a2 (mvI mv2) (nI R2.length) qk2 qv2 qb2 qf2 qh2 qc2 (2 ^ (4 + j2)) K2 V2 P2 N2 G2 C2 fl2 (nI mm2))) H := hP.sub [14, 15, 0, 1, 2, 3, 4, 5, 6, 7, 8, 9, 10, 11, 12, 13] rfl
  have hD : va_D A ([(h, .inr (1, [.ref r])), (r, .inl (cT, 3, .inr (.inr (.inr (.inr ft)))))] ++ (tx cI a (mvI mv) (nI R.length) qk qv qb qf qh qc (2 ^ (4 + j)) K V P N G C fl (nI mm)) ++ (tx cI a2 (mvI mv2) (nI R2.length) qk2 qv2 qb2 qf2 qh2 qc2 (2 ^ (4 + j2)) K2 V2 P2 N2 G2 C2 fl2 (nI mm2))) := hD.sub [14, 15, 0, 1, 2, 3, 4, 5, 6, 7, 8, 9, 10, 11, 12, 13] (by decide) rfl
  refine lv_astore (lv' := [(4, .ref a2), (3, .ref a), (0, .ref h), (1, .int (nI k1)), (2, .int (nI k2))]) hx hb d_hh_pour_11 hl (by decide) rfl (fun ls hl => ?_)
  refine lv_aload_n hx hb d_hh_pour_13 rfl (lv_at hl 1 rfl) ?_
  refine lv_ifnull hx hb d_hh_pour_14 ?_
  refine lv_aload hx hb d_hh_pour_17 (lv_at hl 0 rfl) ?_
  refine lv_ifnull hx hb d_hh_pour_19 ?_
  refine lv_iload_n hx hb d_hh_pour_22 rfl (lv_at hl 3 rfl) ?_
  refine lv_iload_n hx hb d_hh_pour_23 rfl (lv_at hl 4 rfl) ?_
  refine lv_icmp_ne (tgt := 29) hx hb d_hh_pour_24 (by decide) (fun _ => ?_) (fun z9 => absurd z9 (fun z9 => hne ((nI_eq (by omega) (by omega)).mp z9)))
  refine lv_aload_n hx hb d_hh_pour_29 rfl (lv_at hl 1 rfl) ?_
  refine va_get (D := D) (ci := 0) (v := .int (nI R.length)) (C := R_tb) (T := F_tb) (N := 10) hx hb hts i_tb hown hK hP 2 rfl rfl 1 (by decide) (hts _ kf_hh_51) (fun _ h9 => h9) rfl d_hh_pour_30 ?_
  refine lv_aload hx hb d_hh_pour_33 (lv_at hl 0 rfl) ?_
  refine va_get (D := D) (ci := 0) (v := .int (nI R2.length)) (C := R_tb) (T := F_tb) (N := 10) hx hb hts i_tb hown hK hP 9 rfl rfl 1 (by decide) (hts _ kf_hh_51) (fun _ h9 => h9) rfl d_hh_pour_35 ?_
  refine lv_iadd hx hb d_hh_pour_38 ?_
  refine tp_i (y := nI (R.length + R2.length)) (nI_add _ _) ?_
  refine lv_sipush (v := 1400) hx hb d_hh_pour_39 (by decide) ?_
  by_cases hc : R.length + R2.length ≤ 1400
  · refine lv_icmp_le (tgt := 47) hx hb d_hh_pour_42 (by decide) (fun _ => ?_) (fun z9 => absurd (nI_le (b := 1400) hc (by decide)) z9)
    refine lv_iload_n hx hb d_hh_pour_47 rfl (lv_at hl 3 rfl) ?_
    have hcd : decide (L.length + L2.length ≤ 1400) = true := decide_eq_true (by omega)
    by_cases hk0 : k1 = 0
    · refine lv_if_ne (tgt := 67) hx hb d_hh_pour_48 (by decide) (fun z9 => absurd (by rw [hk0]; rfl) z9) (fun _ => ?_)
      refine lv_iload_n hx hb d_hh_pour_51 rfl (lv_at hl 4 rfl) ?_
      refine lv_iconst (v := 1) hx hb d_hh_pour_52 (by decide) ?_
      by_cases hk3 : k2 = 1
      · refine lv_icmp_ne (tgt := 65) hx hb d_hh_pour_53 (by decide) (fun z9 => absurd (by rw [hk3]; rfl) z9) (fun _ => ?_)
        refine lv_aload hx hb d_hh_pour_56 (lv_at hl 0 rfl) ?_
        refine lv_aload_n hx hb d_hh_pour_58 rfl (lv_at hl 1 rfl) ?_
        refine cg_V (hn := 1) (As := [.ref a]) (rest := []) (wr := [(h, .inr (1, [.ref r])), (r, .inl (cT, 3, .inr (.inr (.inr (.inr ft)))))]) (q0 := 0) (ci := 0) hx hb hml hown hts (c_tb_holdsKeysOf l D cI cT cP a2 mv2 j2 L2 (qk2, qv2, qb2, qf2, qh2, qc2, K2, V2, P2, N2, G2, C2, fl2, mm2, R2) ⟨Fr2, bl2, hTA2, hTN2, hTH2, hKn2, eL2⟩ a mv j L (qk, qv, qb, qf, qh, qc, K, V, P, N, G, C, fl, mm, R) ⟨Fr, bl, hTA, hTN, hTH, hKn, eL⟩) km_hh_59 ki_tb_holdsKeysOf ks_tb_holdsKeysOf kn_tb kc_tb_holdsKeysOf (by decide +kernel) rfl ⟨Nat.le_of_ble_eq_true rfl, Nat.le_of_ble_eq_true rfl⟩ hK hP hD hS hA [9, 10, 11, 12, 13, 14, 15, 2, 3, 4, 5, 6, 7, 8] [0, 1] rfl (by decide) rfl (by decide) (by decide) rfl rfl hl.1 rfl (Nat.le_of_ble_eq_true rfl) d_hh_pour_59 ⟨Nat.zero_le _, Nat.zero_le _⟩ (fun v u H locs hpost hP hD hS => ?_)
        subst hpost
        refine W.eq (g2 := F0 m 62 ls [.int (zI (hka L2 L))]) rfl ?_
        have hP : va_P D cls ([(h, .inr (1, [.ref r])), (r, .inl (cT, 3, .inr (.inr (.inr (.inr ft)))))] ++ (tx cI a (mvI mv) (nI R.length) qk qv qb qf qh qc (2 ^ (4 + j)) K V P N G C fl (nI mm)) ++ (tx cI a2 (mvI mv2) (nI R2.length) qk2 qv2 qb2 qf2 qh2 qc2 (2 ^ (4 + j2)) K2 V2 P2 N2 G2 C2 fl2 (nI mm2))) H := hP
        have hD : va_D A ([(h, .inr (1, [.ref r])), (r, .inl (cT, 3, .inr (.inr (.inr (.inr ft)))))] ++ (tx cI a (mvI mv) (nI R.length) qk qv qb qf qh qc (2 ^ (4 + j)) K V P N G C fl (nI mm)) ++ (tx cI a2 (mvI mv2) (nI R2.length) qk2 qv2 qb2 qf2 qh2 qc2 (2 ^ (4 + j2)) K2 V2 P2 N2 G2 C2 fl2 (nI mm2))) := hD
        generalize hbb : hka L2 L = bb
        cases bb with
        | false =>
          refine lv_if_ne (tgt := 67) hx hb d_hh_pour_62 (by decide) (fun z9 => absurd rfl z9) (fun _ => ?_)
          have hpo : po_ k1 k2 L L2 = false := by unfold po_; rw [hbb]; simp [hk0]
          have ep : pp k1 k2 mv2 (j2, L2) L = (j2, L2) := by unfold pp; rw [show po_ k1 k2 L (j2, L2).2 = false from hpo]; rfl
          refine lv_iconst (v := (-1)) hx hb d_hh_pour_65 (by decide) ?_
          refine W.widen (k := mcT j2 (pp k1 k2 mv2 (j2, L2) L).1) (n := msT j2 (pp k1 k2 mv2 (j2, L2) L).1) (Nat.zero_le _) (Nat.zero_le _) ?_
          have hP : va_P D cls ([(h, .inr (1, [.ref r])), (r, .inl (cT, 3, .inr (.inr (.inr (.inr ft)))))] ++ (tx cI a (mvI mv) (nI R.length) qk qv qb qf qh qc (2 ^ (4 + j)) K V P N G C fl (nI mm)) ++ (tw cI a2 mv2 (pp k1 k2 mv2 (j2, L2) L).1 (qk2, qv2, qb2, qf2, qh2, qc2, K2, V2, P2, N2, G2, C2, fl2, mm2, R2))) H := by rw [ep]; exact hP
          have hD : va_D A ([(h, .inr (1, [.ref r])), (r, .inl (cT, 3, .inr (.inr (.inr (.inr ft)))))] ++ (tx cI a (mvI mv) (nI R.length) qk qv qb qf qh qc (2 ^ (4 + j)) K V P N G C fl (nI mm)) ++ (tw cI a2 mv2 (pp k1 k2 mv2 (j2, L2) L).1 (qk2, qv2, qb2, qf2, qh2, qc2, K2, V2, P2, N2, G2, C2, fl2, mm2, R2))) := by rw [ep]; exact hD
          exact cg_iret (u := (qk2, qv2, qb2, qf2, qh2, qc2, K2, V2, P2, N2, G2, C2, fl2, mm2, R2)) hQ hx hb hr hlk hK hP hD hS (⟨by unfold pa; rw [show po_ k1 k2 L (j2, L2).2 = false from hpo]; rfl, by rw [ep]; exact ⟨Fr2, bl2, hTA2, hTN2, hTH2, hKn2, eL2⟩⟩) d_hh_pour_66
        | true =>
          refine lv_if_ne (tgt := 67) hx hb d_hh_pour_62 (by decide) (fun _ => ?_) (fun z9 => absurd z9 (by decide))
          have hpo : po_ k1 k2 L L2 = true := by unfold po_; rw [hcd, hbb]; simp [hk3]
          have ep : pp k1 k2 mv2 (j2, L2) L = pj mv2 (j2, L2) L := by unfold pp; rw [show po_ k1 k2 L (j2, L2).2 = true from hpo]; rfl
          refine lv_aload hx hb d_hh_pour_67 (lv_at hl 0 rfl) ?_
          refine lv_aload_n hx hb d_hh_pour_69 rfl (lv_at hl 1 rfl) ?_
          refine cg_V (hn := 1) (As := [.ref a]) (rest := []) (wr := [(h, .inr (1, [.ref r])), (r, .inl (cT, 3, .inr (.inr (.inr (.inr ft)))))]) (q0 := 0) (ci := 0) hx hb hml hown hts (c_tb_storeAllOf l D cI cT cP a2 mv2 j2 L2 (qk2, qv2, qb2, qf2, qh2, qc2, K2, V2, P2, N2, G2, C2, fl2, mm2, R2) ⟨Fr2, bl2, hTA2, hTN2, hTH2, hKn2, eL2⟩ a mv j L (qk, qv, qb, qf, qh, qc, K, V, P, N, G, C, fl, mm, R) ⟨Fr, bl, hTA, hTN, hTH, hKn, eL⟩ (by omega)) km_hh_63 ki_tb_storeAllOf ks_tb_storeAllOf kn_tb kc_tb_storeAllOf (by decide +kernel) rfl ⟨Nat.le_of_ble_eq_true rfl, Nat.le_of_ble_eq_true rfl⟩ hK hP hD hS hA [9, 10, 11, 12, 13, 14, 15, 2, 3, 4, 5, 6, 7, 8] [0, 1] rfl (by decide) rfl (by decide) (by decide) rfl rfl hl.1 rfl (Nat.le_of_ble_eq_true rfl) d_hh_pour_70 ⟨Nat.le_of_eq (by show 0 + mcT j2 (pj mv2 (j2, L2) L).1 = mcT j2 (pp k1 k2 mv2 (j2, L2) L).1; rw [ep, Nat.zero_add]), Nat.le_of_eq (by show 0 + msT j2 (pj mv2 (j2, L2) L).1 = msT j2 (pp k1 k2 mv2 (j2, L2) L).1; rw [ep, Nat.zero_add])⟩ (fun v u H locs hpost hP hD hS => ?_)
          obtain ⟨e9, hT3⟩ := hpost
          subst e9
          rw [← ep] at hP hD hT3
          refine W.eq (g2 := F0 m 73 ls []) rfl ?_
          have hP : va_P D cls ([(h, .inr (1, [.ref r])), (r, .inl (cT, 3, .inr (.inr (.inr (.inr ft)))))] ++ (tx cI a (mvI mv) (nI R.length) qk qv qb qf qh qc (2 ^ (4 + j)) K V P N G C fl (nI mm)) ++ (tw cI a2 mv2 ((pp k1 k2 mv2 (j2, L2) L).1) u)) H := hP
          have hD : va_D A ([(h, .inr (1, [.ref r])), (r, .inl (cT, 3, .inr (.inr (.inr (.inr ft)))))] ++ (tx cI a (mvI mv) (nI R.length) qk qv qb qf qh qc (2 ^ (4 + j)) K V P N G C fl (nI mm)) ++ (tw cI a2 mv2 ((pp k1 k2 mv2 (j2, L2) L).1) u)) := hD
          refine W.widen (k := mcT j2 (pp k1 k2 mv2 (j2, L2) L).1) (n := msT j2 (pp k1 k2 mv2 (j2, L2) L).1) (Nat.le_of_eq (by rw [ep]; simp)) (Nat.le_of_eq (by rw [ep]; simp)) ?_
          obtain ⟨qk3, qv3, qb3, qf3, qh3, qc3, K3, V3, P3, N3, G3, C3, fl3, mm3, R3⟩ := u
          obtain ⟨Fr3, bl3, hTA3, hTN3, hTH3, hKn3, eL3⟩ := hT3
          have hTA3 : TA (2 ^ (4 + ((pp k1 k2 mv2 (j2, L2) L).1))) ((pp k1 k2 mv2 (j2, L2) L).1) mm3 R3 Fr3 := hTA3
          have hTN3 : TN P3 N3 R3 := hTN3
          have hTH3 : TH (2 ^ (4 + ((pp k1 k2 mv2 (j2, L2) L).1))) K3 G3 C3 fl3 R3 Fr3 bl3 := hTH3
          have hKn3 : (R3.map K3).Nodup := hKn3
          have eL3 : ((pp k1 k2 mv2 (j2, L2) L).2) = kv K3 V3 R3 := eL3
          have hLl3 : ((pp k1 k2 mv2 (j2, L2) L).2).length = R3.length := by rw [eL3]; exact List.length_map ..
          have hn3 : 2 ^ (4 + ((pp k1 k2 mv2 (j2, L2) L).1)) < 2 ^ 31 := (ta_len hTA3).2.2
          have hRl3 : R3.length < 2 ^ 31 := (ta_len hTA3).2.1
          have hP : va_P D cls ([(h, .inr (1, [.ref r])), (r, .inl (cT, 3, .inr (.inr (.inr (.inr ft)))))] ++ (tx cI a (mvI mv) (nI R.length) qk qv qb qf qh qc (2 ^ (4 + j)) K V P N G C fl (nI mm)) ++ (tx cI a2 (mvI mv2) (nI R3.length) qk3 qv3 qb3 qf3 qh3 qc3 (2 ^ (4 + (pp k1 k2 mv2 (j2, L2) L).1)) K3 V3 P3 N3 G3 C3 fl3 (nI mm3))) H := hP
          have hD : va_D A ([(h, .inr (1, [.ref r])), (r, .inl (cT, 3, .inr (.inr (.inr (.inr ft)))))] ++ (tx cI a (mvI mv) (nI R.length) qk qv qb qf qh qc (2 ^ (4 + j)) K V P N G C fl (nI mm)) ++ (tx cI a2 (mvI mv2) (nI R3.length) qk3 qv3 qb3 qf3 qh3 qc3 (2 ^ (4 + (pp k1 k2 mv2 (j2, L2) L).1)) K3 V3 P3 N3 G3 C3 fl3 (nI mm3))) := hD
          refine lv_aload hx hb d_hh_pour_73 (lv_at hl 0 rfl) ?_
          refine va_get (D := D) (ci := 0) (v := .int (nI R3.length)) (C := R_tb) (T := F_tb) (N := 10) hx hb hts i_tb hown hK hP 9 rfl rfl 1 (by decide) (hts _ kf_hh_51) (fun _ h9 => h9) rfl d_hh_pour_75 ?_
          exact cg_iret (u := (qk3, qv3, qb3, qf3, qh3, qc3, K3, V3, P3, N3, G3, C3, fl3, mm3, R3)) hQ hx hb hr hlk hK hP hD hS (⟨by unfold pa; rw [show po_ k1 k2 L (j2, L2).2 = true from hpo, ← hLl3]; rfl, ⟨Fr3, bl3, hTA3, hTN3, hTH3, hKn3, eL3⟩⟩) d_hh_pour_78
      · refine lv_icmp_ne (tgt := 65) hx hb d_hh_pour_53 (by decide) (fun _ => ?_) (fun z9 => absurd z9 (fun z9 => hk3 ((nI_eq (b := 1) (by omega) (by decide)).mp z9)))
        have hpo : po_ k1 k2 L L2 = false := by unfold po_; simp [hk0, hk3]
        have ep : pp k1 k2 mv2 (j2, L2) L = (j2, L2) := by unfold pp; rw [show po_ k1 k2 L (j2, L2).2 = false from hpo]; rfl
        refine lv_iconst (v := (-1)) hx hb d_hh_pour_65 (by decide) ?_
        refine W.widen (k := mcT j2 (pp k1 k2 mv2 (j2, L2) L).1) (n := msT j2 (pp k1 k2 mv2 (j2, L2) L).1) (Nat.zero_le _) (Nat.zero_le _) ?_
        have hP : va_P D cls ([(h, .inr (1, [.ref r])), (r, .inl (cT, 3, .inr (.inr (.inr (.inr ft)))))] ++ (tx cI a (mvI mv) (nI R.length) qk qv qb qf qh qc (2 ^ (4 + j)) K V P N G C fl (nI mm)) ++ (tw cI a2 mv2 (pp k1 k2 mv2 (j2, L2) L).1 (qk2, qv2, qb2, qf2, qh2, qc2, K2, V2, P2, N2, G2, C2, fl2, mm2, R2))) H := by rw [ep]; exact hP
        have hD : va_D A ([(h, .inr (1, [.ref r])), (r, .inl (cT, 3, .inr (.inr (.inr (.inr ft)))))] ++ (tx cI a (mvI mv) (nI R.length) qk qv qb qf qh qc (2 ^ (4 + j)) K V P N G C fl (nI mm)) ++ (tw cI a2 mv2 (pp k1 k2 mv2 (j2, L2) L).1 (qk2, qv2, qb2, qf2, qh2, qc2, K2, V2, P2, N2, G2, C2, fl2, mm2, R2))) := by rw [ep]; exact hD
        exact cg_iret (u := (qk2, qv2, qb2, qf2, qh2, qc2, K2, V2, P2, N2, G2, C2, fl2, mm2, R2)) hQ hx hb hr hlk hK hP hD hS (⟨by unfold pa; rw [show po_ k1 k2 L (j2, L2).2 = false from hpo]; rfl, by rw [ep]; exact ⟨Fr2, bl2, hTA2, hTN2, hTH2, hKn2, eL2⟩⟩) d_hh_pour_66
    · refine lv_if_ne (tgt := 67) hx hb d_hh_pour_48 (by decide) (fun _ => ?_) (fun z9 => absurd z9 (nI_ne0 (by omega) (by omega)))
      have hpo : po_ k1 k2 L L2 = true := by unfold po_; rw [hcd]; simp [hk0]
      have ep : pp k1 k2 mv2 (j2, L2) L = pj mv2 (j2, L2) L := by unfold pp; rw [show po_ k1 k2 L (j2, L2).2 = true from hpo]; rfl
      refine lv_aload hx hb d_hh_pour_67 (lv_at hl 0 rfl) ?_
      refine lv_aload_n hx hb d_hh_pour_69 rfl (lv_at hl 1 rfl) ?_
      refine cg_V (hn := 1) (As := [.ref a]) (rest := []) (wr := [(h, .inr (1, [.ref r])), (r, .inl (cT, 3, .inr (.inr (.inr (.inr ft)))))]) (q0 := 0) (ci := 0) hx hb hml hown hts (c_tb_storeAllOf l D cI cT cP a2 mv2 j2 L2 (qk2, qv2, qb2, qf2, qh2, qc2, K2, V2, P2, N2, G2, C2, fl2, mm2, R2) ⟨Fr2, bl2, hTA2, hTN2, hTH2, hKn2, eL2⟩ a mv j L (qk, qv, qb, qf, qh, qc, K, V, P, N, G, C, fl, mm, R) ⟨Fr, bl, hTA, hTN, hTH, hKn, eL⟩ (by omega)) km_hh_63 ki_tb_storeAllOf ks_tb_storeAllOf kn_tb kc_tb_storeAllOf (by decide +kernel) rfl ⟨Nat.le_of_ble_eq_true rfl, Nat.le_of_ble_eq_true rfl⟩ hK hP hD hS hA [9, 10, 11, 12, 13, 14, 15, 2, 3, 4, 5, 6, 7, 8] [0, 1] rfl (by decide) rfl (by decide) (by decide) rfl rfl hl.1 rfl (Nat.le_of_ble_eq_true rfl) d_hh_pour_70 ⟨Nat.le_of_eq (by show 0 + mcT j2 (pj mv2 (j2, L2) L).1 = mcT j2 (pp k1 k2 mv2 (j2, L2) L).1; rw [ep, Nat.zero_add]), Nat.le_of_eq (by show 0 + msT j2 (pj mv2 (j2, L2) L).1 = msT j2 (pp k1 k2 mv2 (j2, L2) L).1; rw [ep, Nat.zero_add])⟩ (fun v u H locs hpost hP hD hS => ?_)
      obtain ⟨e9, hT3⟩ := hpost
      subst e9
      rw [← ep] at hP hD hT3
      refine W.eq (g2 := F0 m 73 ls []) rfl ?_
      have hP : va_P D cls ([(h, .inr (1, [.ref r])), (r, .inl (cT, 3, .inr (.inr (.inr (.inr ft)))))] ++ (tx cI a (mvI mv) (nI R.length) qk qv qb qf qh qc (2 ^ (4 + j)) K V P N G C fl (nI mm)) ++ (tw cI a2 mv2 ((pp k1 k2 mv2 (j2, L2) L).1) u)) H := hP
      have hD : va_D A ([(h, .inr (1, [.ref r])), (r, .inl (cT, 3, .inr (.inr (.inr (.inr ft)))))] ++ (tx cI a (mvI mv) (nI R.length) qk qv qb qf qh qc (2 ^ (4 + j)) K V P N G C fl (nI mm)) ++ (tw cI a2 mv2 ((pp k1 k2 mv2 (j2, L2) L).1) u)) := hD
      refine W.widen (k := mcT j2 (pp k1 k2 mv2 (j2, L2) L).1) (n := msT j2 (pp k1 k2 mv2 (j2, L2) L).1) (Nat.le_of_eq (by rw [ep]; simp)) (Nat.le_of_eq (by rw [ep]; simp)) ?_
      obtain ⟨qk3, qv3, qb3, qf3, qh3, qc3, K3, V3, P3, N3, G3, C3, fl3, mm3, R3⟩ := u
      obtain ⟨Fr3, bl3, hTA3, hTN3, hTH3, hKn3, eL3⟩ := hT3
      have hTA3 : TA (2 ^ (4 + ((pp k1 k2 mv2 (j2, L2) L).1))) ((pp k1 k2 mv2 (j2, L2) L).1) mm3 R3 Fr3 := hTA3
      have hTN3 : TN P3 N3 R3 := hTN3
      have hTH3 : TH (2 ^ (4 + ((pp k1 k2 mv2 (j2, L2) L).1))) K3 G3 C3 fl3 R3 Fr3 bl3 := hTH3
      have hKn3 : (R3.map K3).Nodup := hKn3
      have eL3 : ((pp k1 k2 mv2 (j2, L2) L).2) = kv K3 V3 R3 := eL3
      have hLl3 : ((pp k1 k2 mv2 (j2, L2) L).2).length = R3.length := by rw [eL3]; exact List.length_map ..
      have hn3 : 2 ^ (4 + ((pp k1 k2 mv2 (j2, L2) L).1)) < 2 ^ 31 := (ta_len hTA3).2.2
      have hRl3 : R3.length < 2 ^ 31 := (ta_len hTA3).2.1
      have hP : va_P D cls ([(h, .inr (1, [.ref r])), (r, .inl (cT, 3, .inr (.inr (.inr (.inr ft)))))] ++ (tx cI a (mvI mv) (nI R.length) qk qv qb qf qh qc (2 ^ (4 + j)) K V P N G C fl (nI mm)) ++ (tx cI a2 (mvI mv2) (nI R3.length) qk3 qv3 qb3 qf3 qh3 qc3 (2 ^ (4 + (pp k1 k2 mv2 (j2, L2) L).1)) K3 V3 P3 N3 G3 C3 fl3 (nI mm3))) H := hP
      have hD : va_D A ([(h, .inr (1, [.ref r])), (r, .inl (cT, 3, .inr (.inr (.inr (.inr ft)))))] ++ (tx cI a (mvI mv) (nI R.length) qk qv qb qf qh qc (2 ^ (4 + j)) K V P N G C fl (nI mm)) ++ (tx cI a2 (mvI mv2) (nI R3.length) qk3 qv3 qb3 qf3 qh3 qc3 (2 ^ (4 + (pp k1 k2 mv2 (j2, L2) L).1)) K3 V3 P3 N3 G3 C3 fl3 (nI mm3))) := hD
      refine lv_aload hx hb d_hh_pour_73 (lv_at hl 0 rfl) ?_
      refine va_get (D := D) (ci := 0) (v := .int (nI R3.length)) (C := R_tb) (T := F_tb) (N := 10) hx hb hts i_tb hown hK hP 9 rfl rfl 1 (by decide) (hts _ kf_hh_51) (fun _ h9 => h9) rfl d_hh_pour_75 ?_
      exact cg_iret (u := (qk3, qv3, qb3, qf3, qh3, qc3, K3, V3, P3, N3, G3, C3, fl3, mm3, R3)) hQ hx hb hr hlk hK hP hD hS (⟨by unfold pa; rw [show po_ k1 k2 L (j2, L2).2 = true from hpo, ← hLl3]; rfl, ⟨Fr3, bl3, hTA3, hTN3, hTH3, hKn3, eL3⟩⟩) d_hh_pour_78
  · refine lv_icmp_le (tgt := 47) hx hb d_hh_pour_42 (by decide) (fun z9 => absurd z9 (fun z9 => hc ((nI_leI (b := 1400) (by have := ta_n hTA; have := ta_n hTA2; have := ta_len hTA; have := ta_len hTA2; omega) (by decide)).mp z9))) (fun _ => ?_)
    have hpo : po_ k1 k2 L L2 = false := by unfold po_; rw [decide_eq_false (by omega)]; rfl
    have ep : pp k1 k2 mv2 (j2, L2) L = (j2, L2) := by unfold pp; rw [show po_ k1 k2 L (j2, L2).2 = false from hpo]; rfl
    refine lv_iconst (v := (-1)) hx hb d_hh_pour_45 (by decide) ?_
    refine W.widen (k := mcT j2 (pp k1 k2 mv2 (j2, L2) L).1) (n := msT j2 (pp k1 k2 mv2 (j2, L2) L).1) (Nat.zero_le _) (Nat.zero_le _) ?_
    have hP : va_P D cls ([(h, .inr (1, [.ref r])), (r, .inl (cT, 3, .inr (.inr (.inr (.inr ft)))))] ++ (tx cI a (mvI mv) (nI R.length) qk qv qb qf qh qc (2 ^ (4 + j)) K V P N G C fl (nI mm)) ++ (tw cI a2 mv2 (pp k1 k2 mv2 (j2, L2) L).1 (qk2, qv2, qb2, qf2, qh2, qc2, K2, V2, P2, N2, G2, C2, fl2, mm2, R2))) H := by rw [ep]; exact hP
    have hD : va_D A ([(h, .inr (1, [.ref r])), (r, .inl (cT, 3, .inr (.inr (.inr (.inr ft)))))] ++ (tx cI a (mvI mv) (nI R.length) qk qv qb qf qh qc (2 ^ (4 + j)) K V P N G C fl (nI mm)) ++ (tw cI a2 mv2 (pp k1 k2 mv2 (j2, L2) L).1 (qk2, qv2, qb2, qf2, qh2, qc2, K2, V2, P2, N2, G2, C2, fl2, mm2, R2))) := by rw [ep]; exact hD
    exact cg_iret (u := (qk2, qv2, qb2, qf2, qh2, qc2, K2, V2, P2, N2, G2, C2, fl2, mm2, R2)) hQ hx hb hr hlk hK hP hD hS (⟨by unfold pa; rw [show po_ k1 k2 L (j2, L2).2 = false from hpo]; rfl, by rw [ep]; exact ⟨Fr2, bl2, hTA2, hTN2, hTH2, hKn2, eL2⟩⟩) d_hh_pour_46
end
section
-- The state of a Pairs, pure: places (PA), the order (PN), the sorted row (PS)
theorem upd_comm {f : Nat → Int32} {a b : Nat} {x y : Int32} (h : a ≠ b) : upd (upd f a x) b y = upd (upd f b y) a x := by
  funext j
  by_cases c1 : j = a
  · subst c1
    rw [pk_un h, pk_us, pk_us]
  · rw [pk_un (f := upd f b y) c1]
    by_cases c2 : j = b
    · subst c2
      rw [pk_us, pk_us]
    · rw [pk_un c2, pk_un c1, pk_un c2]
def cN (f : Nat → Int32) (a v : Int32) : List Nat → (Nat → Int32) × Int32
  | [] => (f, v)
  | y :: t => (upd f (ls_ y t) v, a)
theorem sg_cutv {f : Nat → Int32} {a e : Int32} {l1 l2 : List Nat} {x : Nat} (nd : (l1 ++ x :: l2).Nodup) (h : sg f a (l1 ++ x :: l2) e) : sg (cN f a (f x) l1).1 (cN f a (f x) l1).2 (l1 ++ l2) e := by
  cases l1 with
  | nil => exact h.2
  | cons y t => exact ⟨h.1, sg_cut (s := y) nd h.2⟩
/-- the last's successor, or the first -/
def cL (f : Nat → Int32) (a v : Int32) (i : Nat) : List Nat → (Nat → Int32) × Int32
  | [] => (upd f i v, nI i)
  | y :: t => (upd (upd f i v) (ls_ y t) (nI i), a)
theorem sg_snocv {f : Nat → Int32} {a e : Int32} {l : List Nat} {i : Nat} (nd : l.Nodup) (hi : i ∉ l) (h : sg f a l e) : sg (cL f a e i l).1 (cL f a e i l).2 (l ++ [i]) e := by
  cases l with
  | nil => exact ⟨rfl, pk_us⟩
  | cons y t =>
    have h1 : i ≠ ls_ y t := fun z => hi (by rw [z]; exact ls_mem y t)
    have h2 := sg_snoc (s := y) nd hi h.2
    rw [← upd_comm h1] at h2
    exact ⟨h.1, h2⟩
def PA (n j m : Nat) (R Fr : List Nat) : Prop := (n = 2 ^ (4 + j) ∧ j ≤ 7) ∧ m ≤ n ∧ (R ++ Fr).Nodup ∧ (∀ x, x ∈ R ++ Fr ↔ x < m) ∧ R.length + Fr.length = m
def PN (P N : Nat → Int32) (fi la : Int32) (R : List Nat) : Prop := sg N fi R (-1) ∧ sg P la R.reverse (-1)
def PS (K Z : Nat → Int32) (R Sp : List Nat) : Prop := Sp.Perm R ∧ Sp.Pairwise (fun x y => K x < K y) ∧ ∀ i, i < Sp.length → Z i = nI (Sp.getD i 0)
/-- the number of smaller keys -/
def rk (K : Nat → Int32) (k : Int32) (Sp : List Nat) : Nat := (Sp.filter (fun x => decide (K x < k))).length
theorem rk_le {K : Nat → Int32} {k : Int32} {Sp : List Nat} : rk K k Sp ≤ Sp.length := List.length_filter_le ..
theorem rk_iff {K : Nat → Int32} {k : Int32} {Sp : List Nat} (hs : Sp.Pairwise (fun x y => K x < K y)) {i : Nat} (hi : i < Sp.length) : K (Sp.getD i 0) < k ↔ i < rk K k Sp := by
  induction Sp generalizing i with
  | nil => exact absurd hi (Nat.not_lt_zero _)
  | cons x t ih =>
    have h := List.pairwise_cons.mp hs
    by_cases c : K x < k
    · have e : rk K k (x :: t) = rk K k t + 1 := by
        unfold rk
        rw [List.filter_cons_of_pos (by simpa using c)]
        rfl
      rw [e]
      cases i with
      | zero => exact ⟨fun _ => Nat.succ_pos _, fun _ => c⟩
      | succ i =>
        have h2 := ih h.2 (i := i) (Nat.lt_of_succ_lt_succ hi)
        show K (t.getD i 0) < k ↔ _
        rw [h2]
        omega
    · have ht : ∀ y, y ∈ t → ¬ K y < k := fun y hy z => c (by
        have h3 := h.1 y hy
        rw [Int32.lt_iff_toInt_lt] at h3 z ⊢
        omega)
      have e : rk K k (x :: t) = 0 := by
        unfold rk
        rw [List.filter_cons_of_neg (by simpa using c), List.filter_eq_nil_iff.mpr (fun y hy => by simpa using ht y hy)]
        rfl
      rw [e]
      refine ⟨fun z => absurd z ?_, fun z => absurd z (Nat.not_lt_zero _)⟩
      cases i with
      | zero => exact c
      | succ i =>
        have hi' : i < t.length := Nat.lt_of_succ_lt_succ hi
        refine ht _ ?_
        show t.getD i 0 ∈ t
        rw [List.getD_eq_getElem?_getD, List.getElem?_eq_getElem hi']
        exact List.getElem_mem hi'
/-- the place of a key among Sp -/
theorem rk_at {K : Nat → Int32} {Sp : List Nat} (hs : Sp.Pairwise (fun x y => K x < K y)) {p : Nat} (hp : p ∈ Sp) : rk K (K p) Sp < Sp.length ∧ Sp.getD (rk K (K p) Sp) 0 = p := by
  obtain ⟨i, hi, e⟩ := List.getElem_of_mem hp
  have eD : Sp.getD i 0 = p := by
    rw [List.getD_eq_getElem?_getD, List.getElem?_eq_getElem hi]
    exact e
  have h1 : ¬ i < rk K (K p) Sp := fun z => by
    have := (rk_iff hs hi).mpr z
    rw [eD, Int32.lt_iff_toInt_lt] at this
    omega
  have h2 : ∀ q, q < i → q < rk K (K p) Sp := fun q hq => by
    refine (rk_iff hs (Nat.lt_trans hq hi)).mp ?_
    have h3 := List.pairwise_iff_getElem.mp hs q i (Nat.lt_trans hq hi) hi hq
    rw [e] at h3
    rw [List.getD_eq_getElem?_getD, List.getElem?_eq_getElem (Nat.lt_trans hq hi)]
    exact h3
  have h3 : rk K (K p) Sp = i := by
    rcases Nat.lt_trichotomy (rk K (K p) Sp) i with h | h | h
    · exact absurd (h2 _ h) (Nat.lt_irrefl _)
    · exact h
    · exact absurd h h1
  rw [h3]
  exact ⟨hi, eD⟩
theorem rk_find {K : Nat → Int32} {k : Int32} {Sp : List Nat} (hs : Sp.Pairwise (fun x y => K x < K y)) : (rk K k Sp < Sp.length ∧ K (Sp.getD (rk K k Sp) 0) = k) ∨ ((¬ (rk K k Sp < Sp.length ∧ K (Sp.getD (rk K k Sp) 0) = k)) ∧ k ∉ Sp.map K) := by
  by_cases c : rk K k Sp < Sp.length ∧ K (Sp.getD (rk K k Sp) 0) = k
  · exact Or.inl c
  · refine Or.inr ⟨c, fun z => c ?_⟩
    obtain ⟨p, hp, e⟩ := List.mem_map.mp z
    have h := rk_at hs hp
    rw [e] at h
    exact ⟨h.1, by rw [h.2]; exact e⟩
/-- a place comes in, goes out -/
theorem ps_add {K Z : Nat → Int32} {R Sp : List Nat} {p : Nat} {k : Int32} (h : PS K Z R Sp) (hp : p ∉ R) (hk : k ∉ R.map K) : PS (upd K p k) (upd (va_cpy Z Z (rk K k Sp) (rk K k Sp + 1) (Sp.length - rk K k Sp)) (rk K k Sp) (nI p)) (R ++ [p]) (Sp.take (rk K k Sp) ++ p :: Sp.drop (rk K k Sp)) := by
  obtain ⟨h1, h2, h3⟩ := h
  have hr : rk K k Sp ≤ Sp.length := rk_le
  generalize er : rk K k Sp = r at *
  have hpS : p ∉ Sp := fun z => hp (h1.mem_iff.mp z)
  have hin : ∀ x, x ∈ Sp → upd K p k x = K x := fun x hx => pk_un (fun z => hpS (by rw [← z]; exact hx))
  refine ⟨?_, ?_, ?_⟩
  · refine List.perm_middle.trans ?_
    rw [List.take_append_drop]
    exact (List.Perm.cons p h1).trans (List.perm_append_singleton p _).symm
  · refine List.pairwise_append.mpr ⟨?_, List.pairwise_cons.mpr ⟨?_, ?_⟩, ?_⟩
    · exact (h2.take).imp_of_mem (fun {a b} ha hb q => by rw [hin _ (List.mem_of_mem_take ha), hin _ (List.mem_of_mem_take hb)]; exact q)
    · intro y hy
      rw [pk_us, hin y (List.mem_of_mem_drop hy)]
      obtain ⟨i, hi, e⟩ := List.getElem_of_mem hy
      rw [List.getElem_drop] at e
      have hi' : r + i < Sp.length := by rw [List.length_drop] at hi; omega
      have h4 : ¬ K (Sp.getD (r + i) 0) < k := fun z => by
        have := (rk_iff h2 hi').mp z
        omega
      have eD : Sp.getD (r + i) 0 = y := by
        rw [List.getD_eq_getElem?_getD, List.getElem?_eq_getElem hi']
        exact e
      rw [eD] at h4
      have h5 : K y ≠ k := fun z => hk (List.mem_map.mpr ⟨y, h1.mem_iff.mp (List.mem_of_mem_drop hy), z⟩)
      rw [Int32.lt_iff_toInt_lt] at h4 ⊢
      have h6 : (K y).toInt ≠ k.toInt := fun z => h5 (Int32.toInt_inj.mp z)
      omega
    · exact (h2.drop).imp_of_mem (fun {a b} ha hb q => by rw [hin _ (List.mem_of_mem_drop ha), hin _ (List.mem_of_mem_drop hb)]; exact q)
    · intro x hx y hy
      have hxS := List.mem_of_mem_take hx
      obtain ⟨i, hi, e⟩ := List.getElem_of_mem hx
      rw [List.getElem_take] at e
      have hi2 : i < r ∧ i < Sp.length := by rw [List.length_take] at hi; omega
      have eD : Sp.getD i 0 = x := by
        rw [List.getD_eq_getElem?_getD, List.getElem?_eq_getElem hi2.2]
        exact e
      have h4 : K x < k := by
        rw [← eD]
        exact (rk_iff h2 hi2.2).mpr (by omega)
      rcases List.mem_cons.mp hy with rfl | hy
      · rw [pk_us, hin x hxS]; exact h4
      · rw [hin x hxS, hin y (List.mem_of_mem_drop hy)]
        obtain ⟨q, hq, e'⟩ := List.getElem_of_mem hy
        rw [List.getElem_drop] at e'
        have hq' : r + q < Sp.length := by rw [List.length_drop] at hq; omega
        have h5 := List.pairwise_iff_getElem.mp h2 i (r + q) hi2.2 hq' (by omega)
        rw [e, e'] at h5
        exact h5
  · intro i hi
    have hlen : (Sp.take r ++ p :: Sp.drop r).length = Sp.length + 1 := by
      simp only [List.length_append, List.length_take, List.length_cons, List.length_drop]
      omega
    rw [hlen] at hi
    have ht : (Sp.take r).length = r := by rw [List.length_take]; omega
    rw [List.getD_eq_getElem?_getD, List.getElem?_append, ht]
    by_cases c1 : i < r
    · rw [if_pos c1, pk_un (by omega), pk_cpy_out (by omega), h3 i (by omega), List.getD_eq_getElem?_getD, List.getElem?_take, if_pos c1]
    · rw [if_neg c1]
      by_cases c2 : i = r
      · subst c2
        rw [pk_us, Nat.sub_self]
        rfl
      · obtain ⟨q, rfl⟩ : ∃ q, i = r + (q + 1) := ⟨i - r - 1, by omega⟩
        have e1 : r + (q + 1) - r = q + 1 := by omega
        rw [e1, List.getElem?_cons_succ, List.getElem?_drop, pk_un (by omega), pk_cpy_in (by omega) (by omega), h3 _ (by omega), List.getD_eq_getElem?_getD]
        congr 3
        omega
theorem ps_del {K Z : Nat → Int32} {l1 l2 Sp : List Nat} {p : Nat} (h : PS K Z (l1 ++ p :: l2) Sp) (hnd : (l1 ++ p :: l2).Nodup) : PS K (va_cpy Z Z (rk K (K p) Sp + 1) (rk K (K p) Sp) (Sp.length - 1 - rk K (K p) Sp)) (l1 ++ l2) (Sp.take (rk K (K p) Sp) ++ Sp.drop (rk K (K p) Sp + 1)) := by
  obtain ⟨h1, h2, h3⟩ := h
  have hp : p ∈ Sp := h1.mem_iff.mpr (List.mem_append_right _ (List.mem_cons_self ..))
  obtain ⟨hr, eD⟩ := rk_at h2 hp
  generalize rk K (K p) Sp = r at *
  have e2 : Sp = Sp.take r ++ p :: Sp.drop (r + 1) := by
    have h4 : Sp.drop r = p :: Sp.drop (r + 1) := by
      rw [List.drop_eq_getElem_cons hr]
      rw [List.getD_eq_getElem?_getD, List.getElem?_eq_getElem hr] at eD
      congr 1
    conv => lhs; rw [← List.take_append_drop r Sp, h4]
  refine ⟨?_, ?_, ?_⟩
  · have h5 : (Sp.take r ++ p :: Sp.drop (r + 1)).Perm (l1 ++ p :: l2) := by rw [← e2]; exact h1
    exact ((List.perm_middle.symm.trans h5).trans List.perm_middle).cons_inv
  · rw [e2] at h2
    exact h2.sublist (List.Sublist.append_left (List.sublist_cons_self ..) _)
  · intro i hi
    have ht : (Sp.take r).length = r := by rw [List.length_take]; omega
    have hi : i < Sp.length - 1 := by
      simp only [List.length_append, List.length_take, List.length_drop] at hi
      omega
    rw [List.getD_eq_getElem?_getD, List.getElem?_append, ht]
    by_cases c1 : i < r
    · rw [if_pos c1, pk_cpy_out (by omega), h3 i (by omega), List.getD_eq_getElem?_getD, List.getElem?_take, if_pos c1]
    · rw [if_neg c1, pk_cpy_in (by omega) (by omega), h3 _ (by omega), List.getD_eq_getElem?_getD, List.getElem?_drop]
theorem pa_n {n j m : Nat} {R Fr : List Nat} (h : PA n j m R Fr) : 16 ≤ n ∧ n ≤ 2048 ∧ m ≤ n ∧ R.length ≤ m := by
  obtain ⟨⟨e, hj⟩, hm, _, _, hl⟩ := h
  have h1 : 2 ^ 4 ≤ 2 ^ (4 + j) := Nat.pow_le_pow_right (by decide) (by omega)
  have h2 : 2 ^ (4 + j) ≤ 2 ^ 11 := Nat.pow_le_pow_right (by decide) (by omega)
  omega
theorem pa_in {n j m : Nat} {R Fr : List Nat} (h : PA n j m R Fr) {x : Nat} (hx : x ∈ R) : x < m ∧ x < n := by
  have h1 := (h.2.2.2.1 x).mp (List.mem_append_left _ hx)
  have h2 := h.2.1
  omega
theorem pa_inF {n j m : Nat} {R Fr : List Nat} (h : PA n j m R Fr) {x : Nat} (hx : x ∈ Fr) : x < m ∧ x < n := by
  have h1 := (h.2.2.2.1 x).mp (List.mem_append_right _ hx)
  have h2 := h.2.1
  omega
theorem pa_nd {n j m : Nat} {R Fr : List Nat} (h : PA n j m R Fr) : R.Nodup := (List.nodup_append.mp h.2.2.1).1
theorem pa_perm {n j m : Nat} {R R' Fr : List Nat} (h : PA n j m R Fr) (p : R'.Perm R) : PA n j m R' Fr := by
  obtain ⟨a, b, c, d, e⟩ := h
  have pp : (R' ++ Fr).Perm (R ++ Fr) := p.append_right Fr
  exact ⟨a, b, pp.nodup_iff.mpr c, fun x => pp.mem_iff.trans (d x), by rw [p.length_eq]; exact e⟩
theorem pa_del {n j m : Nat} {l1 l2 Fr : List Nat} {x : Nat} (h : PA n j m (l1 ++ x :: l2) Fr) : PA n j m (l1 ++ l2) (x :: Fr) := by
  obtain ⟨a, b, c, d, e⟩ := h
  have p : ((l1 ++ l2) ++ x :: Fr).Perm ((l1 ++ x :: l2) ++ Fr) := by
    refine List.perm_middle.trans ?_
    refine List.Perm.trans ?_ (List.Perm.append_right Fr List.perm_middle.symm)
    exact List.Perm.refl _
  refine ⟨a, b, p.nodup_iff.mpr c, fun y => p.mem_iff.trans (d y), ?_⟩
  simp only [List.length_append, List.length_cons] at e ⊢
  omega
theorem pa_take {n j m : Nat} {R Fr : List Nat} {x : Nat} (h : PA n j m R (x :: Fr)) : PA n j m (R ++ [x]) Fr := by
  obtain ⟨a, b, c, d, e⟩ := h
  have p : (R ++ [x]) ++ Fr = R ++ x :: Fr := by simp
  refine ⟨a, b, by rw [p]; exact c, fun y => by rw [p]; exact d y, ?_⟩
  simp only [List.length_append, List.length_cons, List.length_nil] at e ⊢
  omega
theorem pa_make {n j m : Nat} {R : List Nat} (h : PA n j m R []) (hm : m < n) : PA n j (m + 1) (R ++ [m]) [] := by
  obtain ⟨a, b, c, d, e⟩ := h
  rw [List.append_nil] at c d
  refine ⟨a, hm, ?_, fun y => ?_, ?_⟩
  · rw [List.append_nil]
    refine List.nodup_append.mpr ⟨c, by simp, fun y hy z hz q => ?_⟩
    have h1 := (d y).mp hy
    have h2 : z = m := by simpa using hz
    omega
  · rw [List.append_nil]
    constructor
    · intro hy
      rcases List.mem_append.mp hy with hy | hy
      · have := (d y).mp hy
        omega
      · have h2 : y = m := by simpa using hy
        omega
    · intro hy
      by_cases q : y = m
      · rw [q]; exact List.mem_append_right _ (by simp)
      · exact List.mem_append_left _ ((d y).mpr (by omega))
  · simp only [List.length_append, List.length_cons, List.length_nil] at e ⊢
    omega
theorem pa_grow {n j m : Nat} {R : List Nat} (h : PA n j m R []) (hj : j < 7) : PA (2 * n) (j + 1) m R [] := by
  obtain ⟨⟨a1, a2⟩, b, c, d, e⟩ := h
  refine ⟨⟨by rw [a1]; rw [← Nat.add_assoc, Nat.pow_succ]; omega, by omega⟩, by omega, c, d, e⟩
/-- the last, or -1 -/
def lsI : List Nat → Int32
  | [] => -1
  | y :: t => nI (ls_ y t)
def hdI : List Nat → Int32
  | [] => -1
  | y :: _ => nI y
theorem sg_hdI {f : Nat → Int32} {a : Int32} {l : List Nat} (h : sg f a l (-1)) : a = hdI l := by
  cases l with
  | nil => exact h
  | cons y t => exact h.1
theorem hdI_rev (l : List Nat) : hdI l.reverse = lsI l := by
  rcases List.eq_nil_or_concat l with rfl | ⟨l', x, rfl⟩
  · rfl
  · rw [List.concat_eq_append, List.reverse_append]
    show nI x = lsI (l' ++ [x])
    cases l' with
    | nil => rfl
    | cons y t =>
      show nI x = nI (ls_ y (t ++ [x]))
      rw [ls_snoc]
def cB (f : Nat → Int32) (a v : Int32) : List Nat → (Nat → Int32) × Int32
  | [] => (f, v)
  | z :: _ => (upd f z v, a)
theorem cN_rev {f : Nat → Int32} {a v : Int32} (l : List Nat) : cN f a v l.reverse = cB f a v l := by
  cases l with
  | nil => rfl
  | cons z t =>
    have h := ls_snoc
    rw [List.reverse_cons]
    cases t.reverse with
    | nil => rfl
    | cons y w =>
      show (upd f (ls_ y (w ++ [z])) v, a) = (upd f z v, a)
      rw [ls_snoc]
/-- taken out of the order, put last -/
theorem pn_cut {P N : Nat → Int32} {fi la : Int32} {l1 l2 : List Nat} {p : Nat} (nd : (l1 ++ p :: l2).Nodup) (h : PN P N fi la (l1 ++ p :: l2)) : P p = lsI l1 ∧ N p = hdI l2 ∧ PN (cB P la (P p) l2).1 (cN N fi (N p) l1).1 (cN N fi (N p) l1).2 (cB P la (P p) l2).2 (l1 ++ l2) := by
  obtain ⟨hN, hP⟩ := h
  have er : (l1 ++ p :: l2).reverse = l2.reverse ++ p :: l1.reverse := by simp
  have er2 : (l1 ++ l2).reverse = l2.reverse ++ l1.reverse := by simp
  rw [er] at hP
  have ndr : (l2.reverse ++ p :: l1.reverse).Nodup := by rw [← er]; exact (List.reverse_perm _).nodup_iff.mpr nd
  refine ⟨?_, sg_hdI (sg_app.mp hN).2, sg_cutv nd hN, ?_⟩
  · have := sg_hdI (sg_app.mp hP).2
    rwa [hdI_rev] at this
  · have := sg_cutv ndr hP
    rw [cN_rev] at this
    rw [er2]
    exact this
theorem pn_add {P N : Nat → Int32} {fi la : Int32} {R : List Nat} {p : Nat} (nd : R.Nodup) (hp : p ∉ R) (h : PN P N fi la R) : la = lsI R ∧ PN (upd P p la) (cL N fi (-1) p R).1 (cL N fi (-1) p R).2 (nI p) (R ++ [p]) := by
  refine ⟨?_, sg_snocv nd hp h.1, ?_⟩
  · have := sg_hdI h.2
    rwa [hdI_rev] at this
  · have er : (R ++ [p]).reverse = p :: R.reverse := by simp
    rw [er]
    refine ⟨rfl, ?_⟩
    rw [pk_us]
    exact sg_upd (fun z => hp (List.mem_reverse.mp z)) h.2
/-- rows of free places that nobody of R touches -/
theorem cN_out {f : Nat → Int32} {a v : Int32} {l1 : List Nat} {z : Nat} (h : z ∉ l1) : (cN f a v l1).1 z = f z := by
  cases l1 with
  | nil => rfl
  | cons y t => exact pk_un (fun e => h (by rw [e]; exact ls_mem y t))
theorem cL_out {f : Nat → Int32} {a v : Int32} {i : Nat} {l : List Nat} {z : Nat} (h : z ∉ l) (hi : z ≠ i) : (cL f a v i l).1 z = f z := by
  cases l with
  | nil => exact pk_un hi
  | cons y t =>
    show upd (upd f i v) (ls_ y t) (nI i) z = f z
    rw [pk_un (fun e => h (by rw [e]; exact ls_mem y t)), pk_un hi]
theorem ps_perm {K Z : Nat → Int32} {R R' Sp : List Nat} (h : PS K Z R Sp) (p : R'.Perm R) : PS K Z R' Sp := ⟨h.1.trans p.symm, h.2⟩
theorem ps_nd {K Z : Nat → Int32} {R Sp : List Nat} (h : PS K Z R Sp) : (R.map K).Nodup := by
  refine ((h.1.map K).nodup_iff).mp ?_
  have h1 := h.2.1
  refine List.pairwise_map.mpr (h1.imp (fun {a b} q z => ?_))
  rw [z, Int32.lt_iff_toInt_lt] at q
  omega
/-- the place of a key -/
def io : Option Nat → Int32
  | none => -1
  | some x => nI x
def so (K : Nat → Int32) (k : Int32) (R : List Nat) : Option Nat := R.find? (fun x => K x == k)
theorem so_cases (K : Nat → Int32) (k : Int32) (R : List Nat) : (so K k R = none ∧ k ∉ R.map K) ∨ ∃ x, so K k R = some x ∧ x ∈ R ∧ K x = k := by
  unfold so
  cases h : R.find? (fun x => K x == k) with
  | none =>
    refine Or.inl ⟨rfl, fun z => ?_⟩
    obtain ⟨x, hx, e⟩ := List.mem_map.mp z
    have := List.find?_eq_none.mp h x hx
    exact this (by simp [e])
  | some x =>
    refine Or.inr ⟨x, rfl, List.mem_of_find?_eq_some h, ?_⟩
    have := List.find?_some h
    simpa using this
theorem so_eq {K : Nat → Int32} {k : Int32} {R : List Nat} (nd : (R.map K).Nodup) {x : Nat} (hx : x ∈ R) (e : K x = k) : so K k R = some x := by
  rcases so_cases K k R with h | ⟨y, h1, h2, h3⟩
  · exact absurd (List.mem_map.mpr ⟨x, hx, e⟩) h.2
  · rw [h1, nd_inj nd h2 hx (h3.trans e.symm)]
theorem so_none {K : Nat → Int32} {k : Int32} {R : List Nat} (h : k ∉ R.map K) : so K k R = none := by
  rcases so_cases K k R with q | ⟨y, h1, h2, h3⟩
  · exact q.1
  · exact absurd (List.mem_map.mpr ⟨y, h2, h3⟩) h
theorem m1_neg : (-1 : Int32) < 0 := by decide
theorem m1_nge : ¬ (0 : Int32) ≤ -1 := by decide
end
section
-- Pairs (1): printed by wip/whole/gen/pr1.py
abbrev px (cI : ClassId) (a qs qk qv qb qn n : Nat) (Z K V P N : Nat → Int32) (my fr md fi la : Int32) : va_W := [(a, .inr (2, [.ref qs, .ref qk, .ref qv, .ref qb, .ref qn, .int my, .int fr, .int md, .int fi, .int la])), (qs, .inl (cI, n, .inl Z)), (qk, .inl (cI, n, .inl K)), (qv, .inl (cI, n, .inl V)), (qb, .inl (cI, n, .inl P)), (qn, .inl (cI, n, .inl N))]
set_option maxRecDepth 100000 in
set_option maxHeartbeats 4000000 in
/-- rankOf(k) -/
theorem c_pr_rankOf (l : Launch) (D : va_G) (cI cT cP : ClassId) (a qs qk qv qb qn n : Nat) (Z K V P N : Nat → Int32) (fr md fi la : Int32) (Sp : List Nat) (hs : Sp.Pairwise (fun x y => K x < K y)) (hZ : ∀ i, i < Sp.length → Z i = nI (Sp.getD i 0)) (hin2 : ∀ x, x ∈ Sp → x < n) (hle : Sp.length ≤ n) (hn4 : n ≤ 4096) (k : Int32) : Cg l y_pr_rankOf b_pr_rankOf 5 (some .int) 0 0 0 D (ty3 cI cT cP) [.ref a, .int k] (px cI a qs qk qv qb qn n Z K V P N (nI Sp.length) fr md fi la) (fun (v : Option Value) (u : Unit) => v = some (.int (nI (rk K k Sp)))) (fun u => px cI a qs qk qv qb qn n Z K V P N (nI Sp.length) fr md fi la) := by
  have hn : n < 2 ^ 31 := by omega
  have hrk : rk K k Sp ≤ Sp.length := rk_le
  refine cg_enter rfl (Nat.le_of_ble_eq_true rfl) ?_
  intro p e s m below meth c args hx hb hr hlk hml hown hin hts A hA hK hP hD hS ls hl Q hQ
  have hl : lv_has ls 5 [(0, .ref a), (1, .int k)] := hl
  have hP : va_P D cls (px cI a qs qk qv qb qn n Z K V P N (nI Sp.length) fr md fi la) s.heap := hP
  have hD : va_D A (px cI a qs qk qv qb qn n Z K V P N (nI Sp.length) fr md fi la) := hD
  refine lv_iconst (v := 0) hx hb d_pr_rankOf_0 (by decide) ?_
  refine lv_istore_n (lv' := [(2, .int 0), (0, .ref a), (1, .int k)]) hx hb d_pr_rankOf_1 rfl hl (by decide) rfl (fun ls hl => ?_)
  refine lv_aload_n hx hb d_pr_rankOf_2 rfl (lv_at hl 1 rfl) ?_
  refine va_get (D := D) (ci := 2) (v := .int (nI Sp.length)) (C := R_pr) (T := F_pr) (N := 10) hx hb hts i_pr hown hK hP 0 rfl rfl 5 (by decide) (hts _ kf_pr_35) (fun _ h9 => h9) rfl d_pr_rankOf_3 ?_
  refine lv_istore_n (lv' := [(3, .int (nI Sp.length)), (2, .int 0), (0, .ref a), (1, .int k)]) hx hb d_pr_rankOf_6 rfl hl (by decide) rfl (fun ls hl => ?_)
  have loop : ∀ (fu lo hi : Nat), hi ≤ lo + fu → lo ≤ rk K k Sp → rk K k Sp ≤ hi → hi ≤ Sp.length → ∀ ls : Array Slot, lv_has ls 5 [(0, .ref a), (1, .int k), (2, .int (nI lo)), (3, .int (nI hi))] → W p l e (rmL 0 0 0) s m args below meth c s.heap [] 0 0 Q (F0 m 7 ls []) := by
    intro fu
    induction fu with
    | zero =>
      intro lo hi h1 h2 h3 h4 ls hl
      have e1 : lo = rk K k Sp := by omega
      refine lv_iload_n hx hb d_pr_rankOf_7 rfl (lv_at hl 2 rfl) ?_
      refine lv_iload_n hx hb d_pr_rankOf_8 rfl (lv_at hl 3 rfl) ?_
      refine lv_icmp_ge (tgt := 49) hx hb d_pr_rankOf_9 (by decide) (fun _ => ?_) (fun z9 => absurd (nI_le (by omega) (by omega)) z9)
      refine lv_iload_n hx hb d_pr_rankOf_49 rfl (lv_at hl 2 rfl) ?_
      exact cg_iret (u := ()) hQ hx hb hr hlk hK hP hD hS (by rw [e1]) d_pr_rankOf_50
    | succ fu ih =>
      intro lo hi h1 h2 h3 h4 ls hl
      by_cases h5 : lo < hi
      · obtain ⟨md, hmd⟩ : ∃ md, md = (lo + hi) / 2 := ⟨_, rfl⟩
        have hm1 : lo ≤ md ∧ md < hi := by omega
        have hx1 : Sp.getD md 0 ∈ Sp := by
          rw [List.getD_eq_getElem?_getD, List.getElem?_eq_getElem (by omega)]
          exact List.getElem_mem _
        have hri := rk_iff (k := k) hs (i := md) (by omega)
        refine lv_iload_n hx hb d_pr_rankOf_7 rfl (lv_at hl 2 rfl) ?_
        refine lv_iload_n hx hb d_pr_rankOf_8 rfl (lv_at hl 3 rfl) ?_
        refine lv_icmp_ge (tgt := 49) hx hb d_pr_rankOf_9 (by decide) (fun z9 => absurd z9 (nI_ge h5 (by omega))) (fun _ => ?_)
        refine lv_iload_n hx hb d_pr_rankOf_12 rfl (lv_at hl 2 rfl) ?_
        refine lv_iload_n hx hb d_pr_rankOf_13 rfl (lv_at hl 3 rfl) ?_
        refine lv_iadd hx hb d_pr_rankOf_14 ?_
        refine tp_i (y := nI (lo + hi)) (nI_add lo hi) ?_
        refine lv_iconst (v := 2) hx hb d_pr_rankOf_15 (by decide) ?_
        refine lv_idiv hx hb d_pr_rankOf_16 (by decide) ?_
        refine tp_i (y := nI md) (by rw [hmd]; exact pk_div (d := 2) (by omega) (by decide) (by decide)) ?_
        refine lv_istore (lv' := [(4, .int (nI md)), (0, .ref a), (1, .int k), (2, .int (nI lo)), (3, .int (nI hi))]) hx hb d_pr_rankOf_17 hl (by decide) rfl (fun ls hl => ?_)
        refine lv_aload_n hx hb d_pr_rankOf_19 rfl (lv_at hl 1 rfl) ?_
        refine va_get (D := D) (ci := 2) (v := .ref qk) (C := R_pr) (T := F_pr) (N := 10) hx hb hts i_pr hown hK hP 0 rfl rfl 1 (by decide) (hts _ kf_pr_13) (fun _ h9 => h9) rfl d_pr_rankOf_20 ?_
        refine lv_aload_n hx hb d_pr_rankOf_23 rfl (lv_at hl 1 rfl) ?_
        refine va_get (D := D) (ci := 2) (v := .ref qs) (C := R_pr) (T := F_pr) (N := 10) hx hb hts i_pr hown hK hP 0 rfl rfl 0 (by decide) (hts _ kf_pr_7) (fun _ h9 => h9) rfl d_pr_rankOf_24 ?_
        refine lv_iload hx hb d_pr_rankOf_27 (lv_at hl 0 rfl) ?_
        refine wa_ld (k := md) hx hb hK hP 1 0 rfl rfl (by omega) hn d_pr_rankOf_29 ?_
        refine tp_i (y := nI (Sp.getD md 0)) (hZ md (by omega)) ?_
        refine wa_ld (k := Sp.getD md 0) hx hb hK hP 2 0 rfl rfl (hin2 _ hx1) hn d_pr_rankOf_30 ?_
        refine lv_iload_n hx hb d_pr_rankOf_31 rfl (lv_at hl 2 rfl) ?_
        refine lv_icmp_ge (tgt := 43) hx hb d_pr_rankOf_32 (by decide) (fun c1 => ?_) (fun c1 => ?_)
        · refine lv_iload hx hb d_pr_rankOf_43 (lv_at hl 0 rfl) ?_
          refine lv_istore_n (lv' := [(3, .int (nI md)), (4, .int (nI md)), (0, .ref a), (1, .int k), (2, .int (nI lo))]) hx hb d_pr_rankOf_45 rfl hl (by decide) rfl (fun ls hl => ?_)
          refine lv_goto (tgt := 7) hx hb d_pr_rankOf_46 (by decide) ?_
          exact ih lo md (by omega) h2 (by have h6 : ¬ md < rk K k Sp := fun z9 => absurd (hri.mpr z9) (Int32.not_lt.mpr c1); omega) (by omega) ls (lv_sub hl [2, 3, 4, 0] rfl)
        · refine lv_iload hx hb d_pr_rankOf_35 (lv_at hl 0 rfl) ?_
          refine lv_iconst (v := 1) hx hb d_pr_rankOf_37 (by decide) ?_
          refine lv_iadd hx hb d_pr_rankOf_38 ?_
          refine tp_i (y := nI (md + 1)) (nI_1 md) ?_
          refine lv_istore_n (lv' := [(2, .int (nI (md + 1))), (4, .int (nI md)), (0, .ref a), (1, .int k), (3, .int (nI hi))]) hx hb d_pr_rankOf_39 rfl hl (by decide) rfl (fun ls hl => ?_)
          refine lv_goto (tgt := 46) hx hb d_pr_rankOf_40 (by decide) ?_
          refine lv_goto (tgt := 7) hx hb d_pr_rankOf_46 (by decide) ?_
          exact ih (md + 1) hi (by omega) (by have h6 := hri.mp (Int32.not_le.mp c1); omega) h3 h4 ls (lv_sub hl [2, 3, 0, 4] rfl)
      · have e1 : lo = rk K k Sp := by omega
        refine lv_iload_n hx hb d_pr_rankOf_7 rfl (lv_at hl 2 rfl) ?_
        refine lv_iload_n hx hb d_pr_rankOf_8 rfl (lv_at hl 3 rfl) ?_
        refine lv_icmp_ge (tgt := 49) hx hb d_pr_rankOf_9 (by decide) (fun _ => ?_) (fun z9 => absurd (nI_le (by omega) (by omega)) z9)
        refine lv_iload_n hx hb d_pr_rankOf_49 rfl (lv_at hl 2 rfl) ?_
        exact cg_iret (u := ()) hQ hx hb hr hlk hK hP hD hS (by rw [e1]) d_pr_rankOf_50
  exact loop Sp.length 0 Sp.length (by omega) (by omega) hrk (by omega) ls (lv_sub hl [2, 3, 1, 0] rfl)
set_option maxRecDepth 100000 in
set_option maxHeartbeats 4000000 in
/-- find(k) -/
theorem c_pr_find (l : Launch) (D : va_G) (cI cT cP : ClassId) (a qs qk qv qb qn n : Nat) (Z K V P N : Nat → Int32) (fr md fi la : Int32) (j mm : Nat) (R Fr Sp : List Nat) (hPA : PA n j mm R Fr) (hPS : PS K Z R Sp) (k : Int32) : Cg l y_pr_find b_pr_find 3 (some .int) 1 0 0 D (ty3 cI cT cP) [.ref a, .int k] (px cI a qs qk qv qb qn n Z K V P N (nI R.length) fr md fi la) (fun (v : Option Value) (u : Unit) => v = some (.int (io (so K k R)))) (fun u => px cI a qs qk qv qb qn n Z K V P N (nI R.length) fr md fi la) := by
  have hpn := pa_n hPA
  have hn : n < 2 ^ 31 := by omega
  have hSl : Sp.length = R.length := hPS.1.length_eq
  have hin2 : ∀ x, x ∈ Sp → x < n := fun x hx1 => (pa_in hPA (hPS.1.mem_iff.mp hx1)).2
  have hnd := ps_nd hPS
  refine cg_enter rfl (Nat.le_of_ble_eq_true rfl) ?_
  intro p e s m below meth c args hx hb hr hlk hml hown hin hts A hA hK hP hD hS ls hl Q hQ
  have hl : lv_has ls 3 [(0, .ref a), (1, .int k)] := hl
  have hP : va_P D cls (px cI a qs qk qv qb qn n Z K V P N (nI R.length) fr md fi la) s.heap := hP
  have hD : va_D A (px cI a qs qk qv qb qn n Z K V P N (nI R.length) fr md fi la) := hD
  rw [← hSl] at hP hD
  refine lv_aload_n hx hb d_pr_find_0 rfl (lv_at hl 0 rfl) ?_
  refine lv_iload_n hx hb d_pr_find_1 rfl (lv_at hl 1 rfl) ?_
  refine cg_V (hn := 1) (As := [.int k]) (rest := []) (wr := []) (q0 := 0) (ci := 2) hx hb hml hown hts (c_pr_rankOf l D cI cT cP a qs qk qv qb qn n Z K V P N fr md fi la Sp hPS.2.1 hPS.2.2 hin2 (by omega) (by omega) k) km_pr_38 ki_pr_rankOf ks_pr_rankOf kn_pr kc_pr_rankOf (by decide +kernel) rfl ⟨Nat.le_of_ble_eq_true rfl, Nat.le_of_ble_eq_true rfl⟩ hK hP hD hS hA [0, 1, 2, 3, 4, 5] [] rfl (by decide) rfl (by decide) (by decide) rfl rfl hl.1 rfl (Nat.le_of_ble_eq_true rfl) d_pr_find_2 ⟨Nat.zero_le _, Nat.zero_le _⟩ (fun v u H locs hpost hP hD hS => ?_)
  subst hpost
  refine W.eq (g2 := F0 m 5 ls [.int (nI (rk K k Sp))]) rfl ?_
  have hP : va_P D cls (px cI a qs qk qv qb qn n Z K V P N (nI Sp.length) fr md fi la) H := hP
  have hD : va_D A (px cI a qs qk qv qb qn n Z K V P N (nI Sp.length) fr md fi la) := hD
  rw [hSl] at hP hD
  have hpm : Sp.map K = Sp.map K := rfl
  rcases rk_find (K := K) (k := k) hPS.2.1 with ⟨r1, r2⟩ | ⟨r1, r2⟩
  · have hx1 : Sp.getD (rk K k Sp) 0 ∈ Sp := by
      rw [List.getD_eq_getElem?_getD, List.getElem?_eq_getElem r1]
      exact List.getElem_mem _
    have hso := so_eq hnd (hPS.1.mem_iff.mp hx1) r2
    refine lv_istore_n (lv' := [(2, .int (nI (rk K k Sp))), (0, .ref a), (1, .int k)]) hx hb d_pr_find_5 rfl hl (by decide) rfl (fun ls hl => ?_)
    refine lv_iload_n hx hb d_pr_find_6 rfl (lv_at hl 0 rfl) ?_
    refine lv_aload_n hx hb d_pr_find_7 rfl (lv_at hl 1 rfl) ?_
    refine va_get (D := D) (ci := 2) (v := .int (nI R.length)) (C := R_pr) (T := F_pr) (N := 10) hx hb hts i_pr hown hK hP 0 rfl rfl 5 (by decide) (hts _ kf_pr_35) (fun _ h9 => h9) rfl d_pr_find_8 ?_
    refine lv_icmp_ge (tgt := 38) hx hb d_pr_find_11 (by decide) (fun z9 => absurd z9 (nI_ge (by omega) (by omega))) (fun _ => ?_)
    refine lv_aload_n hx hb d_pr_find_14 rfl (lv_at hl 1 rfl) ?_
    refine va_get (D := D) (ci := 2) (v := .ref qk) (C := R_pr) (T := F_pr) (N := 10) hx hb hts i_pr hown hK hP 0 rfl rfl 1 (by decide) (hts _ kf_pr_13) (fun _ h9 => h9) rfl d_pr_find_15 ?_
    refine lv_aload_n hx hb d_pr_find_18 rfl (lv_at hl 1 rfl) ?_
    refine va_get (D := D) (ci := 2) (v := .ref qs) (C := R_pr) (T := F_pr) (N := 10) hx hb hts i_pr hown hK hP 0 rfl rfl 0 (by decide) (hts _ kf_pr_7) (fun _ h9 => h9) rfl d_pr_find_19 ?_
    refine lv_iload_n hx hb d_pr_find_22 rfl (lv_at hl 0 rfl) ?_
    refine wa_ld (k := rk K k Sp) hx hb hK hP 1 0 rfl rfl (by omega) hn d_pr_find_23 ?_
    refine tp_i (y := nI (Sp.getD (rk K k Sp) 0)) (hPS.2.2 _ r1) ?_
    refine wa_ld (k := Sp.getD (rk K k Sp) 0) hx hb hK hP 2 0 rfl rfl (hin2 _ hx1) hn d_pr_find_24 ?_
    refine lv_iload_n hx hb d_pr_find_25 rfl (lv_at hl 2 rfl) ?_
    refine lv_icmp_ne (tgt := 38) hx hb d_pr_find_26 (by decide) (fun z9 => absurd r2 z9) (fun _ => ?_)
    refine lv_aload_n hx hb d_pr_find_29 rfl (lv_at hl 1 rfl) ?_
    refine va_get (D := D) (ci := 2) (v := .ref qs) (C := R_pr) (T := F_pr) (N := 10) hx hb hts i_pr hown hK hP 0 rfl rfl 0 (by decide) (hts _ kf_pr_7) (fun _ h9 => h9) rfl d_pr_find_30 ?_
    refine lv_iload_n hx hb d_pr_find_33 rfl (lv_at hl 0 rfl) ?_
    refine wa_ld (k := rk K k Sp) hx hb hK hP 1 0 rfl rfl (by omega) hn d_pr_find_34 ?_
    refine tp_i (y := nI (Sp.getD (rk K k Sp) 0)) (hPS.2.2 _ r1) ?_
    refine lv_goto (tgt := 39) hx hb d_pr_find_35 (by decide) ?_
    exact cg_iret (u := ()) hQ hx hb hr hlk hK hP hD hS (by rw [hso]; rfl) d_pr_find_39
  · have hno : k ∉ R.map K := fun z9 => r2 ((hPS.1.map K).mem_iff.mpr z9)
    have hso := so_none hno
    refine lv_istore_n (lv' := [(2, .int (nI (rk K k Sp))), (0, .ref a), (1, .int k)]) hx hb d_pr_find_5 rfl hl (by decide) rfl (fun ls hl => ?_)
    refine lv_iload_n hx hb d_pr_find_6 rfl (lv_at hl 0 rfl) ?_
    refine lv_aload_n hx hb d_pr_find_7 rfl (lv_at hl 1 rfl) ?_
    refine va_get (D := D) (ci := 2) (v := .int (nI R.length)) (C := R_pr) (T := F_pr) (N := 10) hx hb hts i_pr hown hK hP 0 rfl rfl 5 (by decide) (hts _ kf_pr_35) (fun _ h9 => h9) rfl d_pr_find_8 ?_
    by_cases h5 : rk K k Sp < R.length
    · have hx1 : Sp.getD (rk K k Sp) 0 ∈ Sp := by
        rw [List.getD_eq_getElem?_getD, List.getElem?_eq_getElem (by omega)]
        exact List.getElem_mem _
      refine lv_icmp_ge (tgt := 38) hx hb d_pr_find_11 (by decide) (fun z9 => absurd z9 (nI_ge h5 (by omega))) (fun _ => ?_)
      refine lv_aload_n hx hb d_pr_find_14 rfl (lv_at hl 1 rfl) ?_
      refine va_get (D := D) (ci := 2) (v := .ref qk) (C := R_pr) (T := F_pr) (N := 10) hx hb hts i_pr hown hK hP 0 rfl rfl 1 (by decide) (hts _ kf_pr_13) (fun _ h9 => h9) rfl d_pr_find_15 ?_
      refine lv_aload_n hx hb d_pr_find_18 rfl (lv_at hl 1 rfl) ?_
      refine va_get (D := D) (ci := 2) (v := .ref qs) (C := R_pr) (T := F_pr) (N := 10) hx hb hts i_pr hown hK hP 0 rfl rfl 0 (by decide) (hts _ kf_pr_7) (fun _ h9 => h9) rfl d_pr_find_19 ?_
      refine lv_iload_n hx hb d_pr_find_22 rfl (lv_at hl 0 rfl) ?_
      refine wa_ld (k := rk K k Sp) hx hb hK hP 1 0 rfl rfl (by omega) hn d_pr_find_23 ?_
      refine tp_i (y := nI (Sp.getD (rk K k Sp) 0)) (hPS.2.2 _ (by omega)) ?_
      refine wa_ld (k := Sp.getD (rk K k Sp) 0) hx hb hK hP 2 0 rfl rfl (hin2 _ hx1) hn d_pr_find_24 ?_
      refine lv_iload_n hx hb d_pr_find_25 rfl (lv_at hl 2 rfl) ?_
      refine lv_icmp_ne (tgt := 38) hx hb d_pr_find_26 (by decide) (fun _ => ?_) (fun z9 => absurd z9 (fun z9 => r1 ⟨by omega, z9⟩))
      refine lv_iconst (v := (-1)) hx hb d_pr_find_38 (by decide) ?_
      exact cg_iret (u := ()) hQ hx hb hr hlk hK hP hD hS (by rw [hso]; rfl) d_pr_find_39
    · refine lv_icmp_ge (tgt := 38) hx hb d_pr_find_11 (by decide) (fun _ => ?_) (fun z9 => absurd (nI_le (by omega) (by have := rk_le (K := K) (k := k) (Sp := Sp); omega)) z9)
      refine lv_iconst (v := (-1)) hx hb d_pr_find_38 (by decide) ?_
      exact cg_iret (u := ()) hQ hx hb hr hlk hK hP hD hS (by rw [hso]; rfl) d_pr_find_39
set_option maxRecDepth 100000 in
set_option maxHeartbeats 4000000 in
/-- link(p0) -/
theorem c_pr_link (l : Launch) (D : va_G) (cI cT cP : ClassId) (a qs qk qv qb qn n : Nat) (Z K V P N : Nat → Int32) (my fr md fi : Int32) (hn : n < 2 ^ 31) (R : List Nat) (hRn : ∀ x, x ∈ R → x < n) (p0 : Nat) (hp0 : p0 < n) : Cg l y_pr_link b_pr_link 2 (none) 0 0 0 D (ty3 cI cT cP) [.ref a, .int (nI p0)] (px cI a qs qk qv qb qn n Z K V P N my fr md fi (lsI R)) (fun (v : Option Value) (u : Unit) => v = none) (fun u => px cI a qs qk qv qb qn n Z K V (upd P p0 (lsI R)) ((cL N fi (-1) p0 R).1) my fr md ((cL N fi (-1) p0 R).2) (nI p0)) := by
  refine cg_enter rfl (Nat.le_of_ble_eq_true rfl) ?_
  intro p e s m below meth c args hx hb hr hlk hml hown hin hts A hA hK hP hD hS ls hl Q hQ
  have hl : lv_has ls 2 [(0, .ref a), (1, .int (nI p0))] := hl
  have hP : va_P D cls (px cI a qs qk qv qb qn n Z K V P N my fr md fi (lsI R)) s.heap := hP
  have hD : va_D A (px cI a qs qk qv qb qn n Z K V P N my fr md fi (lsI R)) := hD
  cases R with
  | nil =>
    have hP : va_P D cls (px cI a qs qk qv qb qn n Z K V P N my fr md fi (-1)) s.heap := hP
    have hD : va_D A (px cI a qs qk qv qb qn n Z K V P N my fr md fi (-1)) := hD
    refine lv_aload_n hx hb d_pr_link_0 rfl (lv_at hl 0 rfl) ?_
    refine va_get (D := D) (ci := 2) (v := .ref qb) (C := R_pr) (T := F_pr) (N := 10) hx hb hts i_pr hown hK hP 0 rfl rfl 3 (by decide) (hts _ kf_pr_19) (fun _ h9 => h9) rfl d_pr_link_1 ?_
    refine lv_iload_n hx hb d_pr_link_4 rfl (lv_at hl 1 rfl) ?_
    refine lv_aload_n hx hb d_pr_link_5 rfl (lv_at hl 0 rfl) ?_
    refine va_get (D := D) (ci := 2) (v := .int (-1)) (C := R_pr) (T := F_pr) (N := 10) hx hb hts i_pr hown hK hP 0 rfl rfl 9 (by decide) (hts _ kf_pr_32) (fun _ h9 => h9) rfl d_pr_link_6 ?_
    refine wa_st (k := p0) (x := (-1)) hx hb hK hP hD hS 4 0 rfl rfl hp0 hn d_pr_link_9 (fun H locs hP hD hS => ?_)
    have hP : va_P D cls (px cI a qs qk qv qb qn n Z K V (upd P p0 (-1)) N my fr md fi (-1)) H := hP
    have hD : va_D A (px cI a qs qk qv qb qn n Z K V (upd P p0 (-1)) N my fr md fi (-1)) := hD
    refine lv_aload_n hx hb d_pr_link_10 rfl (lv_at hl 0 rfl) ?_
    refine va_get (D := D) (ci := 2) (v := .ref qn) (C := R_pr) (T := F_pr) (N := 10) hx hb hts i_pr hown hK hP 0 rfl rfl 4 (by decide) (hts _ kf_pr_22) (fun _ h9 => h9) rfl d_pr_link_11 ?_
    refine lv_iload_n hx hb d_pr_link_14 rfl (lv_at hl 1 rfl) ?_
    refine lv_iconst (v := (-1)) hx hb d_pr_link_15 (by decide) ?_
    refine wa_st (k := p0) (x := (-1)) hx hb hK hP hD hS 5 0 rfl rfl hp0 hn d_pr_link_16 (fun H locs hP hD hS => ?_)
    have hP : va_P D cls (px cI a qs qk qv qb qn n Z K V (upd P p0 (-1)) (upd N p0 (-1)) my fr md fi (-1)) H := hP
    have hD : va_D A (px cI a qs qk qv qb qn n Z K V (upd P p0 (-1)) (upd N p0 (-1)) my fr md fi (-1)) := hD
    refine lv_aload_n hx hb d_pr_link_17 rfl (lv_at hl 0 rfl) ?_
    refine va_get (D := D) (ci := 2) (v := .int (-1)) (C := R_pr) (T := F_pr) (N := 10) hx hb hts i_pr hown hK hP 0 rfl rfl 9 (by decide) (hts _ kf_pr_32) (fun _ h9 => h9) rfl d_pr_link_18 ?_
    refine lv_if_lt (tgt := 37) hx hb d_pr_link_21 (by decide) (fun _ => ?_) (fun z9 => absurd m1_neg z9)
    refine lv_aload_n hx hb d_pr_link_37 rfl (lv_at hl 0 rfl) ?_
    refine lv_iload_n hx hb d_pr_link_38 rfl (lv_at hl 1 rfl) ?_
    refine va_put (D := D) (ci := 2) (v := .int (nI p0)) (ty := .int) (C := R_pr) (T := F_pr) (N := 10) hx hb hts i_pr t_pr t_pr_ok n_pr hown hK hP hD hS 0 rfl rfl 8 (by decide) (hts _ kf_pr_29) (fun _ h9 => h9) rfl (by decide +kernel) rfl rfl (Nat.le_of_ble_eq_true rfl) d_pr_link_39 (fun H locs hP hD hS => ?_)
    have hP : va_P D cls (px cI a qs qk qv qb qn n Z K V (upd P p0 (-1)) (upd N p0 (-1)) my fr md (nI p0) (-1)) H := hP
    have hD : va_D A (px cI a qs qk qv qb qn n Z K V (upd P p0 (-1)) (upd N p0 (-1)) my fr md (nI p0) (-1)) := hD
    refine lv_aload_n hx hb d_pr_link_42 rfl (lv_at hl 0 rfl) ?_
    refine lv_iload_n hx hb d_pr_link_43 rfl (lv_at hl 1 rfl) ?_
    refine va_put (D := D) (ci := 2) (v := .int (nI p0)) (ty := .int) (C := R_pr) (T := F_pr) (N := 10) hx hb hts i_pr t_pr t_pr_ok n_pr hown hK hP hD hS 0 rfl rfl 9 (by decide) (hts _ kf_pr_32) (fun _ h9 => h9) rfl (by decide +kernel) rfl rfl (Nat.le_of_ble_eq_true rfl) d_pr_link_44 (fun H locs hP hD hS => ?_)
    have hP : va_P D cls (px cI a qs qk qv qb qn n Z K V (upd P p0 (-1)) (upd N p0 (-1)) my fr md (nI p0) (nI p0)) H := hP
    have hD : va_D A (px cI a qs qk qv qb qn n Z K V (upd P p0 (-1)) (upd N p0 (-1)) my fr md (nI p0) (nI p0)) := hD
    exact cg_vret (u := ()) hQ hx hb hr hlk hK hP hD hS rfl d_pr_link_47
  | cons y t =>
    have hP : va_P D cls (px cI a qs qk qv qb qn n Z K V P N my fr md fi (nI (ls_ y t))) s.heap := hP
    have hD : va_D A (px cI a qs qk qv qb qn n Z K V P N my fr md fi (nI (ls_ y t))) := hD
    have hln : ls_ y t < n := hRn _ (ls_mem y t)
    refine lv_aload_n hx hb d_pr_link_0 rfl (lv_at hl 0 rfl) ?_
    refine va_get (D := D) (ci := 2) (v := .ref qb) (C := R_pr) (T := F_pr) (N := 10) hx hb hts i_pr hown hK hP 0 rfl rfl 3 (by decide) (hts _ kf_pr_19) (fun _ h9 => h9) rfl d_pr_link_1 ?_
    refine lv_iload_n hx hb d_pr_link_4 rfl (lv_at hl 1 rfl) ?_
    refine lv_aload_n hx hb d_pr_link_5 rfl (lv_at hl 0 rfl) ?_
    refine va_get (D := D) (ci := 2) (v := .int (nI (ls_ y t))) (C := R_pr) (T := F_pr) (N := 10) hx hb hts i_pr hown hK hP 0 rfl rfl 9 (by decide) (hts _ kf_pr_32) (fun _ h9 => h9) rfl d_pr_link_6 ?_
    refine wa_st (k := p0) (x := (nI (ls_ y t))) hx hb hK hP hD hS 4 0 rfl rfl hp0 hn d_pr_link_9 (fun H locs hP hD hS => ?_)
    have hP : va_P D cls (px cI a qs qk qv qb qn n Z K V (upd P p0 (nI (ls_ y t))) N my fr md fi (nI (ls_ y t))) H := hP
    have hD : va_D A (px cI a qs qk qv qb qn n Z K V (upd P p0 (nI (ls_ y t))) N my fr md fi (nI (ls_ y t))) := hD
    refine lv_aload_n hx hb d_pr_link_10 rfl (lv_at hl 0 rfl) ?_
    refine va_get (D := D) (ci := 2) (v := .ref qn) (C := R_pr) (T := F_pr) (N := 10) hx hb hts i_pr hown hK hP 0 rfl rfl 4 (by decide) (hts _ kf_pr_22) (fun _ h9 => h9) rfl d_pr_link_11 ?_
    refine lv_iload_n hx hb d_pr_link_14 rfl (lv_at hl 1 rfl) ?_
    refine lv_iconst (v := (-1)) hx hb d_pr_link_15 (by decide) ?_
    refine wa_st (k := p0) (x := (-1)) hx hb hK hP hD hS 5 0 rfl rfl hp0 hn d_pr_link_16 (fun H locs hP hD hS => ?_)
    have hP : va_P D cls (px cI a qs qk qv qb qn n Z K V (upd P p0 (nI (ls_ y t))) (upd N p0 (-1)) my fr md fi (nI (ls_ y t))) H := hP
    have hD : va_D A (px cI a qs qk qv qb qn n Z K V (upd P p0 (nI (ls_ y t))) (upd N p0 (-1)) my fr md fi (nI (ls_ y t))) := hD
    refine lv_aload_n hx hb d_pr_link_17 rfl (lv_at hl 0 rfl) ?_
    refine va_get (D := D) (ci := 2) (v := .int (nI (ls_ y t))) (C := R_pr) (T := F_pr) (N := 10) hx hb hts i_pr hown hK hP 0 rfl rfl 9 (by decide) (hts _ kf_pr_32) (fun _ h9 => h9) rfl d_pr_link_18 ?_
    refine lv_if_lt (tgt := 37) hx hb d_pr_link_21 (by decide) (fun z9 => absurd z9 (nI_pos (by omega))) (fun _ => ?_)
    refine lv_aload_n hx hb d_pr_link_24 rfl (lv_at hl 0 rfl) ?_
    refine va_get (D := D) (ci := 2) (v := .ref qn) (C := R_pr) (T := F_pr) (N := 10) hx hb hts i_pr hown hK hP 0 rfl rfl 4 (by decide) (hts _ kf_pr_22) (fun _ h9 => h9) rfl d_pr_link_25 ?_
    refine lv_aload_n hx hb d_pr_link_28 rfl (lv_at hl 0 rfl) ?_
    refine va_get (D := D) (ci := 2) (v := .int (nI (ls_ y t))) (C := R_pr) (T := F_pr) (N := 10) hx hb hts i_pr hown hK hP 0 rfl rfl 9 (by decide) (hts _ kf_pr_32) (fun _ h9 => h9) rfl d_pr_link_29 ?_
    refine lv_iload_n hx hb d_pr_link_32 rfl (lv_at hl 1 rfl) ?_
    refine wa_st (k := ls_ y t) (x := (nI p0)) hx hb hK hP hD hS 5 0 rfl rfl hln hn d_pr_link_33 (fun H locs hP hD hS => ?_)
    have hP : va_P D cls (px cI a qs qk qv qb qn n Z K V (upd P p0 (nI (ls_ y t))) (upd (upd N p0 (-1)) (ls_ y t) (nI p0)) my fr md fi (nI (ls_ y t))) H := hP
    have hD : va_D A (px cI a qs qk qv qb qn n Z K V (upd P p0 (nI (ls_ y t))) (upd (upd N p0 (-1)) (ls_ y t) (nI p0)) my fr md fi (nI (ls_ y t))) := hD
    refine lv_goto (tgt := 42) hx hb d_pr_link_34 (by decide) ?_
    refine lv_aload_n hx hb d_pr_link_42 rfl (lv_at hl 0 rfl) ?_
    refine lv_iload_n hx hb d_pr_link_43 rfl (lv_at hl 1 rfl) ?_
    refine va_put (D := D) (ci := 2) (v := .int (nI p0)) (ty := .int) (C := R_pr) (T := F_pr) (N := 10) hx hb hts i_pr t_pr t_pr_ok n_pr hown hK hP hD hS 0 rfl rfl 9 (by decide) (hts _ kf_pr_32) (fun _ h9 => h9) rfl (by decide +kernel) rfl rfl (Nat.le_of_ble_eq_true rfl) d_pr_link_44 (fun H locs hP hD hS => ?_)
    have hP : va_P D cls (px cI a qs qk qv qb qn n Z K V (upd P p0 (nI (ls_ y t))) (upd (upd N p0 (-1)) (ls_ y t) (nI p0)) my fr md fi (nI p0)) H := hP
    have hD : va_D A (px cI a qs qk qv qb qn n Z K V (upd P p0 (nI (ls_ y t))) (upd (upd N p0 (-1)) (ls_ y t) (nI p0)) my fr md fi (nI p0)) := hD
    exact cg_vret (u := ()) hQ hx hb hr hlk hK hP hD hS rfl d_pr_link_47
set_option maxRecDepth 100000 in
set_option maxHeartbeats 4000000 in
/-- unlink(p0) -/
theorem c_pr_unlink (l : Launch) (D : va_G) (cI cT cP : ClassId) (a qs qk qv qb qn n : Nat) (Z K V P N : Nat → Int32) (my fr md fi la : Int32) (hn : n < 2 ^ 31) (l1 l2 : List Nat) (p0 : Nat) (hp0 : p0 < n) (e1 : P p0 = lsI l1) (e2 : N p0 = hdI l2) (h1n : ∀ x, x ∈ l1 → x < n ∧ x ≠ p0) (h2n : ∀ x, x ∈ l2 → x < n) : Cg l y_pr_unlink b_pr_unlink 2 (none) 0 0 0 D (ty3 cI cT cP) [.ref a, .int (nI p0)] (px cI a qs qk qv qb qn n Z K V P N my fr md fi la) (fun (v : Option Value) (u : Unit) => v = none) (fun u => px cI a qs qk qv qb qn n Z K V ((cB P la (P p0) l2).1) ((cN N fi (N p0) l1).1) my fr md ((cN N fi (N p0) l1).2) ((cB P la (P p0) l2).2)) := by
  refine cg_enter rfl (Nat.le_of_ble_eq_true rfl) ?_
  intro p e s m below meth c args hx hb hr hlk hml hown hin hts A hA hK hP hD hS ls hl Q hQ
  have hl : lv_has ls 2 [(0, .ref a), (1, .int (nI p0))] := hl
  have hP : va_P D cls (px cI a qs qk qv qb qn n Z K V P N my fr md fi la) s.heap := hP
  have hD : va_D A (px cI a qs qk qv qb qn n Z K V P N my fr md fi la) := hD
  cases l1 with
  | nil =>
    have e1 : P p0 = -1 := e1
    refine lv_aload_n hx hb d_pr_unlink_0 rfl (lv_at hl 0 rfl) ?_
    refine va_get (D := D) (ci := 2) (v := .ref qb) (C := R_pr) (T := F_pr) (N := 10) hx hb hts i_pr hown hK hP 0 rfl rfl 3 (by decide) (hts _ kf_pr_19) (fun _ h9 => h9) rfl d_pr_unlink_1 ?_
    refine lv_iload_n hx hb d_pr_unlink_4 rfl (lv_at hl 1 rfl) ?_
    refine wa_ld (k := p0) hx hb hK hP 4 0 rfl rfl hp0 hn d_pr_unlink_5 ?_
    refine tp_i (y := -1) e1 ?_
    refine lv_if_lt (tgt := 29) hx hb d_pr_unlink_6 (by decide) (fun _ => ?_) (fun z9 => absurd m1_neg z9)
    refine lv_aload_n hx hb d_pr_unlink_29 rfl (lv_at hl 0 rfl) ?_
    refine lv_aload_n hx hb d_pr_unlink_30 rfl (lv_at hl 0 rfl) ?_
    refine va_get (D := D) (ci := 2) (v := .ref qn) (C := R_pr) (T := F_pr) (N := 10) hx hb hts i_pr hown hK hP 0 rfl rfl 4 (by decide) (hts _ kf_pr_22) (fun _ h9 => h9) rfl d_pr_unlink_31 ?_
    refine lv_iload_n hx hb d_pr_unlink_34 rfl (lv_at hl 1 rfl) ?_
    refine wa_ld (k := p0) hx hb hK hP 5 0 rfl rfl hp0 hn d_pr_unlink_35 ?_
    refine va_put (D := D) (ci := 2) (v := .int (N p0)) (ty := .int) (C := R_pr) (T := F_pr) (N := 10) hx hb hts i_pr t_pr t_pr_ok n_pr hown hK hP hD hS 0 rfl rfl 8 (by decide) (hts _ kf_pr_29) (fun _ h9 => h9) rfl (by decide +kernel) rfl rfl (Nat.le_of_ble_eq_true rfl) d_pr_unlink_36 (fun H locs hP hD hS => ?_)
    have hP : va_P D cls (px cI a qs qk qv qb qn n Z K V P N my fr md (N p0) la) H := hP
    have hD : va_D A (px cI a qs qk qv qb qn n Z K V P N my fr md (N p0) la) := hD
    cases l2 with
    | nil =>
      have e2 : N p0 = -1 := e2
      refine lv_aload_n hx hb d_pr_unlink_39 rfl (lv_at hl 0 rfl) ?_
      refine va_get (D := D) (ci := 2) (v := .ref qn) (C := R_pr) (T := F_pr) (N := 10) hx hb hts i_pr hown hK hP 0 rfl rfl 4 (by decide) (hts _ kf_pr_22) (fun _ h9 => h9) rfl d_pr_unlink_40 ?_
      refine lv_iload_n hx hb d_pr_unlink_43 rfl (lv_at hl 1 rfl) ?_
      refine wa_ld (k := p0) hx hb hK hP 5 0 rfl rfl hp0 hn d_pr_unlink_44 ?_
      refine tp_i (y := -1) e2 ?_
      refine lv_if_lt (tgt := 68) hx hb d_pr_unlink_45 (by decide) (fun _ => ?_) (fun z9 => absurd m1_neg z9)
      refine lv_aload_n hx hb d_pr_unlink_68 rfl (lv_at hl 0 rfl) ?_
      refine lv_aload_n hx hb d_pr_unlink_69 rfl (lv_at hl 0 rfl) ?_
      refine va_get (D := D) (ci := 2) (v := .ref qb) (C := R_pr) (T := F_pr) (N := 10) hx hb hts i_pr hown hK hP 0 rfl rfl 3 (by decide) (hts _ kf_pr_19) (fun _ h9 => h9) rfl d_pr_unlink_70 ?_
      refine lv_iload_n hx hb d_pr_unlink_73 rfl (lv_at hl 1 rfl) ?_
      refine wa_ld (k := p0) hx hb hK hP 4 0 rfl rfl hp0 hn d_pr_unlink_74 ?_
      refine va_put (D := D) (ci := 2) (v := .int (P p0)) (ty := .int) (C := R_pr) (T := F_pr) (N := 10) hx hb hts i_pr t_pr t_pr_ok n_pr hown hK hP hD hS 0 rfl rfl 9 (by decide) (hts _ kf_pr_32) (fun _ h9 => h9) rfl (by decide +kernel) rfl rfl (Nat.le_of_ble_eq_true rfl) d_pr_unlink_75 (fun H locs hP hD hS => ?_)
      have hP : va_P D cls (px cI a qs qk qv qb qn n Z K V P N my fr md (N p0) (P p0)) H := hP
      have hD : va_D A (px cI a qs qk qv qb qn n Z K V P N my fr md (N p0) (P p0)) := hD
      exact cg_vret (u := ()) hQ hx hb hr hlk hK hP hD hS rfl d_pr_unlink_78
    | cons y2 t2 =>
      have e2 : N p0 = nI y2 := e2
      refine lv_aload_n hx hb d_pr_unlink_39 rfl (lv_at hl 0 rfl) ?_
      refine va_get (D := D) (ci := 2) (v := .ref qn) (C := R_pr) (T := F_pr) (N := 10) hx hb hts i_pr hown hK hP 0 rfl rfl 4 (by decide) (hts _ kf_pr_22) (fun _ h9 => h9) rfl d_pr_unlink_40 ?_
      refine lv_iload_n hx hb d_pr_unlink_43 rfl (lv_at hl 1 rfl) ?_
      refine wa_ld (k := p0) hx hb hK hP 5 0 rfl rfl hp0 hn d_pr_unlink_44 ?_
      refine tp_i (y := nI y2) e2 ?_
      refine lv_if_lt (tgt := 68) hx hb d_pr_unlink_45 (by decide) (fun z9 => absurd z9 (nI_pos (by have := h2n y2 (List.mem_cons_self ..); omega))) (fun _ => ?_)
      refine lv_aload_n hx hb d_pr_unlink_48 rfl (lv_at hl 0 rfl) ?_
      refine va_get (D := D) (ci := 2) (v := .ref qb) (C := R_pr) (T := F_pr) (N := 10) hx hb hts i_pr hown hK hP 0 rfl rfl 3 (by decide) (hts _ kf_pr_19) (fun _ h9 => h9) rfl d_pr_unlink_49 ?_
      refine lv_aload_n hx hb d_pr_unlink_52 rfl (lv_at hl 0 rfl) ?_
      refine va_get (D := D) (ci := 2) (v := .ref qn) (C := R_pr) (T := F_pr) (N := 10) hx hb hts i_pr hown hK hP 0 rfl rfl 4 (by decide) (hts _ kf_pr_22) (fun _ h9 => h9) rfl d_pr_unlink_53 ?_
      refine lv_iload_n hx hb d_pr_unlink_56 rfl (lv_at hl 1 rfl) ?_
      refine wa_ld (k := p0) hx hb hK hP 5 0 rfl rfl hp0 hn d_pr_unlink_57 ?_
      refine tp_i (y := nI y2) e2 ?_
      refine lv_aload_n hx hb d_pr_unlink_58 rfl (lv_at hl 0 rfl) ?_
      refine va_get (D := D) (ci := 2) (v := .ref qb) (C := R_pr) (T := F_pr) (N := 10) hx hb hts i_pr hown hK hP 0 rfl rfl 3 (by decide) (hts _ kf_pr_19) (fun _ h9 => h9) rfl d_pr_unlink_59 ?_
      refine lv_iload_n hx hb d_pr_unlink_62 rfl (lv_at hl 1 rfl) ?_
      refine wa_ld (k := p0) hx hb hK hP 4 0 rfl rfl hp0 hn d_pr_unlink_63 ?_
      refine wa_st (k := y2) (x := (P p0)) hx hb hK hP hD hS 4 0 rfl rfl (h2n y2 (List.mem_cons_self ..)) hn d_pr_unlink_64 (fun H locs hP hD hS => ?_)
      have hP : va_P D cls (px cI a qs qk qv qb qn n Z K V (upd P y2 (P p0)) N my fr md (N p0) la) H := hP
      have hD : va_D A (px cI a qs qk qv qb qn n Z K V (upd P y2 (P p0)) N my fr md (N p0) la) := hD
      refine lv_goto (tgt := 78) hx hb d_pr_unlink_65 (by decide) ?_
      exact cg_vret (u := ()) hQ hx hb hr hlk hK hP hD hS rfl d_pr_unlink_78
  | cons y1 t1 =>
    have e1 : P p0 = nI (ls_ y1 t1) := e1
    obtain ⟨hb1, hb2⟩ := h1n _ (ls_mem y1 t1)
    refine lv_aload_n hx hb d_pr_unlink_0 rfl (lv_at hl 0 rfl) ?_
    refine va_get (D := D) (ci := 2) (v := .ref qb) (C := R_pr) (T := F_pr) (N := 10) hx hb hts i_pr hown hK hP 0 rfl rfl 3 (by decide) (hts _ kf_pr_19) (fun _ h9 => h9) rfl d_pr_unlink_1 ?_
    refine lv_iload_n hx hb d_pr_unlink_4 rfl (lv_at hl 1 rfl) ?_
    refine wa_ld (k := p0) hx hb hK hP 4 0 rfl rfl hp0 hn d_pr_unlink_5 ?_
    refine tp_i (y := nI (ls_ y1 t1)) e1 ?_
    refine lv_if_lt (tgt := 29) hx hb d_pr_unlink_6 (by decide) (fun z9 => absurd z9 (nI_pos (by omega))) (fun _ => ?_)
    refine lv_aload_n hx hb d_pr_unlink_9 rfl (lv_at hl 0 rfl) ?_
    refine va_get (D := D) (ci := 2) (v := .ref qn) (C := R_pr) (T := F_pr) (N := 10) hx hb hts i_pr hown hK hP 0 rfl rfl 4 (by decide) (hts _ kf_pr_22) (fun _ h9 => h9) rfl d_pr_unlink_10 ?_
    refine lv_aload_n hx hb d_pr_unlink_13 rfl (lv_at hl 0 rfl) ?_
    refine va_get (D := D) (ci := 2) (v := .ref qb) (C := R_pr) (T := F_pr) (N := 10) hx hb hts i_pr hown hK hP 0 rfl rfl 3 (by decide) (hts _ kf_pr_19) (fun _ h9 => h9) rfl d_pr_unlink_14 ?_
    refine lv_iload_n hx hb d_pr_unlink_17 rfl (lv_at hl 1 rfl) ?_
    refine wa_ld (k := p0) hx hb hK hP 4 0 rfl rfl hp0 hn d_pr_unlink_18 ?_
    refine tp_i (y := nI (ls_ y1 t1)) e1 ?_
    refine lv_aload_n hx hb d_pr_unlink_19 rfl (lv_at hl 0 rfl) ?_
    refine va_get (D := D) (ci := 2) (v := .ref qn) (C := R_pr) (T := F_pr) (N := 10) hx hb hts i_pr hown hK hP 0 rfl rfl 4 (by decide) (hts _ kf_pr_22) (fun _ h9 => h9) rfl d_pr_unlink_20 ?_
    refine lv_iload_n hx hb d_pr_unlink_23 rfl (lv_at hl 1 rfl) ?_
    refine wa_ld (k := p0) hx hb hK hP 5 0 rfl rfl hp0 hn d_pr_unlink_24 ?_
    refine wa_st (k := ls_ y1 t1) (x := (N p0)) hx hb hK hP hD hS 5 0 rfl rfl hb1 hn d_pr_unlink_25 (fun H locs hP hD hS => ?_)
    have hP : va_P D cls (px cI a qs qk qv qb qn n Z K V P (upd N (ls_ y1 t1) (N p0)) my fr md fi la) H := hP
    have hD : va_D A (px cI a qs qk qv qb qn n Z K V P (upd N (ls_ y1 t1) (N p0)) my fr md fi la) := hD
    refine lv_goto (tgt := 39) hx hb d_pr_unlink_26 (by decide) ?_
    cases l2 with
    | nil =>
      have e2 : N p0 = -1 := e2
      refine lv_aload_n hx hb d_pr_unlink_39 rfl (lv_at hl 0 rfl) ?_
      refine va_get (D := D) (ci := 2) (v := .ref qn) (C := R_pr) (T := F_pr) (N := 10) hx hb hts i_pr hown hK hP 0 rfl rfl 4 (by decide) (hts _ kf_pr_22) (fun _ h9 => h9) rfl d_pr_unlink_40 ?_
      refine lv_iload_n hx hb d_pr_unlink_43 rfl (lv_at hl 1 rfl) ?_
      refine wa_ld (k := p0) hx hb hK hP 5 0 rfl rfl hp0 hn d_pr_unlink_44 ?_
      refine tp_i (y := -1) ((pk_un (fun z9 => hb2 z9.symm)).trans e2) ?_
      refine lv_if_lt (tgt := 68) hx hb d_pr_unlink_45 (by decide) (fun _ => ?_) (fun z9 => absurd m1_neg z9)
      refine lv_aload_n hx hb d_pr_unlink_68 rfl (lv_at hl 0 rfl) ?_
      refine lv_aload_n hx hb d_pr_unlink_69 rfl (lv_at hl 0 rfl) ?_
      refine va_get (D := D) (ci := 2) (v := .ref qb) (C := R_pr) (T := F_pr) (N := 10) hx hb hts i_pr hown hK hP 0 rfl rfl 3 (by decide) (hts _ kf_pr_19) (fun _ h9 => h9) rfl d_pr_unlink_70 ?_
      refine lv_iload_n hx hb d_pr_unlink_73 rfl (lv_at hl 1 rfl) ?_
      refine wa_ld (k := p0) hx hb hK hP 4 0 rfl rfl hp0 hn d_pr_unlink_74 ?_
      refine va_put (D := D) (ci := 2) (v := .int (P p0)) (ty := .int) (C := R_pr) (T := F_pr) (N := 10) hx hb hts i_pr t_pr t_pr_ok n_pr hown hK hP hD hS 0 rfl rfl 9 (by decide) (hts _ kf_pr_32) (fun _ h9 => h9) rfl (by decide +kernel) rfl rfl (Nat.le_of_ble_eq_true rfl) d_pr_unlink_75 (fun H locs hP hD hS => ?_)
      have hP : va_P D cls (px cI a qs qk qv qb qn n Z K V P (upd N (ls_ y1 t1) (N p0)) my fr md fi (P p0)) H := hP
      have hD : va_D A (px cI a qs qk qv qb qn n Z K V P (upd N (ls_ y1 t1) (N p0)) my fr md fi (P p0)) := hD
      exact cg_vret (u := ()) hQ hx hb hr hlk hK hP hD hS rfl d_pr_unlink_78
    | cons y2 t2 =>
      have e2 : N p0 = nI y2 := e2
      refine lv_aload_n hx hb d_pr_unlink_39 rfl (lv_at hl 0 rfl) ?_
      refine va_get (D := D) (ci := 2) (v := .ref qn) (C := R_pr) (T := F_pr) (N := 10) hx hb hts i_pr hown hK hP 0 rfl rfl 4 (by decide) (hts _ kf_pr_22) (fun _ h9 => h9) rfl d_pr_unlink_40 ?_
      refine lv_iload_n hx hb d_pr_unlink_43 rfl (lv_at hl 1 rfl) ?_
      refine wa_ld (k := p0) hx hb hK hP 5 0 rfl rfl hp0 hn d_pr_unlink_44 ?_
      refine tp_i (y := nI y2) ((pk_un (fun z9 => hb2 z9.symm)).trans e2) ?_
      refine lv_if_lt (tgt := 68) hx hb d_pr_unlink_45 (by decide) (fun z9 => absurd z9 (nI_pos (by have := h2n y2 (List.mem_cons_self ..); omega))) (fun _ => ?_)
      refine lv_aload_n hx hb d_pr_unlink_48 rfl (lv_at hl 0 rfl) ?_
      refine va_get (D := D) (ci := 2) (v := .ref qb) (C := R_pr) (T := F_pr) (N := 10) hx hb hts i_pr hown hK hP 0 rfl rfl 3 (by decide) (hts _ kf_pr_19) (fun _ h9 => h9) rfl d_pr_unlink_49 ?_
      refine lv_aload_n hx hb d_pr_unlink_52 rfl (lv_at hl 0 rfl) ?_
      refine va_get (D := D) (ci := 2) (v := .ref qn) (C := R_pr) (T := F_pr) (N := 10) hx hb hts i_pr hown hK hP 0 rfl rfl 4 (by decide) (hts _ kf_pr_22) (fun _ h9 => h9) rfl d_pr_unlink_53 ?_
      refine lv_iload_n hx hb d_pr_unlink_56 rfl (lv_at hl 1 rfl) ?_
      refine wa_ld (k := p0) hx hb hK hP 5 0 rfl rfl hp0 hn d_pr_unlink_57 ?_
      refine tp_i (y := nI y2) ((pk_un (fun z9 => hb2 z9.symm)).trans e2) ?_
      refine lv_aload_n hx hb d_pr_unlink_58 rfl (lv_at hl 0 rfl) ?_
      refine va_get (D := D) (ci := 2) (v := .ref qb) (C := R_pr) (T := F_pr) (N := 10) hx hb hts i_pr hown hK hP 0 rfl rfl 3 (by decide) (hts _ kf_pr_19) (fun _ h9 => h9) rfl d_pr_unlink_59 ?_
      refine lv_iload_n hx hb d_pr_unlink_62 rfl (lv_at hl 1 rfl) ?_
      refine wa_ld (k := p0) hx hb hK hP 4 0 rfl rfl hp0 hn d_pr_unlink_63 ?_
      refine wa_st (k := y2) (x := (P p0)) hx hb hK hP hD hS 4 0 rfl rfl (h2n y2 (List.mem_cons_self ..)) hn d_pr_unlink_64 (fun H locs hP hD hS => ?_)
      have hP : va_P D cls (px cI a qs qk qv qb qn n Z K V (upd P y2 (P p0)) (upd N (ls_ y1 t1) (N p0)) my fr md fi la) H := hP
      have hD : va_D A (px cI a qs qk qv qb qn n Z K V (upd P y2 (P p0)) (upd N (ls_ y1 t1) (N p0)) my fr md fi la) := hD
      refine lv_goto (tgt := 78) hx hb d_pr_unlink_65 (by decide) ?_
      exact cg_vret (u := ()) hQ hx hb hr hlk hK hP hD hS rfl d_pr_unlink_78
set_option maxRecDepth 100000 in
set_option maxHeartbeats 4000000 in
/-- toLast(p0) -/
theorem c_pr_toLast (l : Launch) (D : va_G) (cI cT cP : ClassId) (a qs qk qv qb qn n : Nat) (Z K V P N : Nat → Int32) (my fr md fi la : Int32) (l1 l2 : List Nat) (p0 : Nat) (hn : n < 2 ^ 31) (nd : (l1 ++ p0 :: l2).Nodup) (hlt : ∀ x, x ∈ l1 ++ p0 :: l2 → x < n) (hPN : PN P N fi la (l1 ++ p0 :: l2)) : Cg l y_pr_toLast b_pr_toLast 2 (none) 1 0 0 D (ty3 cI cT cP) [.ref a, .int (nI p0)] (px cI a qs qk qv qb qn n Z K V P N my fr md fi la) (fun (v : Option Value) (u : (Nat → Int32) × (Nat → Int32) × Int32 × Int32) => v = none ∧ PN u.1 u.2.1 u.2.2.1 u.2.2.2 ((l1 ++ l2) ++ [p0]) ∧ ∀ x, x ∉ l1 ++ p0 :: l2 → u.2.1 x = N x) (fun u => px cI a qs qk qv qb qn n Z K V u.1 u.2.1 my fr md u.2.2.1 u.2.2.2) := by
  obtain ⟨q1, q2, q3⟩ := pn_cut nd hPN
  have nd2 : (l1 ++ l2).Nodup := List.Nodup.sublist (List.Sublist.append_left (List.sublist_cons_self ..) _) nd
  have hp2 : p0 ∉ l1 ++ l2 := by
      have h9 : (p0 :: (l1 ++ l2)).Nodup := List.perm_middle.nodup_iff.mp nd
      exact (List.nodup_cons.mp h9).1
  obtain ⟨q4, q5⟩ := pn_add nd2 hp2 q3
  have hp0 : p0 < n := hlt p0 (List.mem_append_right _ (List.mem_cons_self ..))
  have hsub : ∀ x, x ∈ l1 ++ l2 → x ∈ l1 ++ p0 :: l2 := fun x hx1 => by
      rcases List.mem_append.mp hx1 with h | h
      · exact List.mem_append_left _ h
      · exact List.mem_append_right _ (List.mem_cons_of_mem _ h)
  refine cg_enter rfl (Nat.le_of_ble_eq_true rfl) ?_
  intro p e s m below meth c args hx hb hr hlk hml hown hin hts A hA hK hP hD hS ls hl Q hQ
  have hl : lv_has ls 2 [(0, .ref a), (1, .int (nI p0))] := hl
  have hP : va_P D cls (px cI a qs qk qv qb qn n Z K V P N my fr md fi la) s.heap := hP
  have hD : va_D A (px cI a qs qk qv qb qn n Z K V P N my fr md fi la) := hD
  refine lv_aload_n hx hb d_pr_toLast_0 rfl (lv_at hl 0 rfl) ?_
  refine lv_iload_n hx hb d_pr_toLast_1 rfl (lv_at hl 1 rfl) ?_
  refine cg_V (hn := 1) (As := [.int (nI p0)]) (rest := []) (wr := []) (q0 := 0) (ci := 2) hx hb hml hown hts (c_pr_unlink l D cI cT cP a qs qk qv qb qn n Z K V P N my fr md fi la hn l1 l2 p0 hp0 q1 q2 (fun x hx1 => ⟨hlt x (List.mem_append_left _ hx1), fun z9 => hp2 (by rw [← z9]; exact List.mem_append_left _ hx1)⟩) (fun x hx1 => hlt x (List.mem_append_right _ (List.mem_cons_of_mem _ hx1)))) km_pr_64 ki_pr_unlink ks_pr_unlink kn_pr kc_pr_unlink (by decide +kernel) rfl ⟨Nat.le_of_ble_eq_true rfl, Nat.le_of_ble_eq_true rfl⟩ hK hP hD hS hA [0, 1, 2, 3, 4, 5] [] rfl (by decide) rfl (by decide) (by decide) rfl rfl hl.1 rfl (Nat.le_of_ble_eq_true rfl) d_pr_toLast_2 ⟨Nat.zero_le _, Nat.zero_le _⟩ (fun v u H locs hpost hP hD hS => ?_)
  subst hpost
  rw [q4] at hP hD q5
  refine W.eq (g2 := F0 m 5 ls []) rfl ?_
  have hP : va_P D cls (px cI a qs qk qv qb qn n Z K V ((cB P la (P p0) l2).1) ((cN N fi (N p0) l1).1) my fr md ((cN N fi (N p0) l1).2) (lsI (l1 ++ l2))) H := hP
  have hD : va_D A (px cI a qs qk qv qb qn n Z K V ((cB P la (P p0) l2).1) ((cN N fi (N p0) l1).1) my fr md ((cN N fi (N p0) l1).2) (lsI (l1 ++ l2))) := hD
  refine lv_aload_n hx hb d_pr_toLast_5 rfl (lv_at hl 0 rfl) ?_
  refine lv_iload_n hx hb d_pr_toLast_6 rfl (lv_at hl 1 rfl) ?_
  refine cg_V (hn := 1) (As := [.int (nI p0)]) (rest := []) (wr := []) (q0 := 0) (ci := 2) hx hb hml hown hts (c_pr_link l D cI cT cP a qs qk qv qb qn n Z K V (cB P la (P p0) l2).1 (cN N fi (N p0) l1).1 my fr md (cN N fi (N p0) l1).2 hn (l1 ++ l2) (fun x hx1 => hlt x (hsub x hx1)) p0 hp0) km_pr_60 ki_pr_link ks_pr_link kn_pr kc_pr_link (by decide +kernel) rfl ⟨Nat.le_of_ble_eq_true rfl, Nat.le_of_ble_eq_true rfl⟩ hK hP hD hS hA [0, 1, 2, 3, 4, 5] [] rfl (by decide) rfl (by decide) (by decide) rfl rfl hl.1 rfl (Nat.le_of_ble_eq_true rfl) d_pr_toLast_7 ⟨Nat.zero_le _, Nat.zero_le _⟩ (fun v u H locs hpost hP hD hS => ?_)
  subst hpost
  refine W.eq (g2 := F0 m 10 ls []) rfl ?_
  have hP : va_P D cls (px cI a qs qk qv qb qn n Z K V (upd (cB P la (P p0) l2).1 p0 (lsI (l1 ++ l2))) ((cL (cN N fi (N p0) l1).1 (cN N fi (N p0) l1).2 (-1) p0 (l1 ++ l2)).1) my fr md ((cL (cN N fi (N p0) l1).1 (cN N fi (N p0) l1).2 (-1) p0 (l1 ++ l2)).2) (nI p0)) H := hP
  have hD : va_D A (px cI a qs qk qv qb qn n Z K V (upd (cB P la (P p0) l2).1 p0 (lsI (l1 ++ l2))) ((cL (cN N fi (N p0) l1).1 (cN N fi (N p0) l1).2 (-1) p0 (l1 ++ l2)).1) my fr md ((cL (cN N fi (N p0) l1).1 (cN N fi (N p0) l1).2 (-1) p0 (l1 ++ l2)).2) (nI p0)) := hD
  exact cg_vret (u := (upd (cB P la (P p0) l2).1 p0 (lsI (l1 ++ l2)), (cL (cN N fi (N p0) l1).1 (cN N fi (N p0) l1).2 (-1) p0 (l1 ++ l2)).1, (cL (cN N fi (N p0) l1).1 (cN N fi (N p0) l1).2 (-1) p0 (l1 ++ l2)).2, nI p0)) hQ hx hb hr hlk hK hP hD hS (⟨rfl, q5, fun x hx1 => by
      show (cL (cN N fi (N p0) l1).1 (cN N fi (N p0) l1).2 (-1) p0 (l1 ++ l2)).1 x = N x
      rw [cL_out (fun z9 => hx1 (hsub x z9)) (fun z9 => hx1 (by rw [z9]; exact List.mem_append_right _ (List.mem_cons_self ..))), cN_out (fun z9 => hx1 (List.mem_append_left _ z9))]⟩) d_pr_toLast_10
set_option maxRecDepth 100000 in
set_option maxHeartbeats 4000000 in
/-- grow() -/
theorem c_pr_grow (l : Launch) (D : va_G) (cI cT cP : ClassId) (a qs qk qv qb qn n : Nat) (Z K V P N : Nat → Int32) (my fr fi la : Int32) (hn16 : 16 ≤ n ∧ n ≤ 1024) : Cg l y_pr_grow b_pr_grow 2 (none) 2 5 (5 * (2 * n)) D (ty3 cI cT cP) [.ref a] (px cI a qs qk qv qb qn n Z K V P N my fr (nI n) fi la) (fun (v : Option Value) (u : Nat × Nat × Nat × Nat × Nat) => v = none) (fun u => px cI a u.1 u.2.1 u.2.2.1 u.2.2.2.1 u.2.2.2.2 (2 * n) (cpy n Z) (cpy n K) (cpy n V) (cpy n P) (cpy n N) my fr (nI n) fi la) := by
  refine cg_enter rfl (Nat.le_of_ble_eq_true rfl) ?_
  intro p e s m below meth c args hx hb hr hlk hml hown hin hts A hA hK hP hD hS ls hl Q hQ
  have hl : lv_has ls 2 [(0, .ref a)] := hl
  have hP : va_P D cls (px cI a qs qk qv qb qn n Z K V P N my fr (nI n) fi la) s.heap := hP
  have hD : va_D A (px cI a qs qk qv qb qn n Z K V P N my fr (nI n) fi la) := hD
  have hP : va_P D cls ([(a, .inr (2, [.ref qs, .ref qk, .ref qv, .ref qb, .ref qn, .int my, .int fr, .int (nI n), .int fi, .int la])), (qs, .inl (cI, n, .inl Z)), (qk, .inl (cI, n, .inl K)), (qv, .inl (cI, n, .inl V)), (qb, .inl (cI, n, .inl P)), (qn, .inl (cI, n, .inl N))]) s.heap := hP
  have hD : va_D A ([(a, .inr (2, [.ref qs, .ref qk, .ref qv, .ref qb, .ref qn, .int my, .int fr, .int (nI n), .int fi, .int la])), (qs, .inl (cI, n, .inl Z)), (qk, .inl (cI, n, .inl K)), (qv, .inl (cI, n, .inl V)), (qb, .inl (cI, n, .inl P)), (qn, .inl (cI, n, .inl N))]) := hD
  refine lv_iconst (v := 2) hx hb d_pr_grow_0 (by decide) ?_
  refine lv_aload_n hx hb d_pr_grow_1 rfl (lv_at hl 0 rfl) ?_
  refine va_get (D := D) (ci := 2) (v := .int (nI n)) (C := R_pr) (T := F_pr) (N := 10) hx hb hts i_pr hown hK hP 0 rfl rfl 7 (by decide) (hts _ kf_pr_42) (fun _ h9 => h9) rfl d_pr_grow_2 ?_
  refine lv_imul hx hb d_pr_grow_5 ?_
  refine tp_i (y := nI (2 * n)) (pk_mul 2 n) ?_
  refine lv_istore_n (lv' := [(1, .int (nI (2 * n))), (0, .ref a)]) hx hb d_pr_grow_6 rfl hl (by decide) rfl (fun ls hl => ?_)
  refine lv_aload_n hx hb d_pr_grow_7 rfl (lv_at hl 1 rfl) ?_
  refine lv_aload_n hx hb d_pr_grow_8 rfl (lv_at hl 1 rfl) ?_
  refine va_get (D := D) (ci := 2) (v := .ref qs) (C := R_pr) (T := F_pr) (N := 10) hx hb hts i_pr hown hK hP 0 rfl rfl 0 (by decide) (hts _ kf_pr_7) (fun _ h9 => h9) rfl d_pr_grow_9 ?_
  refine lv_iload_n hx hb d_pr_grow_12 rfl (lv_at hl 0 rfl) ?_
  refine cg_S (hn := 2) (As := [.ref qs, .int (nI (2 * n))]) (rest := [.ref a]) (wr := [(a, .inr (2, [.ref qs, .ref qk, .ref qv, .ref qb, .ref qn, .int my, .int fr, .int (nI n), .int fi, .int la])), (qk, .inl (cI, n, .inl K)), (qv, .inl (cI, n, .inl V)), (qb, .inl (cI, n, .inl P)), (qn, .inl (cI, n, .inl N))]) hx hb hml hown hts (c_ja_copyOf l D cI cT cP qs n (2 * n) Z (by omega) (by omega)) km_pr_45 kt_ja_copyOf kn_ja kc_ja_copyOf (by decide +kernel) rfl ⟨Nat.le_of_ble_eq_true rfl, Nat.le_of_ble_eq_true rfl⟩ hK hP hD hS hA [1] [0, 2, 3, 4, 5] rfl (by decide) rfl (by decide) (by decide) hl.1 rfl (Nat.le_of_ble_eq_true rfl) d_pr_grow_13 ⟨by show _ ≤ 5; omega, by show _ ≤ 5 * (2 * n); omega⟩ (fun v rs H locs hpost hP hD hS => ?_)
  subst hpost
  refine W.eq (g2 := F0 m 16 ls [.ref rs, .ref a]) rfl ?_
  have hP : va_P D cls ([(a, .inr (2, [.ref qs, .ref qk, .ref qv, .ref qb, .ref qn, .int my, .int fr, .int (nI n), .int fi, .int la])), (qk, .inl (cI, n, .inl K)), (qv, .inl (cI, n, .inl V)), (qb, .inl (cI, n, .inl P)), (qn, .inl (cI, n, .inl N)), (qs, .inl (cI, n, .inl Z)), (rs, .inl (cI, 2 * n, .inl (cpy n Z)))]) H := hP
  have hD : va_D A ([(a, .inr (2, [.ref qs, .ref qk, .ref qv, .ref qb, .ref qn, .int my, .int fr, .int (nI n), .int fi, .int la])), (qk, .inl (cI, n, .inl K)), (qv, .inl (cI, n, .inl V)), (qb, .inl (cI, n, .inl P)), (qn, .inl (cI, n, .inl N)), (qs, .inl (cI, n, .inl Z)), (rs, .inl (cI, 2 * n, .inl (cpy n Z)))]) := hD
  refine va_put (D := D) (ci := 2) (v := .ref rs) (ty := .array .int) (C := R_pr) (T := F_pr) (N := 10) hx hb hts i_pr t_pr t_pr_ok n_pr hown hK hP hD hS 0 rfl rfl 0 (by decide) (hts _ kf_pr_7) (fun _ h9 => h9) rfl (by decide +kernel) rfl rfl (Nat.le_of_ble_eq_true rfl) d_pr_grow_16 (fun H locs hP hD hS => ?_)
  have hP : va_P D cls ([(a, .inr (2, [.ref rs, .ref qk, .ref qv, .ref qb, .ref qn, .int my, .int fr, .int (nI n), .int fi, .int la])), (qk, .inl (cI, n, .inl K)), (qv, .inl (cI, n, .inl V)), (qb, .inl (cI, n, .inl P)), (qn, .inl (cI, n, .inl N)), (qs, .inl (cI, n, .inl Z)), (rs, .inl (cI, 2 * n, .inl (cpy n Z)))]) H := hP
  have hD : va_D A ([(a, .inr (2, [.ref rs, .ref qk, .ref qv, .ref qb, .ref qn, .int my, .int fr, .int (nI n), .int fi, .int la])), (qk, .inl (cI, n, .inl K)), (qv, .inl (cI, n, .inl V)), (qb, .inl (cI, n, .inl P)), (qn, .inl (cI, n, .inl N)), (qs, .inl (cI, n, .inl Z)), (rs, .inl (cI, 2 * n, .inl (cpy n Z)))]) := hD
  refine lv_aload_n hx hb d_pr_grow_19 rfl (lv_at hl 1 rfl) ?_
  refine lv_aload_n hx hb d_pr_grow_20 rfl (lv_at hl 1 rfl) ?_
  refine va_get (D := D) (ci := 2) (v := .ref qk) (C := R_pr) (T := F_pr) (N := 10) hx hb hts i_pr hown hK hP 0 rfl rfl 1 (by decide) (hts _ kf_pr_13) (fun _ h9 => h9) rfl d_pr_grow_21 ?_
  refine lv_iload_n hx hb d_pr_grow_24 rfl (lv_at hl 0 rfl) ?_
  refine cg_S (hn := 2) (As := [.ref qk, .int (nI (2 * n))]) (rest := [.ref a]) (wr := [(a, .inr (2, [.ref rs, .ref qk, .ref qv, .ref qb, .ref qn, .int my, .int fr, .int (nI n), .int fi, .int la])), (qv, .inl (cI, n, .inl V)), (qb, .inl (cI, n, .inl P)), (qn, .inl (cI, n, .inl N)), (qs, .inl (cI, n, .inl Z)), (rs, .inl (cI, 2 * n, .inl (cpy n Z)))]) hx hb hml hown hts (c_ja_copyOf l D cI cT cP qk n (2 * n) K (by omega) (by omega)) km_pr_45 kt_ja_copyOf kn_ja kc_ja_copyOf (by decide +kernel) rfl ⟨Nat.le_of_ble_eq_true rfl, Nat.le_of_ble_eq_true rfl⟩ hK hP hD hS hA [1] [0, 2, 3, 4, 5, 6] rfl (by decide) rfl (by decide) (by decide) hl.1 rfl (Nat.le_of_ble_eq_true rfl) d_pr_grow_25 ⟨by show _ ≤ 5; omega, by show _ ≤ 5 * (2 * n); omega⟩ (fun v rk H locs hpost hP hD hS => ?_)
  subst hpost
  refine W.eq (g2 := F0 m 28 ls [.ref rk, .ref a]) rfl ?_
  have hP : va_P D cls ([(a, .inr (2, [.ref rs, .ref qk, .ref qv, .ref qb, .ref qn, .int my, .int fr, .int (nI n), .int fi, .int la])), (qv, .inl (cI, n, .inl V)), (qb, .inl (cI, n, .inl P)), (qn, .inl (cI, n, .inl N)), (qs, .inl (cI, n, .inl Z)), (rs, .inl (cI, 2 * n, .inl (cpy n Z))), (qk, .inl (cI, n, .inl K)), (rk, .inl (cI, 2 * n, .inl (cpy n K)))]) H := hP
  have hD : va_D A ([(a, .inr (2, [.ref rs, .ref qk, .ref qv, .ref qb, .ref qn, .int my, .int fr, .int (nI n), .int fi, .int la])), (qv, .inl (cI, n, .inl V)), (qb, .inl (cI, n, .inl P)), (qn, .inl (cI, n, .inl N)), (qs, .inl (cI, n, .inl Z)), (rs, .inl (cI, 2 * n, .inl (cpy n Z))), (qk, .inl (cI, n, .inl K)), (rk, .inl (cI, 2 * n, .inl (cpy n K)))]) := hD
  refine va_put (D := D) (ci := 2) (v := .ref rk) (ty := .array .int) (C := R_pr) (T := F_pr) (N := 10) hx hb hts i_pr t_pr t_pr_ok n_pr hown hK hP hD hS 0 rfl rfl 1 (by decide) (hts _ kf_pr_13) (fun _ h9 => h9) rfl (by decide +kernel) rfl rfl (Nat.le_of_ble_eq_true rfl) d_pr_grow_28 (fun H locs hP hD hS => ?_)
  have hP : va_P D cls ([(a, .inr (2, [.ref rs, .ref rk, .ref qv, .ref qb, .ref qn, .int my, .int fr, .int (nI n), .int fi, .int la])), (qv, .inl (cI, n, .inl V)), (qb, .inl (cI, n, .inl P)), (qn, .inl (cI, n, .inl N)), (qs, .inl (cI, n, .inl Z)), (rs, .inl (cI, 2 * n, .inl (cpy n Z))), (qk, .inl (cI, n, .inl K)), (rk, .inl (cI, 2 * n, .inl (cpy n K)))]) H := hP
  have hD : va_D A ([(a, .inr (2, [.ref rs, .ref rk, .ref qv, .ref qb, .ref qn, .int my, .int fr, .int (nI n), .int fi, .int la])), (qv, .inl (cI, n, .inl V)), (qb, .inl (cI, n, .inl P)), (qn, .inl (cI, n, .inl N)), (qs, .inl (cI, n, .inl Z)), (rs, .inl (cI, 2 * n, .inl (cpy n Z))), (qk, .inl (cI, n, .inl K)), (rk, .inl (cI, 2 * n, .inl (cpy n K)))]) := hD
  refine lv_aload_n hx hb d_pr_grow_31 rfl (lv_at hl 1 rfl) ?_
  refine lv_aload_n hx hb d_pr_grow_32 rfl (lv_at hl 1 rfl) ?_
  refine va_get (D := D) (ci := 2) (v := .ref qv) (C := R_pr) (T := F_pr) (N := 10) hx hb hts i_pr hown hK hP 0 rfl rfl 2 (by decide) (hts _ kf_pr_16) (fun _ h9 => h9) rfl d_pr_grow_33 ?_
  refine lv_iload_n hx hb d_pr_grow_36 rfl (lv_at hl 0 rfl) ?_
  refine cg_S (hn := 2) (As := [.ref qv, .int (nI (2 * n))]) (rest := [.ref a]) (wr := [(a, .inr (2, [.ref rs, .ref rk, .ref qv, .ref qb, .ref qn, .int my, .int fr, .int (nI n), .int fi, .int la])), (qb, .inl (cI, n, .inl P)), (qn, .inl (cI, n, .inl N)), (qs, .inl (cI, n, .inl Z)), (rs, .inl (cI, 2 * n, .inl (cpy n Z))), (qk, .inl (cI, n, .inl K)), (rk, .inl (cI, 2 * n, .inl (cpy n K)))]) hx hb hml hown hts (c_ja_copyOf l D cI cT cP qv n (2 * n) V (by omega) (by omega)) km_pr_45 kt_ja_copyOf kn_ja kc_ja_copyOf (by decide +kernel) rfl ⟨Nat.le_of_ble_eq_true rfl, Nat.le_of_ble_eq_true rfl⟩ hK hP hD hS hA [1] [0, 2, 3, 4, 5, 6, 7] rfl (by decide) rfl (by decide) (by decide) hl.1 rfl (Nat.le_of_ble_eq_true rfl) d_pr_grow_37 ⟨by show _ ≤ 5; omega, by show _ ≤ 5 * (2 * n); omega⟩ (fun v rv H locs hpost hP hD hS => ?_)
  subst hpost
  refine W.eq (g2 := F0 m 40 ls [.ref rv, .ref a]) rfl ?_
  have hP : va_P D cls ([(a, .inr (2, [.ref rs, .ref rk, .ref qv, .ref qb, .ref qn, .int my, .int fr, .int (nI n), .int fi, .int la])), (qb, .inl (cI, n, .inl P)), (qn, .inl (cI, n, .inl N)), (qs, .inl (cI, n, .inl Z)), (rs, .inl (cI, 2 * n, .inl (cpy n Z))), (qk, .inl (cI, n, .inl K)), (rk, .inl (cI, 2 * n, .inl (cpy n K))), (qv, .inl (cI, n, .inl V)), (rv, .inl (cI, 2 * n, .inl (cpy n V)))]) H := hP
  have hD : va_D A ([(a, .inr (2, [.ref rs, .ref rk, .ref qv, .ref qb, .ref qn, .int my, .int fr, .int (nI n), .int fi, .int la])), (qb, .inl (cI, n, .inl P)), (qn, .inl (cI, n, .inl N)), (qs, .inl (cI, n, .inl Z)), (rs, .inl (cI, 2 * n, .inl (cpy n Z))), (qk, .inl (cI, n, .inl K)), (rk, .inl (cI, 2 * n, .inl (cpy n K))), (qv, .inl (cI, n, .inl V)), (rv, .inl (cI, 2 * n, .inl (cpy n V)))]) := hD
  refine va_put (D := D) (ci := 2) (v := .ref rv) (ty := .array .int) (C := R_pr) (T := F_pr) (N := 10) hx hb hts i_pr t_pr t_pr_ok n_pr hown hK hP hD hS 0 rfl rfl 2 (by decide) (hts _ kf_pr_16) (fun _ h9 => h9) rfl (by decide +kernel) rfl rfl (Nat.le_of_ble_eq_true rfl) d_pr_grow_40 (fun H locs hP hD hS => ?_)
  have hP : va_P D cls ([(a, .inr (2, [.ref rs, .ref rk, .ref rv, .ref qb, .ref qn, .int my, .int fr, .int (nI n), .int fi, .int la])), (qb, .inl (cI, n, .inl P)), (qn, .inl (cI, n, .inl N)), (qs, .inl (cI, n, .inl Z)), (rs, .inl (cI, 2 * n, .inl (cpy n Z))), (qk, .inl (cI, n, .inl K)), (rk, .inl (cI, 2 * n, .inl (cpy n K))), (qv, .inl (cI, n, .inl V)), (rv, .inl (cI, 2 * n, .inl (cpy n V)))]) H := hP
  have hD : va_D A ([(a, .inr (2, [.ref rs, .ref rk, .ref rv, .ref qb, .ref qn, .int my, .int fr, .int (nI n), .int fi, .int la])), (qb, .inl (cI, n, .inl P)), (qn, .inl (cI, n, .inl N)), (qs, .inl (cI, n, .inl Z)), (rs, .inl (cI, 2 * n, .inl (cpy n Z))), (qk, .inl (cI, n, .inl K)), (rk, .inl (cI, 2 * n, .inl (cpy n K))), (qv, .inl (cI, n, .inl V)), (rv, .inl (cI, 2 * n, .inl (cpy n V)))]) := hD
  refine lv_aload_n hx hb d_pr_grow_43 rfl (lv_at hl 1 rfl) ?_
  refine lv_aload_n hx hb d_pr_grow_44 rfl (lv_at hl 1 rfl) ?_
  refine va_get (D := D) (ci := 2) (v := .ref qb) (C := R_pr) (T := F_pr) (N := 10) hx hb hts i_pr hown hK hP 0 rfl rfl 3 (by decide) (hts _ kf_pr_19) (fun _ h9 => h9) rfl d_pr_grow_45 ?_
  refine lv_iload_n hx hb d_pr_grow_48 rfl (lv_at hl 0 rfl) ?_
  refine cg_S (hn := 2) (As := [.ref qb, .int (nI (2 * n))]) (rest := [.ref a]) (wr := [(a, .inr (2, [.ref rs, .ref rk, .ref rv, .ref qb, .ref qn, .int my, .int fr, .int (nI n), .int fi, .int la])), (qn, .inl (cI, n, .inl N)), (qs, .inl (cI, n, .inl Z)), (rs, .inl (cI, 2 * n, .inl (cpy n Z))), (qk, .inl (cI, n, .inl K)), (rk, .inl (cI, 2 * n, .inl (cpy n K))), (qv, .inl (cI, n, .inl V)), (rv, .inl (cI, 2 * n, .inl (cpy n V)))]) hx hb hml hown hts (c_ja_copyOf l D cI cT cP qb n (2 * n) P (by omega) (by omega)) km_pr_45 kt_ja_copyOf kn_ja kc_ja_copyOf (by decide +kernel) rfl ⟨Nat.le_of_ble_eq_true rfl, Nat.le_of_ble_eq_true rfl⟩ hK hP hD hS hA [1] [0, 2, 3, 4, 5, 6, 7, 8] rfl (by decide) rfl (by decide) (by decide) hl.1 rfl (Nat.le_of_ble_eq_true rfl) d_pr_grow_49 ⟨by show _ ≤ 5; omega, by show _ ≤ 5 * (2 * n); omega⟩ (fun v rb H locs hpost hP hD hS => ?_)
  subst hpost
  refine W.eq (g2 := F0 m 52 ls [.ref rb, .ref a]) rfl ?_
  have hP : va_P D cls ([(a, .inr (2, [.ref rs, .ref rk, .ref rv, .ref qb, .ref qn, .int my, .int fr, .int (nI n), .int fi, .int la])), (qn, .inl (cI, n, .inl N)), (qs, .inl (cI, n, .inl Z)), (rs, .inl (cI, 2 * n, .inl (cpy n Z))), (qk, .inl (cI, n, .inl K)), (rk, .inl (cI, 2 * n, .inl (cpy n K))), (qv, .inl (cI, n, .inl V)), (rv, .inl (cI, 2 * n, .inl (cpy n V))), (qb, .inl (cI, n, .inl P)), (rb, .inl (cI, 2 * n, .inl (cpy n P)))]) H := hP
  have hD : va_D A ([(a, .inr (2, [.ref rs, .ref rk, .ref rv, .ref qb, .ref qn, .int my, .int fr, .int (nI n), .int fi, .int la])), (qn, .inl (cI, n, .inl N)), (qs, .inl (cI, n, .inl Z)), (rs, .inl (cI, 2 * n, .inl (cpy n Z))), (qk, .inl (cI, n, .inl K)), (rk, .inl (cI, 2 * n, .inl (cpy n K))), (qv, .inl (cI, n, .inl V)), (rv, .inl (cI, 2 * n, .inl (cpy n V))), (qb, .inl (cI, n, .inl P)), (rb, .inl (cI, 2 * n, .inl (cpy n P)))]) := hD
  refine va_put (D := D) (ci := 2) (v := .ref rb) (ty := .array .int) (C := R_pr) (T := F_pr) (N := 10) hx hb hts i_pr t_pr t_pr_ok n_pr hown hK hP hD hS 0 rfl rfl 3 (by decide) (hts _ kf_pr_19) (fun _ h9 => h9) rfl (by decide +kernel) rfl rfl (Nat.le_of_ble_eq_true rfl) d_pr_grow_52 (fun H locs hP hD hS => ?_)
  have hP : va_P D cls ([(a, .inr (2, [.ref rs, .ref rk, .ref rv, .ref rb, .ref qn, .int my, .int fr, .int (nI n), .int fi, .int la])), (qn, .inl (cI, n, .inl N)), (qs, .inl (cI, n, .inl Z)), (rs, .inl (cI, 2 * n, .inl (cpy n Z))), (qk, .inl (cI, n, .inl K)), (rk, .inl (cI, 2 * n, .inl (cpy n K))), (qv, .inl (cI, n, .inl V)), (rv, .inl (cI, 2 * n, .inl (cpy n V))), (qb, .inl (cI, n, .inl P)), (rb, .inl (cI, 2 * n, .inl (cpy n P)))]) H := hP
  have hD : va_D A ([(a, .inr (2, [.ref rs, .ref rk, .ref rv, .ref rb, .ref qn, .int my, .int fr, .int (nI n), .int fi, .int la])), (qn, .inl (cI, n, .inl N)), (qs, .inl (cI, n, .inl Z)), (rs, .inl (cI, 2 * n, .inl (cpy n Z))), (qk, .inl (cI, n, .inl K)), (rk, .inl (cI, 2 * n, .inl (cpy n K))), (qv, .inl (cI, n, .inl V)), (rv, .inl (cI, 2 * n, .inl (cpy n V))), (qb, .inl (cI, n, .inl P)), (rb, .inl (cI, 2 * n, .inl (cpy n P)))]) := hD
  refine lv_aload_n hx hb d_pr_grow_55 rfl (lv_at hl 1 rfl) ?_
  refine lv_aload_n hx hb d_pr_grow_56 rfl (lv_at hl 1 rfl) ?_
  refine va_get (D := D) (ci := 2) (v := .ref qn) (C := R_pr) (T := F_pr) (N := 10) hx hb hts i_pr hown hK hP 0 rfl rfl 4 (by decide) (hts _ kf_pr_22) (fun _ h9 => h9) rfl d_pr_grow_57 ?_
  refine lv_iload_n hx hb d_pr_grow_60 rfl (lv_at hl 0 rfl) ?_
  refine cg_S (hn := 2) (As := [.ref qn, .int (nI (2 * n))]) (rest := [.ref a]) (wr := [(a, .inr (2, [.ref rs, .ref rk, .ref rv, .ref rb, .ref qn, .int my, .int fr, .int (nI n), .int fi, .int la])), (qs, .inl (cI, n, .inl Z)), (rs, .inl (cI, 2 * n, .inl (cpy n Z))), (qk, .inl (cI, n, .inl K)), (rk, .inl (cI, 2 * n, .inl (cpy n K))), (qv, .inl (cI, n, .inl V)), (rv, .inl (cI, 2 * n, .inl (cpy n V))), (qb, .inl (cI, n, .inl P)), (rb, .inl (cI, 2 * n, .inl (cpy n P)))]) hx hb hml hown hts (c_ja_copyOf l D cI cT cP qn n (2 * n) N (by omega) (by omega)) km_pr_45 kt_ja_copyOf kn_ja kc_ja_copyOf (by decide +kernel) rfl ⟨Nat.le_of_ble_eq_true rfl, Nat.le_of_ble_eq_true rfl⟩ hK hP hD hS hA [1] [0, 2, 3, 4, 5, 6, 7, 8, 9] rfl (by decide) rfl (by decide) (by decide) hl.1 rfl (Nat.le_of_ble_eq_true rfl) d_pr_grow_61 ⟨by show _ ≤ 5; omega, by show _ ≤ 5 * (2 * n); omega⟩ (fun v rn H locs hpost hP hD hS => ?_)
  subst hpost
  refine W.eq (g2 := F0 m 64 ls [.ref rn, .ref a]) rfl ?_
  have hP : va_P D cls ([(a, .inr (2, [.ref rs, .ref rk, .ref rv, .ref rb, .ref qn, .int my, .int fr, .int (nI n), .int fi, .int la])), (qs, .inl (cI, n, .inl Z)), (rs, .inl (cI, 2 * n, .inl (cpy n Z))), (qk, .inl (cI, n, .inl K)), (rk, .inl (cI, 2 * n, .inl (cpy n K))), (qv, .inl (cI, n, .inl V)), (rv, .inl (cI, 2 * n, .inl (cpy n V))), (qb, .inl (cI, n, .inl P)), (rb, .inl (cI, 2 * n, .inl (cpy n P))), (qn, .inl (cI, n, .inl N)), (rn, .inl (cI, 2 * n, .inl (cpy n N)))]) H := hP
  have hD : va_D A ([(a, .inr (2, [.ref rs, .ref rk, .ref rv, .ref rb, .ref qn, .int my, .int fr, .int (nI n), .int fi, .int la])), (qs, .inl (cI, n, .inl Z)), (rs, .inl (cI, 2 * n, .inl (cpy n Z))), (qk, .inl (cI, n, .inl K)), (rk, .inl (cI, 2 * n, .inl (cpy n K))), (qv, .inl (cI, n, .inl V)), (rv, .inl (cI, 2 * n, .inl (cpy n V))), (qb, .inl (cI, n, .inl P)), (rb, .inl (cI, 2 * n, .inl (cpy n P))), (qn, .inl (cI, n, .inl N)), (rn, .inl (cI, 2 * n, .inl (cpy n N)))]) := hD
  refine va_put (D := D) (ci := 2) (v := .ref rn) (ty := .array .int) (C := R_pr) (T := F_pr) (N := 10) hx hb hts i_pr t_pr t_pr_ok n_pr hown hK hP hD hS 0 rfl rfl 4 (by decide) (hts _ kf_pr_22) (fun _ h9 => h9) rfl (by decide +kernel) rfl rfl (Nat.le_of_ble_eq_true rfl) d_pr_grow_64 (fun H locs hP hD hS => ?_)
  have hP : va_P D cls ([(a, .inr (2, [.ref rs, .ref rk, .ref rv, .ref rb, .ref rn, .int my, .int fr, .int (nI n), .int fi, .int la])), (qs, .inl (cI, n, .inl Z)), (rs, .inl (cI, 2 * n, .inl (cpy n Z))), (qk, .inl (cI, n, .inl K)), (rk, .inl (cI, 2 * n, .inl (cpy n K))), (qv, .inl (cI, n, .inl V)), (rv, .inl (cI, 2 * n, .inl (cpy n V))), (qb, .inl (cI, n, .inl P)), (rb, .inl (cI, 2 * n, .inl (cpy n P))), (qn, .inl (cI, n, .inl N)), (rn, .inl (cI, 2 * n, .inl (cpy n N)))]) H := hP
  have hD : va_D A ([(a, .inr (2, [.ref rs, .ref rk, .ref rv, .ref rb, .ref rn, .int my, .int fr, .int (nI n), .int fi, .int la])), (qs, .inl (cI, n, .inl Z)), (rs, .inl (cI, 2 * n, .inl (cpy n Z))), (qk, .inl (cI, n, .inl K)), (rk, .inl (cI, 2 * n, .inl (cpy n K))), (qv, .inl (cI, n, .inl V)), (rv, .inl (cI, 2 * n, .inl (cpy n V))), (qb, .inl (cI, n, .inl P)), (rb, .inl (cI, 2 * n, .inl (cpy n P))), (qn, .inl (cI, n, .inl N)), (rn, .inl (cI, 2 * n, .inl (cpy n N)))]) := hD
  refine W.widen (k := 5) (n := 5 * (2 * n)) (by omega) (by omega) ?_
  have hP : va_P D cls ([(a, .inr (2, [.ref rs, .ref rk, .ref rv, .ref rb, .ref rn, .int my, .int fr, .int (nI n), .int fi, .int la])), (rs, .inl (cI, 2 * n, .inl (cpy n Z))), (rk, .inl (cI, 2 * n, .inl (cpy n K))), (rv, .inl (cI, 2 * n, .inl (cpy n V))), (rb, .inl (cI, 2 * n, .inl (cpy n P))), (rn, .inl (cI, 2 * n, .inl (cpy n N)))]) H := hP.sub [0, 2, 4, 6, 8, 10] rfl
  have hD : va_D A ([(a, .inr (2, [.ref rs, .ref rk, .ref rv, .ref rb, .ref rn, .int my, .int fr, .int (nI n), .int fi, .int la])), (rs, .inl (cI, 2 * n, .inl (cpy n Z))), (rk, .inl (cI, 2 * n, .inl (cpy n K))), (rv, .inl (cI, 2 * n, .inl (cpy n V))), (rb, .inl (cI, 2 * n, .inl (cpy n P))), (rn, .inl (cI, 2 * n, .inl (cpy n N)))]) := hD.sub [0, 2, 4, 6, 8, 10] (by decide) rfl
  exact cg_vret (u := (rs, rk, rv, rb, rn)) hQ hx hb hr hlk hK hP hD hS rfl d_pr_grow_67
end
section
-- Pairs (2): printed by wip/whole/gen/pr2.py
abbrev PB : Type := Nat × Nat × Nat × Nat × Nat × (Nat → Int32) × (Nat → Int32) × (Nat → Int32) × (Nat → Int32) × (Nat → Int32) × Int32 × Nat × Int32 × Int32 × List Nat
/-- a Pairs' cells, its state in a bundle -/
abbrev pw (cI : ClassId) (a j : Nat) (u : PB) : va_W := px cI a u.1 u.2.1 u.2.2.1 u.2.2.2.1 u.2.2.2.2.1 (2 ^ (4 + j)) u.2.2.2.2.2.1 u.2.2.2.2.2.2.1 u.2.2.2.2.2.2.2.1 u.2.2.2.2.2.2.2.2.1 u.2.2.2.2.2.2.2.2.2.1 (nI u.2.2.2.2.2.2.2.2.2.2.2.2.2.2.length) u.2.2.2.2.2.2.2.2.2.2.1 (nI u.2.2.2.2.2.2.2.2.2.2.2.1) u.2.2.2.2.2.2.2.2.2.2.2.2.1 u.2.2.2.2.2.2.2.2.2.2.2.2.2.1
def PL (j : Nat) (L : List (Int32 × Int32)) (u : PB) : Prop := ∃ (Fr Sp : List Nat), PA (2 ^ (4 + j)) j u.2.2.2.2.2.2.2.2.2.2.2.1 u.2.2.2.2.2.2.2.2.2.2.2.2.2.2 Fr ∧ PN u.2.2.2.2.2.2.2.2.1 u.2.2.2.2.2.2.2.2.2.1 u.2.2.2.2.2.2.2.2.2.2.2.2.1 u.2.2.2.2.2.2.2.2.2.2.2.2.2.1 u.2.2.2.2.2.2.2.2.2.2.2.2.2.2 ∧ PS u.2.2.2.2.2.2.1 u.2.2.2.2.2.1 u.2.2.2.2.2.2.2.2.2.2.2.2.2.2 Sp ∧ sg u.2.2.2.2.2.2.2.2.2.1 u.2.2.2.2.2.2.2.2.2.2.1 Fr (-1) ∧ L = kv u.2.2.2.2.2.2.1 u.2.2.2.2.2.2.2.1 u.2.2.2.2.2.2.2.2.2.2.2.2.2.2
def njr (j len : Nat) : Nat := if len = 2 ^ (4 + j) then j + 1 else j
def mcR (j j' : Nat) : Nat := 5 * (j' - j)
def msR (j j' : Nat) : Nat := 5 * 2 ^ (5 + j') - 5 * 2 ^ (5 + j)
theorem rk_upd {K : Nat → Int32} {k k0 : Int32} {p : Nat} {Sp : List Nat} (h : p ∉ Sp) : rk (upd K p k0) k Sp = rk K k Sp := by
  unfold rk
  rw [List.filter_congr (fun x hx => by rw [pk_un (fun z => h (by rw [← z]; exact hx))])]
theorem pw_upd {K : Nat → Int32} {k0 : Int32} {p : Nat} {Sp : List Nat} (h : p ∉ Sp) (hs : Sp.Pairwise (fun x y => K x < K y)) : Sp.Pairwise (fun x y => upd K p k0 x < upd K p k0 y) :=
  hs.imp_of_mem (fun {a b} ha hb q => by rw [pk_un (fun z => h (by rw [← z]; exact ha)), pk_un (fun z => h (by rw [← z]; exact hb))]; exact q)
set_option maxRecDepth 100000 in
set_option maxHeartbeats 4000000 in
/-- delete(p0) -/
theorem c_pr_delete (l : Launch) (D : va_G) (cI cT cP : ClassId) (a qs qk qv qb qn n : Nat) (Z K V P N : Nat → Int32) (fr md fi la : Int32) (j mm p0 : Nat) (l1 l2 Fr Sp : List Nat) (hPA : PA n j mm (l1 ++ p0 :: l2) Fr) (hPN : PN P N fi la (l1 ++ p0 :: l2)) (hPS : PS K Z (l1 ++ p0 :: l2) Sp) (hsF : sg N fr Fr (-1)) : Cg l y_pr_delete b_pr_delete 3 (none) 1 0 0 D (ty3 cI cT cP) [.ref a, .int (nI p0)] (px cI a qs qk qv qb qn n Z K V P N (nI (l1 ++ p0 :: l2).length) fr md fi la) (fun (v : Option Value) (u : (Nat → Int32) × (Nat → Int32) × Int32 × Int32) => v = none ∧ PN u.1 u.2.1 u.2.2.1 u.2.2.2 (l1 ++ l2) ∧ PS K (va_cpy Z Z (rk K (K p0) Sp + 1) (rk K (K p0) Sp) (Sp.length - 1 - rk K (K p0) Sp)) (l1 ++ l2) (Sp.take (rk K (K p0) Sp) ++ Sp.drop ((rk K (K p0) Sp) + 1)) ∧ sg u.2.1 (nI p0) (p0 :: Fr) (-1)) (fun u => px cI a qs qk qv qb qn n (va_cpy Z Z (rk K (K p0) Sp + 1) (rk K (K p0) Sp) (Sp.length - 1 - rk K (K p0) Sp)) K V u.1 u.2.1 (nI (l1 ++ l2).length) (nI p0) md u.2.2.1 u.2.2.2) := by
  have hpn := pa_n hPA
  have hn : n < 2 ^ 31 := by omega
  have hSl : Sp.length = (l1 ++ p0 :: l2).length := hPS.1.length_eq
  have hl12 : Sp.length = (l1 ++ l2).length + 1 := by rw [hSl]; simp; omega
  have hin2 : ∀ x, x ∈ Sp → x < n := fun x hx1 => (pa_in hPA (hPS.1.mem_iff.mp hx1)).2
  have nd := pa_nd hPA
  have hxR : p0 ∈ l1 ++ p0 :: l2 := List.mem_append_right _ (List.mem_cons_self ..)
  have hp0 := (pa_in hPA hxR).2
  have hra := rk_at hPS.2.1 (hPS.1.mem_iff.mpr hxR)
  obtain ⟨q1, q2, q3⟩ := pn_cut nd hPN
  have hp2 : p0 ∉ l1 ++ l2 := by
      have h9 : (p0 :: (l1 ++ l2)).Nodup := List.perm_middle.nodup_iff.mp nd
      exact (List.nodup_cons.mp h9).1
  have hpF : p0 ∉ Fr := fun z9 => (List.nodup_append.mp hPA.2.2.1).2.2 p0 hxR p0 z9 rfl
  refine cg_enter rfl (Nat.le_of_ble_eq_true rfl) ?_
  intro p e s m below meth c args hx hb hr hlk hml hown hin hts A hA hK hP hD hS ls hl Q hQ
  have hl : lv_has ls 3 [(0, .ref a), (1, .int (nI p0))] := hl
  have hP : va_P D cls (px cI a qs qk qv qb qn n Z K V P N (nI (l1 ++ p0 :: l2).length) fr md fi la) s.heap := hP
  have hD : va_D A (px cI a qs qk qv qb qn n Z K V P N (nI (l1 ++ p0 :: l2).length) fr md fi la) := hD
  rw [← hSl] at hP hD
  refine lv_aload_n hx hb d_pr_delete_0 rfl (lv_at hl 0 rfl) ?_
  refine lv_aload_n hx hb d_pr_delete_1 rfl (lv_at hl 0 rfl) ?_
  refine va_get (D := D) (ci := 2) (v := .ref qk) (C := R_pr) (T := F_pr) (N := 10) hx hb hts i_pr hown hK hP 0 rfl rfl 1 (by decide) (hts _ kf_pr_13) (fun _ h9 => h9) rfl d_pr_delete_2 ?_
  refine lv_iload_n hx hb d_pr_delete_5 rfl (lv_at hl 1 rfl) ?_
  refine wa_ld (k := p0) hx hb hK hP 2 0 rfl rfl hp0 hn d_pr_delete_6 ?_
  refine cg_V (hn := 1) (As := [.int (K p0)]) (rest := []) (wr := []) (q0 := 0) (ci := 2) hx hb hml hown hts (c_pr_rankOf l D cI cT cP a qs qk qv qb qn n Z K V P N fr md fi la Sp hPS.2.1 hPS.2.2 hin2 (by omega) (by omega) (K p0)) km_pr_38 ki_pr_rankOf ks_pr_rankOf kn_pr kc_pr_rankOf (by decide +kernel) rfl ⟨Nat.le_of_ble_eq_true rfl, Nat.le_of_ble_eq_true rfl⟩ hK hP hD hS hA [0, 1, 2, 3, 4, 5] [] rfl (by decide) rfl (by decide) (by decide) rfl rfl hl.1 rfl (Nat.le_of_ble_eq_true rfl) d_pr_delete_7 ⟨Nat.zero_le _, Nat.zero_le _⟩ (fun v u H locs hpost hP hD hS => ?_)
  subst hpost
  refine W.eq (g2 := F0 m 10 ls [.int (nI (rk K (K p0) Sp))]) rfl ?_
  have hP : va_P D cls (px cI a qs qk qv qb qn n Z K V P N (nI Sp.length) fr md fi la) H := hP
  have hD : va_D A (px cI a qs qk qv qb qn n Z K V P N (nI Sp.length) fr md fi la) := hD
  refine lv_istore_n (lv' := [(2, .int (nI (rk K (K p0) Sp))), (0, .ref a), (1, .int (nI p0))]) hx hb d_pr_delete_10 rfl hl (by decide) rfl (fun ls hl => ?_)
  refine lv_aload_n hx hb d_pr_delete_11 rfl (lv_at hl 1 rfl) ?_
  refine lv_dup hx hb d_pr_delete_12 rfl ?_
  refine va_get (D := D) (ci := 2) (v := .int (nI Sp.length)) (C := R_pr) (T := F_pr) (N := 10) hx hb hts i_pr hown hK hP 0 rfl rfl 5 (by decide) (hts _ kf_pr_35) (fun _ h9 => h9) rfl d_pr_delete_13 ?_
  refine lv_iconst (v := 1) hx hb d_pr_delete_16 (by decide) ?_
  refine lv_isub hx hb d_pr_delete_17 ?_
  refine tp_i (y := nI (l1 ++ l2).length) (by rw [hl12]; exact nI_pred _) ?_
  refine va_put (D := D) (ci := 2) (v := .int (nI (l1 ++ l2).length)) (ty := .int) (C := R_pr) (T := F_pr) (N := 10) hx hb hts i_pr t_pr t_pr_ok n_pr hown hK hP hD hS 0 rfl rfl 5 (by decide) (hts _ kf_pr_35) (fun _ h9 => h9) rfl (by decide +kernel) rfl rfl (Nat.le_of_ble_eq_true rfl) d_pr_delete_18 (fun H locs hP hD hS => ?_)
  have hP : va_P D cls (px cI a qs qk qv qb qn n Z K V P N (nI (l1 ++ l2).length) fr md fi la) H := hP
  have hD : va_D A (px cI a qs qk qv qb qn n Z K V P N (nI (l1 ++ l2).length) fr md fi la) := hD
  refine lv_aload_n hx hb d_pr_delete_21 rfl (lv_at hl 1 rfl) ?_
  refine va_get (D := D) (ci := 2) (v := .ref qs) (C := R_pr) (T := F_pr) (N := 10) hx hb hts i_pr hown hK hP 0 rfl rfl 0 (by decide) (hts _ kf_pr_7) (fun _ h9 => h9) rfl d_pr_delete_22 ?_
  refine lv_iload_n hx hb d_pr_delete_25 rfl (lv_at hl 0 rfl) ?_
  refine lv_iconst (v := 1) hx hb d_pr_delete_26 (by decide) ?_
  refine lv_iadd hx hb d_pr_delete_27 ?_
  refine tp_i (y := nI ((rk K (K p0) Sp) + 1)) (nI_1 _) ?_
  refine lv_aload_n hx hb d_pr_delete_28 rfl (lv_at hl 1 rfl) ?_
  refine va_get (D := D) (ci := 2) (v := .ref qs) (C := R_pr) (T := F_pr) (N := 10) hx hb hts i_pr hown hK hP 0 rfl rfl 0 (by decide) (hts _ kf_pr_7) (fun _ h9 => h9) rfl d_pr_delete_29 ?_
  refine lv_iload_n hx hb d_pr_delete_32 rfl (lv_at hl 0 rfl) ?_
  refine lv_aload_n hx hb d_pr_delete_33 rfl (lv_at hl 1 rfl) ?_
  refine va_get (D := D) (ci := 2) (v := .int (nI (l1 ++ l2).length)) (C := R_pr) (T := F_pr) (N := 10) hx hb hts i_pr hown hK hP 0 rfl rfl 5 (by decide) (hts _ kf_pr_35) (fun _ h9 => h9) rfl d_pr_delete_34 ?_
  refine lv_iload_n hx hb d_pr_delete_37 rfl (lv_at hl 0 rfl) ?_
  refine lv_isub hx hb d_pr_delete_38 ?_
  refine tp_i (y := nI (Sp.length - 1 - (rk K (K p0) Sp))) (by rw [show Sp.length - 1 - (rk K (K p0) Sp) = (l1 ++ l2).length - (rk K (K p0) Sp) by omega]; exact pk_sub (by omega)) ?_
  refine wa_cpy (n := (Sp.length - 1 - (rk K (K p0) Sp))) (dp := (rk K (K p0) Sp)) (sp := ((rk K (K p0) Sp) + 1)) hx hb hml hl.1 hown hts km_pr_54 hK hP hD hS 1 1 0 rfl rfl rfl (by omega) (by omega) hn hn (Nat.le_of_ble_eq_true rfl) (Nat.le_of_ble_eq_true rfl) d_pr_delete_39 (fun H locs hP hD hS => ?_)
  have hP : va_P D cls (px cI a qs qk qv qb qn n (va_cpy Z Z ((rk K (K p0) Sp) + 1) (rk K (K p0) Sp) (Sp.length - 1 - (rk K (K p0) Sp))) K V P N (nI (l1 ++ l2).length) fr md fi la) H := hP
  have hD : va_D A (px cI a qs qk qv qb qn n (va_cpy Z Z ((rk K (K p0) Sp) + 1) (rk K (K p0) Sp) (Sp.length - 1 - (rk K (K p0) Sp))) K V P N (nI (l1 ++ l2).length) fr md fi la) := hD
  refine lv_aload_n hx hb d_pr_delete_42 rfl (lv_at hl 1 rfl) ?_
  refine lv_iload_n hx hb d_pr_delete_43 rfl (lv_at hl 2 rfl) ?_
  refine cg_V (hn := 1) (As := [.int (nI p0)]) (rest := []) (wr := []) (q0 := 0) (ci := 2) hx hb hml hown hts (c_pr_unlink l D cI cT cP a qs qk qv qb qn n (va_cpy Z Z (rk K (K p0) Sp + 1) (rk K (K p0) Sp) (Sp.length - 1 - rk K (K p0) Sp)) K V P N (nI (l1 ++ l2).length) fr md fi la hn l1 l2 p0 hp0 q1 q2 (fun x hx1 => ⟨(pa_in hPA (List.mem_append_left _ hx1)).2, fun z9 => hp2 (by rw [← z9]; exact List.mem_append_left _ hx1)⟩) (fun x hx1 => (pa_in hPA (List.mem_append_right _ (List.mem_cons_of_mem _ hx1))).2)) km_pr_64 ki_pr_unlink ks_pr_unlink kn_pr kc_pr_unlink (by decide +kernel) rfl ⟨Nat.le_of_ble_eq_true rfl, Nat.le_of_ble_eq_true rfl⟩ hK hP hD hS hA [0, 1, 2, 3, 4, 5] [] rfl (by decide) rfl (by decide) (by decide) rfl rfl hl.1 rfl (Nat.le_of_ble_eq_true rfl) d_pr_delete_44 ⟨Nat.zero_le _, Nat.zero_le _⟩ (fun v u H locs hpost hP hD hS => ?_)
  subst hpost
  refine W.eq (g2 := F0 m 47 ls []) rfl ?_
  have hP : va_P D cls (px cI a qs qk qv qb qn n (va_cpy Z Z (rk K (K p0) Sp + 1) (rk K (K p0) Sp) (Sp.length - 1 - rk K (K p0) Sp)) K V ((cB P la (P p0) l2).1) ((cN N fi (N p0) l1).1) (nI (l1 ++ l2).length) fr md ((cN N fi (N p0) l1).2) ((cB P la (P p0) l2).2)) H := hP
  have hD : va_D A (px cI a qs qk qv qb qn n (va_cpy Z Z (rk K (K p0) Sp + 1) (rk K (K p0) Sp) (Sp.length - 1 - rk K (K p0) Sp)) K V ((cB P la (P p0) l2).1) ((cN N fi (N p0) l1).1) (nI (l1 ++ l2).length) fr md ((cN N fi (N p0) l1).2) ((cB P la (P p0) l2).2)) := hD
  refine lv_aload_n hx hb d_pr_delete_47 rfl (lv_at hl 1 rfl) ?_
  refine va_get (D := D) (ci := 2) (v := .ref qn) (C := R_pr) (T := F_pr) (N := 10) hx hb hts i_pr hown hK hP 0 rfl rfl 4 (by decide) (hts _ kf_pr_22) (fun _ h9 => h9) rfl d_pr_delete_48 ?_
  refine lv_iload_n hx hb d_pr_delete_51 rfl (lv_at hl 2 rfl) ?_
  refine lv_aload_n hx hb d_pr_delete_52 rfl (lv_at hl 1 rfl) ?_
  refine va_get (D := D) (ci := 2) (v := .int fr) (C := R_pr) (T := F_pr) (N := 10) hx hb hts i_pr hown hK hP 0 rfl rfl 6 (by decide) (hts _ kf_pr_25) (fun _ h9 => h9) rfl d_pr_delete_53 ?_
  refine wa_st (k := p0) (x := fr) hx hb hK hP hD hS 5 0 rfl rfl hp0 hn d_pr_delete_56 (fun H locs hP hD hS => ?_)
  have hP : va_P D cls (px cI a qs qk qv qb qn n (va_cpy Z Z (rk K (K p0) Sp + 1) (rk K (K p0) Sp) (Sp.length - 1 - rk K (K p0) Sp)) K V ((cB P la (P p0) l2).1) (upd ((cN N fi (N p0) l1).1) p0 fr) (nI (l1 ++ l2).length) fr md ((cN N fi (N p0) l1).2) ((cB P la (P p0) l2).2)) H := hP
  have hD : va_D A (px cI a qs qk qv qb qn n (va_cpy Z Z (rk K (K p0) Sp + 1) (rk K (K p0) Sp) (Sp.length - 1 - rk K (K p0) Sp)) K V ((cB P la (P p0) l2).1) (upd ((cN N fi (N p0) l1).1) p0 fr) (nI (l1 ++ l2).length) fr md ((cN N fi (N p0) l1).2) ((cB P la (P p0) l2).2)) := hD
  refine lv_aload_n hx hb d_pr_delete_57 rfl (lv_at hl 1 rfl) ?_
  refine lv_iload_n hx hb d_pr_delete_58 rfl (lv_at hl 2 rfl) ?_
  refine va_put (D := D) (ci := 2) (v := .int (nI p0)) (ty := .int) (C := R_pr) (T := F_pr) (N := 10) hx hb hts i_pr t_pr t_pr_ok n_pr hown hK hP hD hS 0 rfl rfl 6 (by decide) (hts _ kf_pr_25) (fun _ h9 => h9) rfl (by decide +kernel) rfl rfl (Nat.le_of_ble_eq_true rfl) d_pr_delete_59 (fun H locs hP hD hS => ?_)
  have hP : va_P D cls (px cI a qs qk qv qb qn n (va_cpy Z Z (rk K (K p0) Sp + 1) (rk K (K p0) Sp) (Sp.length - 1 - rk K (K p0) Sp)) K V ((cB P la (P p0) l2).1) (upd ((cN N fi (N p0) l1).1) p0 fr) (nI (l1 ++ l2).length) (nI p0) md ((cN N fi (N p0) l1).2) ((cB P la (P p0) l2).2)) H := hP
  have hD : va_D A (px cI a qs qk qv qb qn n (va_cpy Z Z (rk K (K p0) Sp + 1) (rk K (K p0) Sp) (Sp.length - 1 - rk K (K p0) Sp)) K V ((cB P la (P p0) l2).1) (upd ((cN N fi (N p0) l1).1) p0 fr) (nI (l1 ++ l2).length) (nI p0) md ((cN N fi (N p0) l1).2) ((cB P la (P p0) l2).2)) := hD
  exact cg_vret (u := ((cB P la (P p0) l2).1, upd (cN N fi (N p0) l1).1 p0 fr, (cN N fi (N p0) l1).2, (cB P la (P p0) l2).2)) hQ hx hb hr hlk hK hP hD hS (⟨rfl, ⟨sg_upd hp2 q3.1, q3.2⟩, ps_del hPS nd, rfl, by
      show sg _ (upd (cN N fi (N p0) l1).1 p0 fr p0) Fr (-1)
      rw [pk_us]
      exact sg_upd hpF (sg_cong (fun x hx1 => cN_out (fun z9 => (List.nodup_append.mp hPA.2.2.1).2.2 x (List.mem_append_left _ z9) x hx1 rfl)) hsF)⟩) d_pr_delete_62
set_option maxRecDepth 100000 in
set_option maxHeartbeats 4000000 in
/-- insert(k, v0) -/
theorem c_pr_insert (l : Launch) (D : va_G) (cI cT cP : ClassId) (a qs qk qv qb qn : Nat) (Z K V P N : Nat → Int32) (fr fi la : Int32) (j mm : Nat) (R Fr Sp : List Nat) (hPA : PA (2 ^ (4 + j)) j mm R Fr) (hPN : PN P N fi la R) (hPS : PS K Z R Sp) (hsF : sg N fr Fr (-1)) (k v0 : Int32) (hk : k ∉ R.map K) (hlen : R.length < 2047) : Cg l y_pr_insert b_pr_insert 5 (none) 3 (mcR j (njr j R.length)) (msR j (njr j R.length)) D (ty3 cI cT cP) [.ref a, .int k, .int v0] (px cI a qs qk qv qb qn (2 ^ (4 + j)) Z K V P N (nI R.length) fr (nI mm) fi la) (fun (v : Option Value) (u : PB) => v = none ∧ PL (njr j R.length) (kv K V R ++ [(k, v0)]) u) (fun u => pw cI a (njr j R.length) u) := by
  have hpn := pa_n hPA
  refine cg_enter rfl (Nat.le_of_ble_eq_true rfl) ?_
  intro p e s m below meth c args hx hb hr hlk hml hown hin hts A hA hK hP hD hS ls hl Q hQ
  have hl : lv_has ls 5 [(0, .ref a), (1, .int k), (2, .int v0)] := hl
  have hP : va_P D cls (px cI a qs qk qv qb qn (2 ^ (4 + j)) Z K V P N (nI R.length) fr (nI mm) fi la) s.heap := hP
  have hD : va_D A (px cI a qs qk qv qb qn (2 ^ (4 + j)) Z K V P N (nI R.length) fr (nI mm) fi la) := hD
  have fin : ∀ (n j2 mm p0 : Nat) (qs qk qv qb qn : Nat) (Z K2 V2 P N : Nat → Int32) (fr fi la : Int32) (Fr Sp : List Nat), PA n j2 mm (R ++ [p0]) Fr → PN P N fi la R → PS K2 Z R Sp → sg N fr Fr (-1) → k ∉ R.map K2 → kv K V R = kv K2 V2 R → j2 = njr j R.length → ∀ (H : Heap) (locs : List Loc), va_P D cls (px cI a qs qk qv qb qn n Z K2 V2 P N (nI R.length) fr (nI mm) fi la) H → va_D A (px cI a qs qk qv qb qn n Z K2 V2 P N (nI R.length) fr (nI mm) fi la) → va_S A s.heap H locs → ∀ ls : Array Slot, lv_has ls 5 [(0, .ref a), (1, .int k), (2, .int v0), (3, .int (nI p0))] → W p l e (rmL 3 (mcR j (njr j R.length)) (msR j (njr j R.length))) s m args below meth c H locs (mcR j (njr j R.length)) (msR j (njr j R.length)) Q (F0 m 53 ls []) := by
    clear hP hD hS hPA hPN hPS hsF hk hl hpn
    intro n j2 mm p0 qs qk qv qb qn Z K2 V2 P N fr fi la Fr Sp hPA hPN hPS hsF hk ekv ej H locs hP hD hS ls hl
    have hpn := pa_n hPA
    have hn : n < 2 ^ 31 := by omega
    have hSl : Sp.length = R.length := hPS.1.length_eq
    have hRp : R.length + 1 ≤ n := by
      have h1 := hpn.2.2.2
      rw [List.length_append] at h1
      simp only [List.length_cons, List.length_nil] at h1
      omega
    have hp0 := (pa_in hPA (List.mem_append_right _ (List.mem_cons_self ..) : p0 ∈ R ++ [p0])).2
    have ndR : R.Nodup := (List.nodup_append.mp (pa_nd hPA)).1
    have hpR : p0 ∉ R := fun z9 => (List.nodup_append.mp (pa_nd hPA)).2.2 p0 z9 p0 (List.mem_cons_self ..) rfl
    have hpS : p0 ∉ Sp := fun z9 => hpR (hPS.1.mem_iff.mp z9)
    have hin2 : ∀ x, x ∈ Sp → x < n := fun x hx1 => (pa_in hPA (List.mem_append_left _ (hPS.1.mem_iff.mp hx1))).2
    have hpF : p0 ∉ Fr := fun z9 => (List.nodup_append.mp hPA.2.2.1).2.2 p0 (List.mem_append_right _ (List.mem_cons_self ..)) p0 z9 rfl
    obtain ⟨ela, q5⟩ := pn_add ndR hpR hPN
    subst ela
    have hps2 := ps_add (k := k) hPS hpR hk
    have hrl := rk_le (K := K2) (k := k) (Sp := Sp)
    have et := hPA.1.1
    refine lv_aload_n hx hb d_pr_insert_53 rfl (lv_at hl 0 rfl) ?_
    refine va_get (D := D) (ci := 2) (v := .ref qk) (C := R_pr) (T := F_pr) (N := 10) hx hb hts i_pr hown hK hP 0 rfl rfl 1 (by decide) (hts _ kf_pr_13) (fun _ h9 => h9) rfl d_pr_insert_54 ?_
    refine lv_iload_n hx hb d_pr_insert_57 rfl (lv_at hl 3 rfl) ?_
    refine lv_iload_n hx hb d_pr_insert_58 rfl (lv_at hl 1 rfl) ?_
    refine wa_st (k := p0) (x := k) hx hb hK hP hD hS 2 0 rfl rfl hp0 hn d_pr_insert_59 (fun H locs hP hD hS => ?_)
    have hP : va_P D cls (px cI a qs qk qv qb qn n Z (upd K2 p0 k) V2 P N (nI R.length) fr (nI mm) fi (lsI R)) H := hP
    have hD : va_D A (px cI a qs qk qv qb qn n Z (upd K2 p0 k) V2 P N (nI R.length) fr (nI mm) fi (lsI R)) := hD
    refine lv_aload_n hx hb d_pr_insert_60 rfl (lv_at hl 0 rfl) ?_
    refine va_get (D := D) (ci := 2) (v := .ref qv) (C := R_pr) (T := F_pr) (N := 10) hx hb hts i_pr hown hK hP 0 rfl rfl 2 (by decide) (hts _ kf_pr_16) (fun _ h9 => h9) rfl d_pr_insert_61 ?_
    refine lv_iload_n hx hb d_pr_insert_64 rfl (lv_at hl 3 rfl) ?_
    refine lv_iload_n hx hb d_pr_insert_65 rfl (lv_at hl 2 rfl) ?_
    refine wa_st (k := p0) (x := v0) hx hb hK hP hD hS 3 0 rfl rfl hp0 hn d_pr_insert_66 (fun H locs hP hD hS => ?_)
    have hP : va_P D cls (px cI a qs qk qv qb qn n Z (upd K2 p0 k) (upd V2 p0 v0) P N (nI R.length) fr (nI mm) fi (lsI R)) H := hP
    have hD : va_D A (px cI a qs qk qv qb qn n Z (upd K2 p0 k) (upd V2 p0 v0) P N (nI R.length) fr (nI mm) fi (lsI R)) := hD
    refine lv_aload_n hx hb d_pr_insert_67 rfl (lv_at hl 0 rfl) ?_
    refine lv_iload_n hx hb d_pr_insert_68 rfl (lv_at hl 1 rfl) ?_
    rw [← hSl] at hP hD
    refine cg_V (hn := 1) (As := [.int k]) (rest := []) (wr := []) (q0 := 0) (ci := 2) hx hb hml hown hts (c_pr_rankOf l D cI cT cP a qs qk qv qb qn n Z (upd K2 p0 k) (upd V2 p0 v0) P N fr (nI mm) fi (lsI R) Sp (pw_upd hpS hPS.2.1) hPS.2.2 hin2 (by omega) (by omega) k) km_pr_38 ki_pr_rankOf ks_pr_rankOf kn_pr kc_pr_rankOf (by decide +kernel) rfl ⟨Nat.le_of_ble_eq_true rfl, Nat.le_of_ble_eq_true rfl⟩ hK hP hD hS hA [0, 1, 2, 3, 4, 5] [] rfl (by decide) rfl (by decide) (by decide) rfl rfl hl.1 rfl (Nat.le_of_ble_eq_true rfl) d_pr_insert_69 ⟨Nat.le_refl _, Nat.le_refl _⟩ (fun v u H locs hpost hP hD hS => ?_)
    subst hpost
    rw [rk_upd hpS]
    refine W.eq (g2 := F0 m 72 ls [.int (nI (rk K2 k Sp))]) rfl ?_
    have hP : va_P D cls (px cI a qs qk qv qb qn n Z (upd K2 p0 k) (upd V2 p0 v0) P N (nI Sp.length) fr (nI mm) fi (lsI R)) H := hP
    have hD : va_D A (px cI a qs qk qv qb qn n Z (upd K2 p0 k) (upd V2 p0 v0) P N (nI Sp.length) fr (nI mm) fi (lsI R)) := hD
    refine lv_istore (lv' := [(4, .int (nI (rk K2 k Sp))), (0, .ref a), (1, .int k), (2, .int v0), (3, .int (nI p0))]) hx hb d_pr_insert_72 hl (by decide) rfl (fun ls hl => ?_)
    refine lv_aload_n hx hb d_pr_insert_74 rfl (lv_at hl 1 rfl) ?_
    refine va_get (D := D) (ci := 2) (v := .ref qs) (C := R_pr) (T := F_pr) (N := 10) hx hb hts i_pr hown hK hP 0 rfl rfl 0 (by decide) (hts _ kf_pr_7) (fun _ h9 => h9) rfl d_pr_insert_75 ?_
    refine lv_iload hx hb d_pr_insert_78 (lv_at hl 0 rfl) ?_
    refine lv_aload_n hx hb d_pr_insert_80 rfl (lv_at hl 1 rfl) ?_
    refine va_get (D := D) (ci := 2) (v := .ref qs) (C := R_pr) (T := F_pr) (N := 10) hx hb hts i_pr hown hK hP 0 rfl rfl 0 (by decide) (hts _ kf_pr_7) (fun _ h9 => h9) rfl d_pr_insert_81 ?_
    refine lv_iload hx hb d_pr_insert_84 (lv_at hl 0 rfl) ?_
    refine lv_iconst (v := 1) hx hb d_pr_insert_86 (by decide) ?_
    refine lv_iadd hx hb d_pr_insert_87 ?_
    refine tp_i (y := nI ((rk K2 k Sp) + 1)) (nI_1 _) ?_
    refine lv_aload_n hx hb d_pr_insert_88 rfl (lv_at hl 1 rfl) ?_
    refine va_get (D := D) (ci := 2) (v := .int (nI Sp.length)) (C := R_pr) (T := F_pr) (N := 10) hx hb hts i_pr hown hK hP 0 rfl rfl 5 (by decide) (hts _ kf_pr_35) (fun _ h9 => h9) rfl d_pr_insert_89 ?_
    refine lv_iload hx hb d_pr_insert_92 (lv_at hl 0 rfl) ?_
    refine lv_isub hx hb d_pr_insert_94 ?_
    refine tp_i (y := nI (Sp.length - (rk K2 k Sp))) (pk_sub (by omega)) ?_
    refine wa_cpy (n := (Sp.length - (rk K2 k Sp))) (dp := ((rk K2 k Sp) + 1)) (sp := (rk K2 k Sp)) hx hb hml hl.1 hown hts km_pr_54 hK hP hD hS 1 1 0 rfl rfl rfl (by omega) (by omega) hn hn (Nat.le_of_ble_eq_true rfl) (Nat.le_of_ble_eq_true rfl) d_pr_insert_95 (fun H locs hP hD hS => ?_)
    have hP : va_P D cls (px cI a qs qk qv qb qn n (va_cpy Z Z (rk K2 k Sp) ((rk K2 k Sp) + 1) (Sp.length - (rk K2 k Sp))) (upd K2 p0 k) (upd V2 p0 v0) P N (nI Sp.length) fr (nI mm) fi (lsI R)) H := hP
    have hD : va_D A (px cI a qs qk qv qb qn n (va_cpy Z Z (rk K2 k Sp) ((rk K2 k Sp) + 1) (Sp.length - (rk K2 k Sp))) (upd K2 p0 k) (upd V2 p0 v0) P N (nI Sp.length) fr (nI mm) fi (lsI R)) := hD
    refine lv_aload_n hx hb d_pr_insert_98 rfl (lv_at hl 1 rfl) ?_
    refine va_get (D := D) (ci := 2) (v := .ref qs) (C := R_pr) (T := F_pr) (N := 10) hx hb hts i_pr hown hK hP 0 rfl rfl 0 (by decide) (hts _ kf_pr_7) (fun _ h9 => h9) rfl d_pr_insert_99 ?_
    refine lv_iload hx hb d_pr_insert_102 (lv_at hl 0 rfl) ?_
    refine lv_iload_n hx hb d_pr_insert_104 rfl (lv_at hl 4 rfl) ?_
    refine wa_st (k := rk K2 k Sp) (x := (nI p0)) hx hb hK hP hD hS 1 0 rfl rfl (by omega) hn d_pr_insert_105 (fun H locs hP hD hS => ?_)
    have hP : va_P D cls (px cI a qs qk qv qb qn n (upd (va_cpy Z Z (rk K2 k Sp) ((rk K2 k Sp) + 1) (Sp.length - (rk K2 k Sp))) (rk K2 k Sp) (nI p0)) (upd K2 p0 k) (upd V2 p0 v0) P N (nI Sp.length) fr (nI mm) fi (lsI R)) H := hP
    have hD : va_D A (px cI a qs qk qv qb qn n (upd (va_cpy Z Z (rk K2 k Sp) ((rk K2 k Sp) + 1) (Sp.length - (rk K2 k Sp))) (rk K2 k Sp) (nI p0)) (upd K2 p0 k) (upd V2 p0 v0) P N (nI Sp.length) fr (nI mm) fi (lsI R)) := hD
    refine lv_aload_n hx hb d_pr_insert_106 rfl (lv_at hl 1 rfl) ?_
    refine lv_dup hx hb d_pr_insert_107 rfl ?_
    refine va_get (D := D) (ci := 2) (v := .int (nI Sp.length)) (C := R_pr) (T := F_pr) (N := 10) hx hb hts i_pr hown hK hP 0 rfl rfl 5 (by decide) (hts _ kf_pr_35) (fun _ h9 => h9) rfl d_pr_insert_108 ?_
    refine lv_iconst (v := 1) hx hb d_pr_insert_111 (by decide) ?_
    refine lv_iadd hx hb d_pr_insert_112 ?_
    refine tp_i (y := nI (R ++ [p0]).length) (by rw [hSl, List.length_append]; exact nI_1 _) ?_
    refine va_put (D := D) (ci := 2) (v := .int (nI (R ++ [p0]).length)) (ty := .int) (C := R_pr) (T := F_pr) (N := 10) hx hb hts i_pr t_pr t_pr_ok n_pr hown hK hP hD hS 0 rfl rfl 5 (by decide) (hts _ kf_pr_35) (fun _ h9 => h9) rfl (by decide +kernel) rfl rfl (Nat.le_of_ble_eq_true rfl) d_pr_insert_113 (fun H locs hP hD hS => ?_)
    have hP : va_P D cls (px cI a qs qk qv qb qn n (upd (va_cpy Z Z (rk K2 k Sp) ((rk K2 k Sp) + 1) (Sp.length - (rk K2 k Sp))) (rk K2 k Sp) (nI p0)) (upd K2 p0 k) (upd V2 p0 v0) P N (nI (R ++ [p0]).length) fr (nI mm) fi (lsI R)) H := hP
    have hD : va_D A (px cI a qs qk qv qb qn n (upd (va_cpy Z Z (rk K2 k Sp) ((rk K2 k Sp) + 1) (Sp.length - (rk K2 k Sp))) (rk K2 k Sp) (nI p0)) (upd K2 p0 k) (upd V2 p0 v0) P N (nI (R ++ [p0]).length) fr (nI mm) fi (lsI R)) := hD
    refine lv_aload_n hx hb d_pr_insert_116 rfl (lv_at hl 1 rfl) ?_
    refine lv_iload_n hx hb d_pr_insert_117 rfl (lv_at hl 4 rfl) ?_
    refine cg_V (hn := 1) (As := [.int (nI p0)]) (rest := []) (wr := []) (q0 := 0) (ci := 2) hx hb hml hown hts (c_pr_link l D cI cT cP a qs qk qv qb qn n (upd (va_cpy Z Z (rk K2 k Sp) ((rk K2 k Sp) + 1) (Sp.length - (rk K2 k Sp))) (rk K2 k Sp) (nI p0)) (upd K2 p0 k) (upd V2 p0 v0) P N (nI (R ++ [p0]).length) fr (nI mm) fi hn R (fun x hx1 => (pa_in hPA (List.mem_append_left _ hx1)).2) p0 hp0) km_pr_60 ki_pr_link ks_pr_link kn_pr kc_pr_link (by decide +kernel) rfl ⟨Nat.le_of_ble_eq_true rfl, Nat.le_of_ble_eq_true rfl⟩ hK hP hD hS hA [0, 1, 2, 3, 4, 5] [] rfl (by decide) rfl (by decide) (by decide) rfl rfl hl.1 rfl (Nat.le_of_ble_eq_true rfl) d_pr_insert_118 ⟨Nat.le_refl _, Nat.le_refl _⟩ (fun v u H locs hpost hP hD hS => ?_)
    subst hpost
    refine W.eq (g2 := F0 m 121 ls []) rfl ?_
    have hP : va_P D cls (px cI a qs qk qv qb qn n (upd (va_cpy Z Z (rk K2 k Sp) ((rk K2 k Sp) + 1) (Sp.length - (rk K2 k Sp))) (rk K2 k Sp) (nI p0)) (upd K2 p0 k) (upd V2 p0 v0) (upd P p0 (lsI R)) ((cL N fi (-1) p0 R).1) (nI (R ++ [p0]).length) fr (nI mm) ((cL N fi (-1) p0 R).2) (nI p0)) H := hP
    have hD : va_D A (px cI a qs qk qv qb qn n (upd (va_cpy Z Z (rk K2 k Sp) ((rk K2 k Sp) + 1) (Sp.length - (rk K2 k Sp))) (rk K2 k Sp) (nI p0)) (upd K2 p0 k) (upd V2 p0 v0) (upd P p0 (lsI R)) ((cL N fi (-1) p0 R).1) (nI (R ++ [p0]).length) fr (nI mm) ((cL N fi (-1) p0 R).2) (nI p0)) := hD
    subst ej
    subst et
    have hkv : kv K V R ++ [(k, v0)] = kv (upd K2 p0 k) (upd V2 p0 v0) (R ++ [p0]) := by
      show _ = List.map _ (R ++ [p0])
      rw [List.map_append, ekv]
      congr 1
      · exact List.map_congr_left (fun y hy => by rw [pk_un (fun z9 => hpR (by rw [← z9]; exact hy)), pk_un (fun z9 => hpR (by rw [← z9]; exact hy))])
      · show [(k, v0)] = [(upd K2 p0 k p0, upd V2 p0 v0 p0)]
        rw [pk_us, pk_us]
    exact cg_vret (u := (qs, qk, qv, qb, qn, (upd (va_cpy Z Z (rk K2 k Sp) ((rk K2 k Sp) + 1) (Sp.length - (rk K2 k Sp))) (rk K2 k Sp) (nI p0)), (upd K2 p0 k), (upd V2 p0 v0), upd P p0 (lsI R), (cL N fi (-1) p0 R).1, fr, mm, (cL N fi (-1) p0 R).2, nI p0, R ++ [p0])) hQ hx hb hr hlk hK hP hD hS (⟨rfl, Fr, _, hPA, q5, hps2, sg_cong (fun x hx1 => cL_out (fun z9 => (List.nodup_append.mp hPA.2.2.1).2.2 x (List.mem_append_left _ z9) x hx1 rfl) (fun z9 => hpF (by rw [← z9]; exact hx1))) hsF, hkv⟩) d_pr_insert_121
  cases Fr with
  | cons p0 Fr =>
    have efr : fr = nI p0 := hsF.1
    subst efr
    have hp0 := (pa_inF hPA (List.mem_cons_self ..)).2
    have hn : 2 ^ (4 + j) < 2 ^ 31 := by omega
    have hlF := hPA.2.2.2.2
    simp only [List.length_cons] at hlF
    refine lv_aload_n hx hb d_pr_insert_0 rfl (lv_at hl 0 rfl) ?_
    refine va_get (D := D) (ci := 2) (v := .int (nI p0)) (C := R_pr) (T := F_pr) (N := 10) hx hb hts i_pr hown hK hP 0 rfl rfl 6 (by decide) (hts _ kf_pr_25) (fun _ h9 => h9) rfl d_pr_insert_1 ?_
    refine lv_istore_n (lv' := [(3, .int (nI p0)), (0, .ref a), (1, .int k), (2, .int v0)]) hx hb d_pr_insert_4 rfl hl (by decide) rfl (fun ls hl => ?_)
    refine lv_iload_n hx hb d_pr_insert_5 rfl (lv_at hl 0 rfl) ?_
    refine lv_if_lt (tgt := 22) hx hb d_pr_insert_6 (by decide) (fun z9 => absurd z9 (nI_pos (by omega))) (fun _ => ?_)
    refine lv_aload_n hx hb d_pr_insert_9 rfl (lv_at hl 1 rfl) ?_
    refine lv_aload_n hx hb d_pr_insert_10 rfl (lv_at hl 1 rfl) ?_
    refine va_get (D := D) (ci := 2) (v := .ref qn) (C := R_pr) (T := F_pr) (N := 10) hx hb hts i_pr hown hK hP 0 rfl rfl 4 (by decide) (hts _ kf_pr_22) (fun _ h9 => h9) rfl d_pr_insert_11 ?_
    refine lv_iload_n hx hb d_pr_insert_14 rfl (lv_at hl 0 rfl) ?_
    refine wa_ld (k := p0) hx hb hK hP 5 0 rfl rfl hp0 hn d_pr_insert_15 ?_
    refine va_put (D := D) (ci := 2) (v := .int (N p0)) (ty := .int) (C := R_pr) (T := F_pr) (N := 10) hx hb hts i_pr t_pr t_pr_ok n_pr hown hK hP hD hS 0 rfl rfl 6 (by decide) (hts _ kf_pr_25) (fun _ h9 => h9) rfl (by decide +kernel) rfl rfl (Nat.le_of_ble_eq_true rfl) d_pr_insert_16 (fun H locs hP hD hS => ?_)
    have hP : va_P D cls (px cI a qs qk qv qb qn (2 ^ (4 + j)) Z K V P N (nI R.length) (N p0) (nI mm) fi la) H := hP
    have hD : va_D A (px cI a qs qk qv qb qn (2 ^ (4 + j)) Z K V P N (nI R.length) (N p0) (nI mm) fi la) := hD
    refine lv_goto (tgt := 53) hx hb d_pr_insert_19 (by decide) ?_
    refine W.widen (k := mcR j (njr j R.length)) (n := msR j (njr j R.length)) (Nat.zero_le _) (Nat.zero_le _) ?_
    exact fin _ j mm p0 qs qk qv qb qn Z K V P N (N p0) fi la Fr Sp (pa_take hPA) hPN hPS hsF.2 hk rfl (by unfold njr; rw [if_neg (by omega)]) _ _ hP hD hS ls (lv_sub hl [1, 2, 3, 0] rfl)
  | nil =>
    have efr : fr = -1 := hsF
    subst efr
    have hn : 2 ^ (4 + j) < 2 ^ 31 := by omega
    have hlF := hPA.2.2.2.2
    simp only [List.length_nil] at hlF
    refine lv_aload_n hx hb d_pr_insert_0 rfl (lv_at hl 0 rfl) ?_
    refine va_get (D := D) (ci := 2) (v := .int (-1)) (C := R_pr) (T := F_pr) (N := 10) hx hb hts i_pr hown hK hP 0 rfl rfl 6 (by decide) (hts _ kf_pr_25) (fun _ h9 => h9) rfl d_pr_insert_1 ?_
    refine lv_istore_n (lv' := [(3, .int (-1)), (0, .ref a), (1, .int k), (2, .int v0)]) hx hb d_pr_insert_4 rfl hl (by decide) rfl (fun ls hl => ?_)
    refine lv_iload_n hx hb d_pr_insert_5 rfl (lv_at hl 0 rfl) ?_
    refine lv_if_lt (tgt := 22) hx hb d_pr_insert_6 (by decide) (fun _ => ?_) (fun z9 => absurd m1_neg z9)
    refine lv_aload_n hx hb d_pr_insert_22 rfl (lv_at hl 1 rfl) ?_
    refine va_get (D := D) (ci := 2) (v := .int (nI mm)) (C := R_pr) (T := F_pr) (N := 10) hx hb hts i_pr hown hK hP 0 rfl rfl 7 (by decide) (hts _ kf_pr_42) (fun _ h9 => h9) rfl d_pr_insert_23 ?_
    refine lv_aload_n hx hb d_pr_insert_26 rfl (lv_at hl 1 rfl) ?_
    refine va_get (D := D) (ci := 2) (v := .ref qk) (C := R_pr) (T := F_pr) (N := 10) hx hb hts i_pr hown hK hP 0 rfl rfl 1 (by decide) (hts _ kf_pr_13) (fun _ h9 => h9) rfl d_pr_insert_27 ?_
    refine va_alen (v := nI (2 ^ (4 + j))) hx hb hK hP 2 0 rfl rfl rfl d_pr_insert_30 ?_
    by_cases hmn : mm = 2 ^ (4 + j)
    · have hj7 : j < 7 := by
        have h7 := hPA.1.2
        rcases Nat.lt_or_ge j 7 with h | h
        · exact h
        · have : j = 7 := by omega
          subst this
          omega
      have enj : njr j R.length = j + 1 := by unfold njr; rw [if_pos (by omega)]
      have h1024 : 2 ^ (4 + j) ≤ 2 ^ 10 := Nat.pow_le_pow_right (by decide) (by omega)
      have hmc : mcR j (njr j R.length) = 5 := by rw [enj]; unfold mcR; omega
      have hms : msR j (njr j R.length) = 5 * (2 * 2 ^ (4 + j)) := by
        rw [enj]
        unfold msR
        have e1 : 2 ^ (5 + (j + 1)) = 4 * 2 ^ (4 + j) := by rw [show 5 + (j + 1) = 4 + j + 2 by omega, Nat.pow_add]; omega
        have e2 : 2 ^ (5 + j) = 2 * 2 ^ (4 + j) := by rw [show 5 + j = 4 + j + 1 by omega, Nat.pow_succ]; omega
        omega
      refine lv_icmp_ne (tgt := 38) hx hb d_pr_insert_31 (by decide) (fun z9 => absurd (by rw [hmn]) z9) (fun _ => ?_)
      have hPg := pa_grow hPA hj7
      have hPm := pa_make hPg (by omega)
      rw [hmn] at hP hD
      refine lv_aload_n hx hb d_pr_insert_34 rfl (lv_at hl 1 rfl) ?_
      refine cg_V (hn := 0) (As := []) (rest := []) (wr := []) (q0 := 0) (ci := 2) hx hb hml hown hts (c_pr_grow l D cI cT cP a qs qk qv qb qn (2 ^ (4 + j)) Z K V P N (nI R.length) (-1) fi la (by omega)) km_pr_51 ki_pr_grow ks_pr_grow kn_pr kc_pr_grow (by decide +kernel) rfl ⟨Nat.le_of_ble_eq_true rfl, Nat.le_of_ble_eq_true rfl⟩ hK hP hD hS hA [0, 1, 2, 3, 4, 5] [] rfl (by decide) rfl (by decide) (by decide) rfl rfl hl.1 rfl (Nat.le_of_ble_eq_true rfl) d_pr_insert_35 ⟨by show _ ≤ mcR j (njr j R.length); omega, by show _ ≤ msR j (njr j R.length); omega⟩ (fun v u H locs hpost hP hD hS => ?_)
      obtain ⟨rs, rk_, rv, rb, rn⟩ := u
      subst hpost
      refine W.eq (g2 := F0 m 38 ls []) rfl ?_
      have hP : va_P D cls (px cI a rs rk_ rv rb rn (2 * 2 ^ (4 + j)) (cpy (2 ^ (4 + j)) Z) (cpy (2 ^ (4 + j)) K) (cpy (2 ^ (4 + j)) V) (cpy (2 ^ (4 + j)) P) (cpy (2 ^ (4 + j)) N) (nI R.length) (-1) (nI (2 ^ (4 + j))) fi la) H := hP
      have hD : va_D A (px cI a rs rk_ rv rb rn (2 * 2 ^ (4 + j)) (cpy (2 ^ (4 + j)) Z) (cpy (2 ^ (4 + j)) K) (cpy (2 ^ (4 + j)) V) (cpy (2 ^ (4 + j)) P) (cpy (2 ^ (4 + j)) N) (nI R.length) (-1) (nI (2 ^ (4 + j))) fi la) := hD
      refine lv_aload_n hx hb d_pr_insert_38 rfl (lv_at hl 1 rfl) ?_
      refine va_get (D := D) (ci := 2) (v := .int (nI (2 ^ (4 + j)))) (C := R_pr) (T := F_pr) (N := 10) hx hb hts i_pr hown hK hP 0 rfl rfl 7 (by decide) (hts _ kf_pr_42) (fun _ h9 => h9) rfl d_pr_insert_39 ?_
      refine lv_istore_n (lv' := [(3, .int (nI (2 ^ (4 + j)))), (0, .ref a), (1, .int k), (2, .int v0)]) hx hb d_pr_insert_42 rfl hl (by decide) rfl (fun ls hl => ?_)
      refine lv_aload_n hx hb d_pr_insert_43 rfl (lv_at hl 1 rfl) ?_
      refine lv_dup hx hb d_pr_insert_44 rfl ?_
      refine va_get (D := D) (ci := 2) (v := .int (nI (2 ^ (4 + j)))) (C := R_pr) (T := F_pr) (N := 10) hx hb hts i_pr hown hK hP 0 rfl rfl 7 (by decide) (hts _ kf_pr_42) (fun _ h9 => h9) rfl d_pr_insert_45 ?_
      refine lv_iconst (v := 1) hx hb d_pr_insert_48 (by decide) ?_
      refine lv_iadd hx hb d_pr_insert_49 ?_
      refine tp_i (y := nI (2 ^ (4 + j) + 1)) (nI_1 _) ?_
      refine va_put (D := D) (ci := 2) (v := .int (nI (2 ^ (4 + j) + 1))) (ty := .int) (C := R_pr) (T := F_pr) (N := 10) hx hb hts i_pr t_pr t_pr_ok n_pr hown hK hP hD hS 0 rfl rfl 7 (by decide) (hts _ kf_pr_42) (fun _ h9 => h9) rfl (by decide +kernel) rfl rfl (Nat.le_of_ble_eq_true rfl) d_pr_insert_50 (fun H locs hP hD hS => ?_)
      have hP : va_P D cls (px cI a rs rk_ rv rb rn (2 * 2 ^ (4 + j)) (cpy (2 ^ (4 + j)) Z) (cpy (2 ^ (4 + j)) K) (cpy (2 ^ (4 + j)) V) (cpy (2 ^ (4 + j)) P) (cpy (2 ^ (4 + j)) N) (nI R.length) (-1) (nI (2 ^ (4 + j) + 1)) fi la) H := hP
      have hD : va_D A (px cI a rs rk_ rv rb rn (2 * 2 ^ (4 + j)) (cpy (2 ^ (4 + j)) Z) (cpy (2 ^ (4 + j)) K) (cpy (2 ^ (4 + j)) V) (cpy (2 ^ (4 + j)) P) (cpy (2 ^ (4 + j)) N) (nI R.length) (-1) (nI (2 ^ (4 + j) + 1)) fi la) := hD
      have hcp : ∀ (f : Nat → Int32) (y : Nat), y ∈ R → cpy (2 ^ (4 + j)) f y = f y := fun f y hy => cpy_in (pa_in hPA hy).2
      have hPN2 : PN (cpy (2 ^ (4 + j)) P) (cpy (2 ^ (4 + j)) N) fi la R := ⟨sg_cong (fun y hy => hcp N y hy) hPN.1, sg_cong (fun y hy => hcp P y (List.mem_reverse.mp hy)) hPN.2⟩
      have hmK : R.map (cpy (2 ^ (4 + j)) K) = R.map K := List.map_congr_left (fun y hy => hcp K y hy)
      have hkv : kv K V R = kv (cpy (2 ^ (4 + j)) K) (cpy (2 ^ (4 + j)) V) R := List.map_congr_left (fun y hy => by rw [hcp K y hy, hcp V y hy])
      have hSl : Sp.length = R.length := hPS.1.length_eq
      have hPS2 : PS (cpy (2 ^ (4 + j)) K) (cpy (2 ^ (4 + j)) Z) R Sp := ⟨hPS.1, hPS.2.1.imp_of_mem (fun {x y} hx1 hy1 q9 => by rw [hcp K x (hPS.1.mem_iff.mp hx1), hcp K y (hPS.1.mem_iff.mp hy1)]; exact q9), fun i hi => by rw [cpy_in (by omega)]; exact hPS.2.2 i hi⟩
      rw [hmn] at hPm
      refine W.widen (k := mcR j (njr j R.length)) (n := msR j (njr j R.length)) (by omega) (by omega) ?_
      exact fin _ (j + 1) (2 ^ (4 + j) + 1) (2 ^ (4 + j)) rs rk_ rv rb rn _ _ _ _ _ (-1) fi la [] Sp hPm hPN2 hPS2 rfl (by rw [hmK]; exact hk) hkv enj.symm _ _ hP hD hS ls (lv_sub hl [1, 2, 3, 0] rfl)
    · have hm2 : mm < 2 ^ (4 + j) := by omega
      refine lv_icmp_ne (tgt := 38) hx hb d_pr_insert_31 (by decide) (fun _ => ?_) (fun z9 => absurd z9 (fun z9 => hmn ((nI_eq (by omega) (by omega)).mp z9)))
      refine lv_aload_n hx hb d_pr_insert_38 rfl (lv_at hl 1 rfl) ?_
      refine va_get (D := D) (ci := 2) (v := .int (nI mm)) (C := R_pr) (T := F_pr) (N := 10) hx hb hts i_pr hown hK hP 0 rfl rfl 7 (by decide) (hts _ kf_pr_42) (fun _ h9 => h9) rfl d_pr_insert_39 ?_
      refine lv_istore_n (lv' := [(3, .int (nI mm)), (0, .ref a), (1, .int k), (2, .int v0)]) hx hb d_pr_insert_42 rfl hl (by decide) rfl (fun ls hl => ?_)
      refine lv_aload_n hx hb d_pr_insert_43 rfl (lv_at hl 1 rfl) ?_
      refine lv_dup hx hb d_pr_insert_44 rfl ?_
      refine va_get (D := D) (ci := 2) (v := .int (nI mm)) (C := R_pr) (T := F_pr) (N := 10) hx hb hts i_pr hown hK hP 0 rfl rfl 7 (by decide) (hts _ kf_pr_42) (fun _ h9 => h9) rfl d_pr_insert_45 ?_
      refine lv_iconst (v := 1) hx hb d_pr_insert_48 (by decide) ?_
      refine lv_iadd hx hb d_pr_insert_49 ?_
      refine tp_i (y := nI (mm + 1)) (nI_1 _) ?_
      refine va_put (D := D) (ci := 2) (v := .int (nI (mm + 1))) (ty := .int) (C := R_pr) (T := F_pr) (N := 10) hx hb hts i_pr t_pr t_pr_ok n_pr hown hK hP hD hS 0 rfl rfl 7 (by decide) (hts _ kf_pr_42) (fun _ h9 => h9) rfl (by decide +kernel) rfl rfl (Nat.le_of_ble_eq_true rfl) d_pr_insert_50 (fun H locs hP hD hS => ?_)
      have hP : va_P D cls (px cI a qs qk qv qb qn (2 ^ (4 + j)) Z K V P N (nI R.length) (-1) (nI (mm + 1)) fi la) H := hP
      have hD : va_D A (px cI a qs qk qv qb qn (2 ^ (4 + j)) Z K V P N (nI R.length) (-1) (nI (mm + 1)) fi la) := hD
      refine W.widen (k := mcR j (njr j R.length)) (n := msR j (njr j R.length)) (Nat.zero_le _) (Nat.zero_le _) ?_
      exact fin _ j (mm + 1) mm qs qk qv qb qn Z K V P N (-1) fi la [] Sp (pa_make hPA hm2) hPN hPS hsF hk rfl (by unfold njr; rw [if_neg (by omega)]) _ _ hP hD hS ls (lv_sub hl [1, 2, 3, 0] rfl)
set_option maxRecDepth 100000 in
set_option maxHeartbeats 4000000 in
/-- clear() -/
theorem c_pr_clear (l : Launch) (D : va_G) (cI cT cP : ClassId) (a qs qk qv qb qn n : Nat) (Z K V P N : Nat → Int32) (my fr md fi la : Int32) : Cg l y_pr_clear b_pr_clear 1 (none) 0 0 0 D (ty3 cI cT cP) [.ref a] (px cI a qs qk qv qb qn n Z K V P N my fr md fi la) (fun (v : Option Value) (u : Unit) => v = none) (fun u => px cI a qs qk qv qb qn n Z K V P N 0 (-1) 0 (-1) (-1)) := by
  refine cg_enter rfl (Nat.le_of_ble_eq_true rfl) ?_
  intro p e s m below meth c args hx hb hr hlk hml hown hin hts A hA hK hP hD hS ls hl Q hQ
  have hl : lv_has ls 1 [(0, .ref a)] := hl
  have hP : va_P D cls (px cI a qs qk qv qb qn n Z K V P N my fr md fi la) s.heap := hP
  have hD : va_D A (px cI a qs qk qv qb qn n Z K V P N my fr md fi la) := hD
  refine lv_aload_n hx hb d_pr_clear_0 rfl (lv_at hl 0 rfl) ?_
  refine lv_iconst (v := 0) hx hb d_pr_clear_1 (by decide) ?_
  refine va_put (D := D) (ci := 2) (v := .int 0) (ty := .int) (C := R_pr) (T := F_pr) (N := 10) hx hb hts i_pr t_pr t_pr_ok n_pr hown hK hP hD hS 0 rfl rfl 5 (by decide) (hts _ kf_pr_35) (fun _ h9 => h9) rfl (by decide +kernel) rfl rfl (Nat.le_of_ble_eq_true rfl) d_pr_clear_2 (fun H locs hP hD hS => ?_)
  have hP : va_P D cls (px cI a qs qk qv qb qn n Z K V P N 0 fr md fi la) H := hP
  have hD : va_D A (px cI a qs qk qv qb qn n Z K V P N 0 fr md fi la) := hD
  refine lv_aload_n hx hb d_pr_clear_5 rfl (lv_at hl 0 rfl) ?_
  refine lv_iconst (v := (-1)) hx hb d_pr_clear_6 (by decide) ?_
  refine va_put (D := D) (ci := 2) (v := .int (-1)) (ty := .int) (C := R_pr) (T := F_pr) (N := 10) hx hb hts i_pr t_pr t_pr_ok n_pr hown hK hP hD hS 0 rfl rfl 6 (by decide) (hts _ kf_pr_25) (fun _ h9 => h9) rfl (by decide +kernel) rfl rfl (Nat.le_of_ble_eq_true rfl) d_pr_clear_7 (fun H locs hP hD hS => ?_)
  have hP : va_P D cls (px cI a qs qk qv qb qn n Z K V P N 0 (-1) md fi la) H := hP
  have hD : va_D A (px cI a qs qk qv qb qn n Z K V P N 0 (-1) md fi la) := hD
  refine lv_aload_n hx hb d_pr_clear_10 rfl (lv_at hl 0 rfl) ?_
  refine lv_iconst (v := 0) hx hb d_pr_clear_11 (by decide) ?_
  refine va_put (D := D) (ci := 2) (v := .int 0) (ty := .int) (C := R_pr) (T := F_pr) (N := 10) hx hb hts i_pr t_pr t_pr_ok n_pr hown hK hP hD hS 0 rfl rfl 7 (by decide) (hts _ kf_pr_42) (fun _ h9 => h9) rfl (by decide +kernel) rfl rfl (Nat.le_of_ble_eq_true rfl) d_pr_clear_12 (fun H locs hP hD hS => ?_)
  have hP : va_P D cls (px cI a qs qk qv qb qn n Z K V P N 0 (-1) 0 fi la) H := hP
  have hD : va_D A (px cI a qs qk qv qb qn n Z K V P N 0 (-1) 0 fi la) := hD
  refine lv_aload_n hx hb d_pr_clear_15 rfl (lv_at hl 0 rfl) ?_
  refine lv_iconst (v := (-1)) hx hb d_pr_clear_16 (by decide) ?_
  refine va_put (D := D) (ci := 2) (v := .int (-1)) (ty := .int) (C := R_pr) (T := F_pr) (N := 10) hx hb hts i_pr t_pr t_pr_ok n_pr hown hK hP hD hS 0 rfl rfl 8 (by decide) (hts _ kf_pr_29) (fun _ h9 => h9) rfl (by decide +kernel) rfl rfl (Nat.le_of_ble_eq_true rfl) d_pr_clear_17 (fun H locs hP hD hS => ?_)
  have hP : va_P D cls (px cI a qs qk qv qb qn n Z K V P N 0 (-1) 0 (-1) la) H := hP
  have hD : va_D A (px cI a qs qk qv qb qn n Z K V P N 0 (-1) 0 (-1) la) := hD
  refine lv_aload_n hx hb d_pr_clear_20 rfl (lv_at hl 0 rfl) ?_
  refine lv_iconst (v := (-1)) hx hb d_pr_clear_21 (by decide) ?_
  refine va_put (D := D) (ci := 2) (v := .int (-1)) (ty := .int) (C := R_pr) (T := F_pr) (N := 10) hx hb hts i_pr t_pr t_pr_ok n_pr hown hK hP hD hS 0 rfl rfl 9 (by decide) (hts _ kf_pr_32) (fun _ h9 => h9) rfl (by decide +kernel) rfl rfl (Nat.le_of_ble_eq_true rfl) d_pr_clear_22 (fun H locs hP hD hS => ?_)
  have hP : va_P D cls (px cI a qs qk qv qb qn n Z K V P N 0 (-1) 0 (-1) (-1)) H := hP
  have hD : va_D A (px cI a qs qk qv qb qn n Z K V P N 0 (-1) 0 (-1) (-1)) := hD
  exact cg_vret (u := ()) hQ hx hb hr hlk hK hP hD hS rfl d_pr_clear_25
set_option maxRecDepth 100000 in
set_option maxHeartbeats 4000000 in
/-- new Pairs() -/
theorem c_pr_init (l : Launch) (D : va_G) (cI cT cP : ClassId) (a : Nat) : Cg l y_pr_init b_pr_init 1 (none) 1 5 80 D (ty3 cI cT cP) [.ref a] ([(a, .inr (2, [.null, .null, .null, .null, .null, .int 0, .int 0, .int 0, .int 0, .int 0]))]) (fun (v : Option Value) (u : PB) => v = none ∧ PL 0 [] u) (fun u => pw cI a 0 u) := by
  refine cg_enter rfl (Nat.le_of_ble_eq_true rfl) ?_
  intro p e s m below meth c args hx hb hr hlk hml hown hin hts A hA hK hP hD hS ls hl Q hQ
  have hl : lv_has ls 1 [(0, .ref a)] := hl
  have hP : va_P D cls ([(a, .inr (2, [.null, .null, .null, .null, .null, .int 0, .int 0, .int 0, .int 0, .int 0]))]) s.heap := hP
  have hD : va_D A ([(a, .inr (2, [.null, .null, .null, .null, .null, .int 0, .int 0, .int 0, .int 0, .int 0]))]) := hD
  refine lv_aload_n hx hb d_pr_init_0 rfl (lv_at hl 0 rfl) ?_
  refine W.objInit hx hb hown (hts _ km_pr_1) (hts _ ki_jo_init) (hts _ kc_jo_init) rfl (by rw [hml]; exact hl.1) rfl d_pr_init_1 (Nat.le_of_ble_eq_true rfl) (Nat.le_of_ble_eq_true rfl) ?_
  refine lv_aload_n hx hb d_pr_init_4 rfl (lv_at hl 0 rfl) ?_
  refine lv_bipush (v := 16) hx hb d_pr_init_5 (by decide) ?_
  refine wa_new (k := 16) hx hb hts hK hP hD hS hA (by decide) (by decide) (by decide) d_pr_init_7 (fun rs H hP hD hS => ?_)
  have hP : va_P D cls ([(a, .inr (2, [.null, .null, .null, .null, .null, .int 0, .int 0, .int 0, .int 0, .int 0])), (rs, .inl (cI, 16, .inl (fun _ => 0)))]) H := hP
  have hD : va_D A ([(a, .inr (2, [.null, .null, .null, .null, .null, .int 0, .int 0, .int 0, .int 0, .int 0])), (rs, .inl (cI, 16, .inl (fun _ => 0)))]) := hD
  refine va_put (D := D) (ci := 2) (v := .ref rs) (ty := .array .int) (C := R_pr) (T := F_pr) (N := 10) hx hb hts i_pr t_pr t_pr_ok n_pr hown hK hP hD hS 0 rfl rfl 0 (by decide) (hts _ kf_pr_7) (fun _ h9 => h9) rfl (by decide +kernel) rfl rfl (Nat.le_of_ble_eq_true rfl) d_pr_init_9 (fun H locs hP hD hS => ?_)
  have hP : va_P D cls ([(a, .inr (2, [.ref rs, .null, .null, .null, .null, .int 0, .int 0, .int 0, .int 0, .int 0])), (rs, .inl (cI, 16, .inl (fun _ => 0)))]) H := hP
  have hD : va_D A ([(a, .inr (2, [.ref rs, .null, .null, .null, .null, .int 0, .int 0, .int 0, .int 0, .int 0])), (rs, .inl (cI, 16, .inl (fun _ => 0)))]) := hD
  refine lv_aload_n hx hb d_pr_init_12 rfl (lv_at hl 0 rfl) ?_
  refine lv_bipush (v := 16) hx hb d_pr_init_13 (by decide) ?_
  refine wa_new (k := 16) hx hb hts hK hP hD hS hA (by decide) (by decide) (by decide) d_pr_init_15 (fun rk H hP hD hS => ?_)
  have hP : va_P D cls ([(a, .inr (2, [.ref rs, .null, .null, .null, .null, .int 0, .int 0, .int 0, .int 0, .int 0])), (rs, .inl (cI, 16, .inl (fun _ => 0))), (rk, .inl (cI, 16, .inl (fun _ => 0)))]) H := hP
  have hD : va_D A ([(a, .inr (2, [.ref rs, .null, .null, .null, .null, .int 0, .int 0, .int 0, .int 0, .int 0])), (rs, .inl (cI, 16, .inl (fun _ => 0))), (rk, .inl (cI, 16, .inl (fun _ => 0)))]) := hD
  refine va_put (D := D) (ci := 2) (v := .ref rk) (ty := .array .int) (C := R_pr) (T := F_pr) (N := 10) hx hb hts i_pr t_pr t_pr_ok n_pr hown hK hP hD hS 0 rfl rfl 1 (by decide) (hts _ kf_pr_13) (fun _ h9 => h9) rfl (by decide +kernel) rfl rfl (Nat.le_of_ble_eq_true rfl) d_pr_init_17 (fun H locs hP hD hS => ?_)
  have hP : va_P D cls ([(a, .inr (2, [.ref rs, .ref rk, .null, .null, .null, .int 0, .int 0, .int 0, .int 0, .int 0])), (rs, .inl (cI, 16, .inl (fun _ => 0))), (rk, .inl (cI, 16, .inl (fun _ => 0)))]) H := hP
  have hD : va_D A ([(a, .inr (2, [.ref rs, .ref rk, .null, .null, .null, .int 0, .int 0, .int 0, .int 0, .int 0])), (rs, .inl (cI, 16, .inl (fun _ => 0))), (rk, .inl (cI, 16, .inl (fun _ => 0)))]) := hD
  refine lv_aload_n hx hb d_pr_init_20 rfl (lv_at hl 0 rfl) ?_
  refine lv_bipush (v := 16) hx hb d_pr_init_21 (by decide) ?_
  refine wa_new (k := 16) hx hb hts hK hP hD hS hA (by decide) (by decide) (by decide) d_pr_init_23 (fun rv H hP hD hS => ?_)
  have hP : va_P D cls ([(a, .inr (2, [.ref rs, .ref rk, .null, .null, .null, .int 0, .int 0, .int 0, .int 0, .int 0])), (rs, .inl (cI, 16, .inl (fun _ => 0))), (rk, .inl (cI, 16, .inl (fun _ => 0))), (rv, .inl (cI, 16, .inl (fun _ => 0)))]) H := hP
  have hD : va_D A ([(a, .inr (2, [.ref rs, .ref rk, .null, .null, .null, .int 0, .int 0, .int 0, .int 0, .int 0])), (rs, .inl (cI, 16, .inl (fun _ => 0))), (rk, .inl (cI, 16, .inl (fun _ => 0))), (rv, .inl (cI, 16, .inl (fun _ => 0)))]) := hD
  refine va_put (D := D) (ci := 2) (v := .ref rv) (ty := .array .int) (C := R_pr) (T := F_pr) (N := 10) hx hb hts i_pr t_pr t_pr_ok n_pr hown hK hP hD hS 0 rfl rfl 2 (by decide) (hts _ kf_pr_16) (fun _ h9 => h9) rfl (by decide +kernel) rfl rfl (Nat.le_of_ble_eq_true rfl) d_pr_init_25 (fun H locs hP hD hS => ?_)
  have hP : va_P D cls ([(a, .inr (2, [.ref rs, .ref rk, .ref rv, .null, .null, .int 0, .int 0, .int 0, .int 0, .int 0])), (rs, .inl (cI, 16, .inl (fun _ => 0))), (rk, .inl (cI, 16, .inl (fun _ => 0))), (rv, .inl (cI, 16, .inl (fun _ => 0)))]) H := hP
  have hD : va_D A ([(a, .inr (2, [.ref rs, .ref rk, .ref rv, .null, .null, .int 0, .int 0, .int 0, .int 0, .int 0])), (rs, .inl (cI, 16, .inl (fun _ => 0))), (rk, .inl (cI, 16, .inl (fun _ => 0))), (rv, .inl (cI, 16, .inl (fun _ => 0)))]) := hD
  refine lv_aload_n hx hb d_pr_init_28 rfl (lv_at hl 0 rfl) ?_
  refine lv_bipush (v := 16) hx hb d_pr_init_29 (by decide) ?_
  refine wa_new (k := 16) hx hb hts hK hP hD hS hA (by decide) (by decide) (by decide) d_pr_init_31 (fun rb H hP hD hS => ?_)
  have hP : va_P D cls ([(a, .inr (2, [.ref rs, .ref rk, .ref rv, .null, .null, .int 0, .int 0, .int 0, .int 0, .int 0])), (rs, .inl (cI, 16, .inl (fun _ => 0))), (rk, .inl (cI, 16, .inl (fun _ => 0))), (rv, .inl (cI, 16, .inl (fun _ => 0))), (rb, .inl (cI, 16, .inl (fun _ => 0)))]) H := hP
  have hD : va_D A ([(a, .inr (2, [.ref rs, .ref rk, .ref rv, .null, .null, .int 0, .int 0, .int 0, .int 0, .int 0])), (rs, .inl (cI, 16, .inl (fun _ => 0))), (rk, .inl (cI, 16, .inl (fun _ => 0))), (rv, .inl (cI, 16, .inl (fun _ => 0))), (rb, .inl (cI, 16, .inl (fun _ => 0)))]) := hD
  refine va_put (D := D) (ci := 2) (v := .ref rb) (ty := .array .int) (C := R_pr) (T := F_pr) (N := 10) hx hb hts i_pr t_pr t_pr_ok n_pr hown hK hP hD hS 0 rfl rfl 3 (by decide) (hts _ kf_pr_19) (fun _ h9 => h9) rfl (by decide +kernel) rfl rfl (Nat.le_of_ble_eq_true rfl) d_pr_init_33 (fun H locs hP hD hS => ?_)
  have hP : va_P D cls ([(a, .inr (2, [.ref rs, .ref rk, .ref rv, .ref rb, .null, .int 0, .int 0, .int 0, .int 0, .int 0])), (rs, .inl (cI, 16, .inl (fun _ => 0))), (rk, .inl (cI, 16, .inl (fun _ => 0))), (rv, .inl (cI, 16, .inl (fun _ => 0))), (rb, .inl (cI, 16, .inl (fun _ => 0)))]) H := hP
  have hD : va_D A ([(a, .inr (2, [.ref rs, .ref rk, .ref rv, .ref rb, .null, .int 0, .int 0, .int 0, .int 0, .int 0])), (rs, .inl (cI, 16, .inl (fun _ => 0))), (rk, .inl (cI, 16, .inl (fun _ => 0))), (rv, .inl (cI, 16, .inl (fun _ => 0))), (rb, .inl (cI, 16, .inl (fun _ => 0)))]) := hD
  refine lv_aload_n hx hb d_pr_init_36 rfl (lv_at hl 0 rfl) ?_
  refine lv_bipush (v := 16) hx hb d_pr_init_37 (by decide) ?_
  refine wa_new (k := 16) hx hb hts hK hP hD hS hA (by decide) (by decide) (by decide) d_pr_init_39 (fun rn H hP hD hS => ?_)
  have hP : va_P D cls ([(a, .inr (2, [.ref rs, .ref rk, .ref rv, .ref rb, .null, .int 0, .int 0, .int 0, .int 0, .int 0])), (rs, .inl (cI, 16, .inl (fun _ => 0))), (rk, .inl (cI, 16, .inl (fun _ => 0))), (rv, .inl (cI, 16, .inl (fun _ => 0))), (rb, .inl (cI, 16, .inl (fun _ => 0))), (rn, .inl (cI, 16, .inl (fun _ => 0)))]) H := hP
  have hD : va_D A ([(a, .inr (2, [.ref rs, .ref rk, .ref rv, .ref rb, .null, .int 0, .int 0, .int 0, .int 0, .int 0])), (rs, .inl (cI, 16, .inl (fun _ => 0))), (rk, .inl (cI, 16, .inl (fun _ => 0))), (rv, .inl (cI, 16, .inl (fun _ => 0))), (rb, .inl (cI, 16, .inl (fun _ => 0))), (rn, .inl (cI, 16, .inl (fun _ => 0)))]) := hD
  refine va_put (D := D) (ci := 2) (v := .ref rn) (ty := .array .int) (C := R_pr) (T := F_pr) (N := 10) hx hb hts i_pr t_pr t_pr_ok n_pr hown hK hP hD hS 0 rfl rfl 4 (by decide) (hts _ kf_pr_22) (fun _ h9 => h9) rfl (by decide +kernel) rfl rfl (Nat.le_of_ble_eq_true rfl) d_pr_init_41 (fun H locs hP hD hS => ?_)
  have hP : va_P D cls ([(a, .inr (2, [.ref rs, .ref rk, .ref rv, .ref rb, .ref rn, .int 0, .int 0, .int 0, .int 0, .int 0])), (rs, .inl (cI, 16, .inl (fun _ => 0))), (rk, .inl (cI, 16, .inl (fun _ => 0))), (rv, .inl (cI, 16, .inl (fun _ => 0))), (rb, .inl (cI, 16, .inl (fun _ => 0))), (rn, .inl (cI, 16, .inl (fun _ => 0)))]) H := hP
  have hD : va_D A ([(a, .inr (2, [.ref rs, .ref rk, .ref rv, .ref rb, .ref rn, .int 0, .int 0, .int 0, .int 0, .int 0])), (rs, .inl (cI, 16, .inl (fun _ => 0))), (rk, .inl (cI, 16, .inl (fun _ => 0))), (rv, .inl (cI, 16, .inl (fun _ => 0))), (rb, .inl (cI, 16, .inl (fun _ => 0))), (rn, .inl (cI, 16, .inl (fun _ => 0)))]) := hD
  refine lv_aload_n hx hb d_pr_init_44 rfl (lv_at hl 0 rfl) ?_
  refine lv_iconst (v := (-1)) hx hb d_pr_init_45 (by decide) ?_
  refine va_put (D := D) (ci := 2) (v := .int (-1)) (ty := .int) (C := R_pr) (T := F_pr) (N := 10) hx hb hts i_pr t_pr t_pr_ok n_pr hown hK hP hD hS 0 rfl rfl 6 (by decide) (hts _ kf_pr_25) (fun _ h9 => h9) rfl (by decide +kernel) rfl rfl (Nat.le_of_ble_eq_true rfl) d_pr_init_46 (fun H locs hP hD hS => ?_)
  have hP : va_P D cls ([(a, .inr (2, [.ref rs, .ref rk, .ref rv, .ref rb, .ref rn, .int 0, .int (-1), .int 0, .int 0, .int 0])), (rs, .inl (cI, 16, .inl (fun _ => 0))), (rk, .inl (cI, 16, .inl (fun _ => 0))), (rv, .inl (cI, 16, .inl (fun _ => 0))), (rb, .inl (cI, 16, .inl (fun _ => 0))), (rn, .inl (cI, 16, .inl (fun _ => 0)))]) H := hP
  have hD : va_D A ([(a, .inr (2, [.ref rs, .ref rk, .ref rv, .ref rb, .ref rn, .int 0, .int (-1), .int 0, .int 0, .int 0])), (rs, .inl (cI, 16, .inl (fun _ => 0))), (rk, .inl (cI, 16, .inl (fun _ => 0))), (rv, .inl (cI, 16, .inl (fun _ => 0))), (rb, .inl (cI, 16, .inl (fun _ => 0))), (rn, .inl (cI, 16, .inl (fun _ => 0)))]) := hD
  refine lv_aload_n hx hb d_pr_init_49 rfl (lv_at hl 0 rfl) ?_
  refine lv_iconst (v := (-1)) hx hb d_pr_init_50 (by decide) ?_
  refine va_put (D := D) (ci := 2) (v := .int (-1)) (ty := .int) (C := R_pr) (T := F_pr) (N := 10) hx hb hts i_pr t_pr t_pr_ok n_pr hown hK hP hD hS 0 rfl rfl 8 (by decide) (hts _ kf_pr_29) (fun _ h9 => h9) rfl (by decide +kernel) rfl rfl (Nat.le_of_ble_eq_true rfl) d_pr_init_51 (fun H locs hP hD hS => ?_)
  have hP : va_P D cls ([(a, .inr (2, [.ref rs, .ref rk, .ref rv, .ref rb, .ref rn, .int 0, .int (-1), .int 0, .int (-1), .int 0])), (rs, .inl (cI, 16, .inl (fun _ => 0))), (rk, .inl (cI, 16, .inl (fun _ => 0))), (rv, .inl (cI, 16, .inl (fun _ => 0))), (rb, .inl (cI, 16, .inl (fun _ => 0))), (rn, .inl (cI, 16, .inl (fun _ => 0)))]) H := hP
  have hD : va_D A ([(a, .inr (2, [.ref rs, .ref rk, .ref rv, .ref rb, .ref rn, .int 0, .int (-1), .int 0, .int (-1), .int 0])), (rs, .inl (cI, 16, .inl (fun _ => 0))), (rk, .inl (cI, 16, .inl (fun _ => 0))), (rv, .inl (cI, 16, .inl (fun _ => 0))), (rb, .inl (cI, 16, .inl (fun _ => 0))), (rn, .inl (cI, 16, .inl (fun _ => 0)))]) := hD
  refine lv_aload_n hx hb d_pr_init_54 rfl (lv_at hl 0 rfl) ?_
  refine lv_iconst (v := (-1)) hx hb d_pr_init_55 (by decide) ?_
  refine va_put (D := D) (ci := 2) (v := .int (-1)) (ty := .int) (C := R_pr) (T := F_pr) (N := 10) hx hb hts i_pr t_pr t_pr_ok n_pr hown hK hP hD hS 0 rfl rfl 9 (by decide) (hts _ kf_pr_32) (fun _ h9 => h9) rfl (by decide +kernel) rfl rfl (Nat.le_of_ble_eq_true rfl) d_pr_init_56 (fun H locs hP hD hS => ?_)
  have hP : va_P D cls ([(a, .inr (2, [.ref rs, .ref rk, .ref rv, .ref rb, .ref rn, .int 0, .int (-1), .int 0, .int (-1), .int (-1)])), (rs, .inl (cI, 16, .inl (fun _ => 0))), (rk, .inl (cI, 16, .inl (fun _ => 0))), (rv, .inl (cI, 16, .inl (fun _ => 0))), (rb, .inl (cI, 16, .inl (fun _ => 0))), (rn, .inl (cI, 16, .inl (fun _ => 0)))]) H := hP
  have hD : va_D A ([(a, .inr (2, [.ref rs, .ref rk, .ref rv, .ref rb, .ref rn, .int 0, .int (-1), .int 0, .int (-1), .int (-1)])), (rs, .inl (cI, 16, .inl (fun _ => 0))), (rk, .inl (cI, 16, .inl (fun _ => 0))), (rv, .inl (cI, 16, .inl (fun _ => 0))), (rb, .inl (cI, 16, .inl (fun _ => 0))), (rn, .inl (cI, 16, .inl (fun _ => 0)))]) := hD
  have hP : va_P D cls ([(a, .inr (2, [.ref rs, .ref rk, .ref rv, .ref rb, .ref rn, .int 0, .int (-1), .int 0, .int (-1), .int (-1)])), (rs, .inl (cI, 16, .inl (fun _ => 0))), (rk, .inl (cI, 16, .inl (fun _ => 0))), (rv, .inl (cI, 16, .inl (fun _ => 0))), (rb, .inl (cI, 16, .inl (fun _ => 0))), (rn, .inl (cI, 16, .inl (fun _ => 0)))]) H := hP.sub [0, 1, 2, 3, 4, 5] rfl
  have hD : va_D A ([(a, .inr (2, [.ref rs, .ref rk, .ref rv, .ref rb, .ref rn, .int 0, .int (-1), .int 0, .int (-1), .int (-1)])), (rs, .inl (cI, 16, .inl (fun _ => 0))), (rk, .inl (cI, 16, .inl (fun _ => 0))), (rv, .inl (cI, 16, .inl (fun _ => 0))), (rb, .inl (cI, 16, .inl (fun _ => 0))), (rn, .inl (cI, 16, .inl (fun _ => 0)))]) := hD.sub [0, 1, 2, 3, 4, 5] (by decide) rfl
  exact cg_vret (u := (rs, rk, rv, rb, rn, (fun _ => 0), (fun _ => 0), (fun _ => 0), (fun _ => 0), (fun _ => 0), -1, 0, -1, -1, [])) hQ hx hb hr hlk hK hP hD hS (⟨rfl, [], [], ⟨⟨rfl, by decide⟩, by show 0 ≤ 2 ^ (4 + 0); decide, by simp, fun x => by simp, rfl⟩, ⟨rfl, rfl⟩, ⟨List.Perm.refl _, List.Pairwise.nil, fun i hi => absurd hi (Nat.not_lt_zero _)⟩, rfl, rfl⟩) d_pr_init_59
end
