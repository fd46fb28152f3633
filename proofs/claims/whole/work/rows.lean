section
-- ===== PART A: goes FIRST, ahead of the names: the tables' words, and 'selects' of the private methods out of them =====
/-- a private method of a class that the tables say can be made, by its rows of tables_1 -/
def lw_okq (q : MethodName × Nat) : Prop := (q.1.cls ≠ "java/lang/invoke/MethodHandle" ∧ q.1.cls ≠ "java/lang/invoke/VarHandle") ∧ Cond.instantiable q.1.cls q.2 ∈ tables_1 ∧ Cond.privateMethod q.1 ∈ tables_1 ∧ Cond.instanceMethod q.1 ∈ tables_1
theorem lw_p0 : lw_okq (⟨"PageVault", "leastUnused", "()I"⟩, 4) := ⟨⟨by decide +kernel, by decide +kernel⟩, List.mem_of_getElem? (i := 9) (by decide +kernel), List.mem_of_getElem? (i := 76) (by decide +kernel), List.mem_of_getElem? (i := 77) (by decide +kernel)⟩
theorem lw_p1 : lw_okq (⟨"PageVault", "find", "(I)LPageVault$Space;"⟩, 4) := ⟨⟨by decide +kernel, by decide +kernel⟩, List.mem_of_getElem? (i := 9) (by decide +kernel), List.mem_of_getElem? (i := 103) (by decide +kernel), List.mem_of_getElem? (i := 104) (by decide +kernel)⟩
theorem lw_p2 : lw_okq (⟨"PageVault$Space", "removePagesFrom", "(I)V"⟩, 3) := ⟨⟨by decide +kernel, by decide +kernel⟩, List.mem_of_getElem? (i := 43) (by decide +kernel), List.mem_of_getElem? (i := 111) (by decide +kernel), List.mem_of_getElem? (i := 112) (by decide +kernel)⟩
theorem lw_p3 : lw_okq (⟨"PageVault$Space", "tableOf", "(I)I"⟩, 3) := ⟨⟨by decide +kernel, by decide +kernel⟩, List.mem_of_getElem? (i := 43) (by decide +kernel), List.mem_of_getElem? (i := 115) (by decide +kernel), List.mem_of_getElem? (i := 116) (by decide +kernel)⟩
theorem lw_p4 : lw_okq (⟨"PageVault$Frames", "isFrame", "(I)Z"⟩, 3) := ⟨⟨by decide +kernel, by decide +kernel⟩, List.mem_of_getElem? (i := 17) (by decide +kernel), List.mem_of_getElem? (i := 130) (by decide +kernel), List.mem_of_getElem? (i := 131) (by decide +kernel)⟩
theorem lw_p5 : lw_okq (⟨"PageVault$Space", "hasPageIn", "(I)Z"⟩, 3) := ⟨⟨by decide +kernel, by decide +kernel⟩, List.mem_of_getElem? (i := 43) (by decide +kernel), List.mem_of_getElem? (i := 146) (by decide +kernel), List.mem_of_getElem? (i := 147) (by decide +kernel)⟩
theorem lw_p6 : lw_okq (⟨"PageVault$Space", "shareRegion", "(LPageVault$Space;I)V"⟩, 3) := ⟨⟨by decide +kernel, by decide +kernel⟩, List.mem_of_getElem? (i := 43) (by decide +kernel), List.mem_of_getElem? (i := 155) (by decide +kernel), List.mem_of_getElem? (i := 156) (by decide +kernel)⟩
theorem lw_p7 : lw_okq (⟨"PageVault$Space", "addTable", "(I)I"⟩, 3) := ⟨⟨by decide +kernel, by decide +kernel⟩, List.mem_of_getElem? (i := 43) (by decide +kernel), List.mem_of_getElem? (i := 159) (by decide +kernel), List.mem_of_getElem? (i := 160) (by decide +kernel)⟩
theorem lw_p8 : lw_okq (⟨"PageVault", "number", "(IIII)I"⟩, 4) := ⟨⟨by decide +kernel, by decide +kernel⟩, List.mem_of_getElem? (i := 9) (by decide +kernel), List.mem_of_getElem? (i := 239) (by decide +kernel), List.mem_of_getElem? (i := 240) (by decide +kernel)⟩
theorem lw_p9 : lw_okq (⟨"PageVault", "trapped", "(I)I"⟩, 4) := ⟨⟨by decide +kernel, by decide +kernel⟩, List.mem_of_getElem? (i := 9) (by decide +kernel), List.mem_of_getElem? (i := 246) (by decide +kernel), List.mem_of_getElem? (i := 247) (by decide +kernel)⟩
theorem lw_p10 : lw_okq (⟨"PageVault", "touch", "(LPageVault$Space;II)I"⟩, 4) := ⟨⟨by decide +kernel, by decide +kernel⟩, List.mem_of_getElem? (i := 9) (by decide +kernel), List.mem_of_getElem? (i := 250) (by decide +kernel), List.mem_of_getElem? (i := 251) (by decide +kernel)⟩
theorem lw_p11 : lw_okq (⟨"PageVault", "touchAbsent", "(LPageVault$Space;II)I"⟩, 4) := ⟨⟨by decide +kernel, by decide +kernel⟩, List.mem_of_getElem? (i := 9) (by decide +kernel), List.mem_of_getElem? (i := 254) (by decide +kernel), List.mem_of_getElem? (i := 255) (by decide +kernel)⟩
theorem lw_p12 : lw_okq (⟨"PageVault", "frameOrFull", "(I)I"⟩, 4) := ⟨⟨by decide +kernel, by decide +kernel⟩, List.mem_of_getElem? (i := 9) (by decide +kernel), List.mem_of_getElem? (i := 258) (by decide +kernel), List.mem_of_getElem? (i := 259) (by decide +kernel)⟩
theorem lw_p13 : lw_okq (⟨"PageVault", "write", "(LPageVault$Space;III)Z"⟩, 4) := ⟨⟨by decide +kernel, by decide +kernel⟩, List.mem_of_getElem? (i := 9) (by decide +kernel), List.mem_of_getElem? (i := 297) (by decide +kernel), List.mem_of_getElem? (i := 298) (by decide +kernel)⟩
theorem lw_p14 : lw_okq (⟨"PageVault", "readByte", "(LPageVault$Space;I)I"⟩, 4) := ⟨⟨by decide +kernel, by decide +kernel⟩, List.mem_of_getElem? (i := 9) (by decide +kernel), List.mem_of_getElem? (i := 318) (by decide +kernel), List.mem_of_getElem? (i := 319) (by decide +kernel)⟩
theorem lw_p15 : lw_okq (⟨"PageVault", "entryIn", "(II)I"⟩, 4) := ⟨⟨by decide +kernel, by decide +kernel⟩, List.mem_of_getElem? (i := 9) (by decide +kernel), List.mem_of_getElem? (i := 342) (by decide +kernel), List.mem_of_getElem? (i := 343) (by decide +kernel)⟩
def lw_privs_1 : List (MethodName × Nat) := [(⟨"PageVault", "leastUnused", "()I"⟩, 4), (⟨"PageVault", "find", "(I)LPageVault$Space;"⟩, 4), (⟨"PageVault$Space", "removePagesFrom", "(I)V"⟩, 3), (⟨"PageVault$Space", "tableOf", "(I)I"⟩, 3), (⟨"PageVault$Frames", "isFrame", "(I)Z"⟩, 3), (⟨"PageVault$Space", "hasPageIn", "(I)Z"⟩, 3), (⟨"PageVault$Space", "shareRegion", "(LPageVault$Space;I)V"⟩, 3), (⟨"PageVault$Space", "addTable", "(I)I"⟩, 3), (⟨"PageVault", "number", "(IIII)I"⟩, 4), (⟨"PageVault", "trapped", "(I)I"⟩, 4), (⟨"PageVault", "touch", "(LPageVault$Space;II)I"⟩, 4), (⟨"PageVault", "touchAbsent", "(LPageVault$Space;II)I"⟩, 4), (⟨"PageVault", "frameOrFull", "(I)I"⟩, 4), (⟨"PageVault", "write", "(LPageVault$Space;III)Z"⟩, 4), (⟨"PageVault", "readByte", "(LPageVault$Space;I)I"⟩, 4), (⟨"PageVault", "entryIn", "(II)I"⟩, 4)]
theorem lw_r1 : ∀ q ∈ lw_privs_1, lw_okq q := List.forall_mem_cons.mpr ⟨lw_p0, List.forall_mem_cons.mpr ⟨lw_p1, List.forall_mem_cons.mpr ⟨lw_p2, List.forall_mem_cons.mpr ⟨lw_p3, List.forall_mem_cons.mpr ⟨lw_p4, List.forall_mem_cons.mpr ⟨lw_p5, List.forall_mem_cons.mpr ⟨lw_p6, List.forall_mem_cons.mpr ⟨lw_p7, List.forall_mem_cons.mpr ⟨lw_p8, List.forall_mem_cons.mpr ⟨lw_p9, List.forall_mem_cons.mpr ⟨lw_p10, List.forall_mem_cons.mpr ⟨lw_p11, List.forall_mem_cons.mpr ⟨lw_p12, List.forall_mem_cons.mpr ⟨lw_p13, List.forall_mem_cons.mpr ⟨lw_p14, List.forall_mem_cons.mpr ⟨lw_p15, fun _ h => absurd h List.not_mem_nil⟩⟩⟩⟩⟩⟩⟩⟩⟩⟩⟩⟩⟩⟩⟩⟩
theorem lw_p16 : lw_okq (⟨"PageVaultModel", "unused", "()I"⟩, 19) := ⟨⟨by decide +kernel, by decide +kernel⟩, List.mem_of_getElem? (i := 354) (by decide +kernel), List.mem_of_getElem? (i := 423) (by decide +kernel), List.mem_of_getElem? (i := 424) (by decide +kernel)⟩
theorem lw_p17 : lw_okq (⟨"PageVaultModel", "freeFrames", "()I"⟩, 19) := ⟨⟨by decide +kernel, by decide +kernel⟩, List.mem_of_getElem? (i := 354) (by decide +kernel), List.mem_of_getElem? (i := 427) (by decide +kernel), List.mem_of_getElem? (i := 428) (by decide +kernel)⟩
theorem lw_p18 : lw_okq (⟨"PageVaultModel", "firstOfKin", "(I)Z"⟩, 19) := ⟨⟨by decide +kernel, by decide +kernel⟩, List.mem_of_getElem? (i := 354) (by decide +kernel), List.mem_of_getElem? (i := 431) (by decide +kernel), List.mem_of_getElem? (i := 432) (by decide +kernel)⟩
theorem lw_p19 : lw_okq (⟨"PageVaultModel", "lives", "(I)Z"⟩, 19) := ⟨⟨by decide +kernel, by decide +kernel⟩, List.mem_of_getElem? (i := 354) (by decide +kernel), List.mem_of_getElem? (i := 439) (by decide +kernel), List.mem_of_getElem? (i := 440) (by decide +kernel)⟩
theorem lw_p20 : lw_okq (⟨"PageVaultModel", "removePages", "(II)V"⟩, 19) := ⟨⟨by decide +kernel, by decide +kernel⟩, List.mem_of_getElem? (i := 354) (by decide +kernel), List.mem_of_getElem? (i := 443) (by decide +kernel), List.mem_of_getElem? (i := 444) (by decide +kernel)⟩
theorem lw_p21 : lw_okq (⟨"PageVaultModel", "removeRegions", "(I)V"⟩, 19) := ⟨⟨by decide +kernel, by decide +kernel⟩, List.mem_of_getElem? (i := 354) (by decide +kernel), List.mem_of_getElem? (i := 447) (by decide +kernel), List.mem_of_getElem? (i := 448) (by decide +kernel)⟩
theorem lw_p22 : lw_okq (⟨"PageVaultModel", "peopled", "(I)I"⟩, 19) := ⟨⟨by decide +kernel, by decide +kernel⟩, List.mem_of_getElem? (i := 354) (by decide +kernel), List.mem_of_getElem? (i := 455) (by decide +kernel), List.mem_of_getElem? (i := 456) (by decide +kernel)⟩
theorem lw_p23 : lw_okq (⟨"PageVaultModel", "add", "(IIII)V"⟩, 19) := ⟨⟨by decide +kernel, by decide +kernel⟩, List.mem_of_getElem? (i := 354) (by decide +kernel), List.mem_of_getElem? (i := 459) (by decide +kernel), List.mem_of_getElem? (i := 460) (by decide +kernel)⟩
theorem lw_p24 : lw_okq (⟨"PageVaultModel", "hasRegion", "(II)Z"⟩, 19) := ⟨⟨by decide +kernel, by decide +kernel⟩, List.mem_of_getElem? (i := 354) (by decide +kernel), List.mem_of_getElem? (i := 463) (by decide +kernel), List.mem_of_getElem? (i := 464) (by decide +kernel)⟩
theorem lw_p25 : lw_okq (⟨"PageVaultModel", "note", "(IIIII)V"⟩, 19) := ⟨⟨by decide +kernel, by decide +kernel⟩, List.mem_of_getElem? (i := 354) (by decide +kernel), List.mem_of_getElem? (i := 467) (by decide +kernel), List.mem_of_getElem? (i := 468) (by decide +kernel)⟩
theorem lw_p26 : lw_okq (⟨"PageVaultModel", "row", "(II)I"⟩, 19) := ⟨⟨by decide +kernel, by decide +kernel⟩, List.mem_of_getElem? (i := 354) (by decide +kernel), List.mem_of_getElem? (i := 476) (by decide +kernel), List.mem_of_getElem? (i := 477) (by decide +kernel)⟩
theorem lw_p27 : lw_okq (⟨"PageVaultModel", "room", "(II)Z"⟩, 19) := ⟨⟨by decide +kernel, by decide +kernel⟩, List.mem_of_getElem? (i := 354) (by decide +kernel), List.mem_of_getElem? (i := 480) (by decide +kernel), List.mem_of_getElem? (i := 481) (by decide +kernel)⟩
theorem lw_p28 : lw_okq (⟨"PageVaultModel", "addEmpty", "(III)V"⟩, 19) := ⟨⟨by decide +kernel, by decide +kernel⟩, List.mem_of_getElem? (i := 354) (by decide +kernel), List.mem_of_getElem? (i := 484) (by decide +kernel), List.mem_of_getElem? (i := 485) (by decide +kernel)⟩
theorem lw_p29 : lw_okq (⟨"PageVaultModel", "aimed", "(IIII)Z"⟩, 19) := ⟨⟨by decide +kernel, by decide +kernel⟩, List.mem_of_getElem? (i := 354) (by decide +kernel), List.mem_of_getElem? (i := 505) (by decide +kernel), List.mem_of_getElem? (i := 506) (by decide +kernel)⟩
theorem lw_p30 : lw_okq (⟨"PageVaultModel", "touch", "(III)I"⟩, 19) := ⟨⟨by decide +kernel, by decide +kernel⟩, List.mem_of_getElem? (i := 354) (by decide +kernel), List.mem_of_getElem? (i := 509) (by decide +kernel), List.mem_of_getElem? (i := 510) (by decide +kernel)⟩
theorem lw_p31 : lw_okq (⟨"PageVaultModel", "sharers", "(I)I"⟩, 19) := ⟨⟨by decide +kernel, by decide +kernel⟩, List.mem_of_getElem? (i := 354) (by decide +kernel), List.mem_of_getElem? (i := 513) (by decide +kernel), List.mem_of_getElem? (i := 514) (by decide +kernel)⟩
def lw_privs_2 : List (MethodName × Nat) := [(⟨"PageVaultModel", "unused", "()I"⟩, 19), (⟨"PageVaultModel", "freeFrames", "()I"⟩, 19), (⟨"PageVaultModel", "firstOfKin", "(I)Z"⟩, 19), (⟨"PageVaultModel", "lives", "(I)Z"⟩, 19), (⟨"PageVaultModel", "removePages", "(II)V"⟩, 19), (⟨"PageVaultModel", "removeRegions", "(I)V"⟩, 19), (⟨"PageVaultModel", "peopled", "(I)I"⟩, 19), (⟨"PageVaultModel", "add", "(IIII)V"⟩, 19), (⟨"PageVaultModel", "hasRegion", "(II)Z"⟩, 19), (⟨"PageVaultModel", "note", "(IIIII)V"⟩, 19), (⟨"PageVaultModel", "row", "(II)I"⟩, 19), (⟨"PageVaultModel", "room", "(II)Z"⟩, 19), (⟨"PageVaultModel", "addEmpty", "(III)V"⟩, 19), (⟨"PageVaultModel", "aimed", "(IIII)Z"⟩, 19), (⟨"PageVaultModel", "touch", "(III)I"⟩, 19), (⟨"PageVaultModel", "sharers", "(I)I"⟩, 19)]
theorem lw_r2 : ∀ q ∈ lw_privs_2, lw_okq q := List.forall_mem_cons.mpr ⟨lw_p16, List.forall_mem_cons.mpr ⟨lw_p17, List.forall_mem_cons.mpr ⟨lw_p18, List.forall_mem_cons.mpr ⟨lw_p19, List.forall_mem_cons.mpr ⟨lw_p20, List.forall_mem_cons.mpr ⟨lw_p21, List.forall_mem_cons.mpr ⟨lw_p22, List.forall_mem_cons.mpr ⟨lw_p23, List.forall_mem_cons.mpr ⟨lw_p24, List.forall_mem_cons.mpr ⟨lw_p25, List.forall_mem_cons.mpr ⟨lw_p26, List.forall_mem_cons.mpr ⟨lw_p27, List.forall_mem_cons.mpr ⟨lw_p28, List.forall_mem_cons.mpr ⟨lw_p29, List.forall_mem_cons.mpr ⟨lw_p30, List.forall_mem_cons.mpr ⟨lw_p31, fun _ h => absurd h List.not_mem_nil⟩⟩⟩⟩⟩⟩⟩⟩⟩⟩⟩⟩⟩⟩⟩⟩
theorem lw_p32 : lw_okq (⟨"PageVaultModel", "number", "(III)I"⟩, 19) := ⟨⟨by decide +kernel, by decide +kernel⟩, List.mem_of_getElem? (i := 354) (by decide +kernel), List.mem_of_getElem? (i := 517) (by decide +kernel), List.mem_of_getElem? (i := 518) (by decide +kernel)⟩
theorem lw_p33 : lw_okq (⟨"PageVaultModel", "byteOf", "(II)I"⟩, 19) := ⟨⟨by decide +kernel, by decide +kernel⟩, List.mem_of_getElem? (i := 354) (by decide +kernel), List.mem_of_getElem? (i := 521) (by decide +kernel), List.mem_of_getElem? (i := 522) (by decide +kernel)⟩
theorem lw_p34 : lw_okq (⟨"PageVaultModel", "walk", "(IIII)I"⟩, 19) := ⟨⟨by decide +kernel, by decide +kernel⟩, List.mem_of_getElem? (i := 354) (by decide +kernel), List.mem_of_getElem? (i := 541) (by decide +kernel), List.mem_of_getElem? (i := 542) (by decide +kernel)⟩
theorem lw_p35 : lw_okq (⟨"PageVaultModel", "came", "(III)V"⟩, 19) := ⟨⟨by decide +kernel, by decide +kernel⟩, List.mem_of_getElem? (i := 354) (by decide +kernel), List.mem_of_getElem? (i := 549) (by decide +kernel), List.mem_of_getElem? (i := 550) (by decide +kernel)⟩
def lw_privs_3 : List (MethodName × Nat) := [(⟨"PageVaultModel", "number", "(III)I"⟩, 19), (⟨"PageVaultModel", "byteOf", "(II)I"⟩, 19), (⟨"PageVaultModel", "walk", "(IIII)I"⟩, 19), (⟨"PageVaultModel", "came", "(III)V"⟩, 19)]
theorem lw_r3 : ∀ q ∈ lw_privs_3, lw_okq q := List.forall_mem_cons.mpr ⟨lw_p32, List.forall_mem_cons.mpr ⟨lw_p33, List.forall_mem_cons.mpr ⟨lw_p34, List.forall_mem_cons.mpr ⟨lw_p35, fun _ h => absurd h List.not_mem_nil⟩⟩⟩⟩
def lw_privs : List (MethodName × Nat) := lw_privs_1 ++ (lw_privs_2 ++ (lw_privs_3))
def lw_tbl : List Cond := k2_sels lw_privs ++ tables_1
theorem lw_privs_ok : ∀ q ∈ lw_privs, lw_okq q := by
  show ∀ q ∈ lw_privs_1 ++ (lw_privs_2 ++ (lw_privs_3)), lw_okq q
  exact List.forall_mem_append.mpr ⟨lw_r1, List.forall_mem_append.mpr ⟨lw_r2, lw_r3⟩⟩
end
section
def F_V : u_T := fun k => match k with
  | 0 => ("PageVault", "frames", "LPageVault$Frames;", true)
  | 1 => ("PageVault", "spaces", "[LPageVault$Space;", true)
  | 2 => ("PageVault", "buffer", "[I", true)
  | _ => ("PageVault", "latestTrap", "I", false)
def t_V : Nat → FieldType := fun k => match k with
  | 0 => .object "PageVault$Frames"
  | 1 => .array (.object "PageVault$Space")
  | 2 => .array (.int)
  | _ => .int
theorem n_V : ∀ a, a < 4 → ∀ b, b < 4 → a ≠ b → (F_V a).2.1 ≠ (F_V b).2.1 := by decide +kernel
theorem tok_V : ∀ k, k < 4 → parseFieldDescriptor (F_V k).2.2.1 = some (t_V k) := by decide +kernel
def F_F : u_T := fun k => match k with
  | 0 => ("PageVault$Frames", "words", "[[I", true)
  | 1 => ("PageVault$Frames", "holders", "[I", true)
  | _ => ("PageVault$Frames", "spare", "I", false)
def t_F : Nat → FieldType := fun k => match k with
  | 0 => .array (.array (.int))
  | 1 => .array (.int)
  | _ => .int
theorem n_F : ∀ a, a < 3 → ∀ b, b < 3 → a ≠ b → (F_F a).2.1 ≠ (F_F b).2.1 := by decide +kernel
theorem tok_F : ∀ k, k < 3 → parseFieldDescriptor (F_F k).2.2.1 = some (t_F k) := by decide +kernel
def F_S : u_T := fun k => match k with
  | 0 => ("PageVault$Space", "frames", "LPageVault$Frames;", true)
  | 1 => ("PageVault$Space", "root", "I", false)
  | _ => ("PageVault$Space", "length", "I", false)
def t_S : Nat → FieldType := fun k => match k with
  | 0 => .object "PageVault$Frames"
  | 1 => .int
  | _ => .int
theorem n_S : ∀ a, a < 3 → ∀ b, b < 3 → a ≠ b → (F_S a).2.1 ≠ (F_S b).2.1 := by decide +kernel
theorem tok_S : ∀ k, k < 3 → parseFieldDescriptor (F_S k).2.2.1 = some (t_S k) := by decide +kernel
def F_M : u_T := fun k => match k with
  | 0 => ("PageVaultModel", "frames", "I", false)
  | 1 => ("PageVaultModel", "lastTrap", "I", false)
  | 2 => ("PageVaultModel", "alive", "[Z", true)
  | 3 => ("PageVaultModel", "ends", "[I", true)
  | 4 => ("PageVaultModel", "pageSpace", "[I", true)
  | 5 => ("PageVaultModel", "pageNumber", "[I", true)
  | 6 => ("PageVaultModel", "pageFlags", "[I", true)
  | 7 => ("PageVaultModel", "pageKin", "[I", true)
  | 8 => ("PageVaultModel", "pages", "I", false)
  | 9 => ("PageVaultModel", "kins", "I", false)
  | 10 => ("PageVaultModel", "regionSpace", "[I", true)
  | 11 => ("PageVaultModel", "regionNumber", "[I", true)
  | 12 => ("PageVaultModel", "regions", "I", false)
  | 13 => ("PageVaultModel", "deed", "[I", true)
  | 14 => ("PageVaultModel", "who", "[I", true)
  | 15 => ("PageVaultModel", "where", "[I", true)
  | 16 => ("PageVaultModel", "much", "[I", true)
  | 17 => ("PageVaultModel", "what", "[I", true)
  | _ => ("PageVaultModel", "deeds", "I", false)
def t_M : Nat → FieldType := fun k => match k with
  | 0 => .int
  | 1 => .int
  | 2 => .array (.boolean)
  | 3 => .array (.int)
  | 4 => .array (.int)
  | 5 => .array (.int)
  | 6 => .array (.int)
  | 7 => .array (.int)
  | 8 => .int
  | 9 => .int
  | 10 => .array (.int)
  | 11 => .array (.int)
  | 12 => .int
  | 13 => .array (.int)
  | 14 => .array (.int)
  | 15 => .array (.int)
  | 16 => .array (.int)
  | 17 => .array (.int)
  | _ => .int
theorem n_M : ∀ a, a < 19 → ∀ b, b < 19 → a ≠ b → (F_M a).2.1 ≠ (F_M b).2.1 := by decide +kernel
theorem tok_M : ∀ k, k < 19 → parseFieldDescriptor (F_M k).2.2.1 = some (t_M k) := by decide +kernel
abbrev classes : List vw_C := [("PageVault", F_V, 4), ("PageVault$Frames", F_F, 3), ("PageVault$Space", F_S, 3), ("PageVaultModel", F_M, 19)]
abbrev b_V_init : ByteArray := prog_1_method_1_code
def y_V_init : MethodName := ⟨"PageVault", "<init>", "(I)V"⟩
abbrev b_V_make : ByteArray := prog_1_method_2_code
def y_V_make : MethodName := ⟨"PageVault", "make", "()I"⟩
abbrev b_V_drop : ByteArray := prog_1_method_3_code
def y_V_drop : MethodName := ⟨"PageVault", "drop", "(I)Z"⟩
abbrev b_V_fork : ByteArray := prog_1_method_4_code
def y_V_fork : MethodName := ⟨"PageVault", "fork", "(I)I"⟩
abbrev b_V_map : ByteArray := prog_1_method_5_code
def y_V_map : MethodName := ⟨"PageVault", "map", "(III)I"⟩
abbrev b_V_protect : ByteArray := prog_1_method_6_code
def y_V_protect : MethodName := ⟨"PageVault", "protect", "(III)Z"⟩
abbrev b_V_grow : ByteArray := prog_1_method_7_code
def y_V_grow : MethodName := ⟨"PageVault", "grow", "(II)I"⟩
abbrev b_V_size : ByteArray := prog_1_method_8_code
def y_V_size : MethodName := ⟨"PageVault", "size", "(I)I"⟩
abbrev b_V_load : ByteArray := prog_1_method_9_code
def y_V_load : MethodName := ⟨"PageVault", "load", "(III)I"⟩
abbrev b_V_fetch : ByteArray := prog_1_method_10_code
def y_V_fetch : MethodName := ⟨"PageVault", "fetch", "(II)I"⟩
abbrev b_V_store : ByteArray := prog_1_method_11_code
def y_V_store : MethodName := ⟨"PageVault", "store", "(IIII)Z"⟩
abbrev b_V_trap : ByteArray := prog_1_method_12_code
def y_V_trap : MethodName := ⟨"PageVault", "trap", "()I"⟩
abbrev b_V_out : ByteArray := prog_1_method_13_code
def y_V_out : MethodName := ⟨"PageVault", "out", "(III)I"⟩
abbrev b_V_in : ByteArray := prog_1_method_14_code
def y_V_in : MethodName := ⟨"PageVault", "in", "(III)I"⟩
abbrev b_V_text : ByteArray := prog_1_method_15_code
def y_V_text : MethodName := ⟨"PageVault", "text", "(III)I"⟩
abbrev b_V_put : ByteArray := prog_1_method_16_code
def y_V_put : MethodName := ⟨"PageVault", "put", "(II)Z"⟩
abbrev b_V_at : ByteArray := prog_1_method_17_code
def y_V_at : MethodName := ⟨"PageVault", "at", "(I)I"⟩
abbrev b_V_free : ByteArray := prog_1_method_18_code
def y_V_free : MethodName := ⟨"PageVault", "free", "()I"⟩
abbrev b_V_flags : ByteArray := prog_1_method_19_code
def y_V_flags : MethodName := ⟨"PageVault", "flags", "(II)I"⟩
abbrev b_V_owners : ByteArray := prog_1_method_20_code
def y_V_owners : MethodName := ⟨"PageVault", "owners", "(II)I"⟩
abbrev b_V_find : ByteArray := prog_1_method_21_code
def y_V_find : MethodName := ⟨"PageVault", "find", "(I)LPageVault$Space;"⟩
abbrev b_V_leastUnused : ByteArray := prog_1_method_22_code
def y_V_leastUnused : MethodName := ⟨"PageVault", "leastUnused", "()I"⟩
abbrev b_V_entryIn : ByteArray := prog_1_method_23_code
def y_V_entryIn : MethodName := ⟨"PageVault", "entryIn", "(II)I"⟩
abbrev b_V_number : ByteArray := prog_1_method_24_code
def y_V_number : MethodName := ⟨"PageVault", "number", "(IIII)I"⟩
abbrev b_V_readByte : ByteArray := prog_1_method_25_code
def y_V_readByte : MethodName := ⟨"PageVault", "readByte", "(LPageVault$Space;I)I"⟩
abbrev b_V_write : ByteArray := prog_1_method_26_code
def y_V_write : MethodName := ⟨"PageVault", "write", "(LPageVault$Space;III)Z"⟩
abbrev b_V_touch : ByteArray := prog_1_method_27_code
def y_V_touch : MethodName := ⟨"PageVault", "touch", "(LPageVault$Space;II)I"⟩
abbrev b_V_touchAbsent : ByteArray := prog_1_method_28_code
def y_V_touchAbsent : MethodName := ⟨"PageVault", "touchAbsent", "(LPageVault$Space;II)I"⟩
abbrev b_V_frameOrFull : ByteArray := prog_1_method_29_code
def y_V_frameOrFull : MethodName := ⟨"PageVault", "frameOrFull", "(I)I"⟩
abbrev b_V_trapped : ByteArray := prog_1_method_30_code
def y_V_trapped : MethodName := ⟨"PageVault", "trapped", "(I)I"⟩
abbrev b_V_isUsers : ByteArray := prog_1_method_31_code
def y_V_isUsers : MethodName := ⟨"PageVault", "isUsers", "(I)Z"⟩
abbrev b_V_beginsPage : ByteArray := prog_1_method_32_code
def y_V_beginsPage : MethodName := ⟨"PageVault", "beginsPage", "(I)Z"⟩
abbrev b_V_areFlags : ByteArray := prog_1_method_33_code
def y_V_areFlags : MethodName := ⟨"PageVault", "areFlags", "(I)Z"⟩
abbrev b_V_isStraight : ByteArray := prog_1_method_34_code
def y_V_isStraight : MethodName := ⟨"PageVault", "isStraight", "(II)Z"⟩
abbrev b_V_entryOf : ByteArray := prog_1_method_35_code
def y_V_entryOf : MethodName := ⟨"PageVault", "entryOf", "(II)I"⟩
abbrev b_V_frameOf : ByteArray := prog_1_method_36_code
def y_V_frameOf : MethodName := ⟨"PageVault", "frameOf", "(I)I"⟩
abbrev b_V_flagsOf : ByteArray := prog_1_method_37_code
def y_V_flagsOf : MethodName := ⟨"PageVault", "flagsOf", "(I)I"⟩
abbrev b_M_init : ByteArray := prog_5_method_1_code
def y_M_init : MethodName := ⟨"PageVaultModel", "<init>", "(I)V"⟩
abbrev b_M_note : ByteArray := prog_5_method_2_code
def y_M_note : MethodName := ⟨"PageVaultModel", "note", "(IIIII)V"⟩
abbrev b_M_byteOf : ByteArray := prog_5_method_3_code
def y_M_byteOf : MethodName := ⟨"PageVaultModel", "byteOf", "(II)I"⟩
abbrev b_M_lives : ByteArray := prog_5_method_4_code
def y_M_lives : MethodName := ⟨"PageVaultModel", "lives", "(I)Z"⟩
abbrev b_M_row : ByteArray := prog_5_method_5_code
def y_M_row : MethodName := ⟨"PageVaultModel", "row", "(II)I"⟩
abbrev b_M_sharers : ByteArray := prog_5_method_6_code
def y_M_sharers : MethodName := ⟨"PageVaultModel", "sharers", "(I)I"⟩
abbrev b_M_firstOfKin : ByteArray := prog_5_method_7_code
def y_M_firstOfKin : MethodName := ⟨"PageVaultModel", "firstOfKin", "(I)Z"⟩
abbrev b_M_freeFrames : ByteArray := prog_5_method_8_code
def y_M_freeFrames : MethodName := ⟨"PageVaultModel", "freeFrames", "()I"⟩
abbrev b_M_hasRegion : ByteArray := prog_5_method_9_code
def y_M_hasRegion : MethodName := ⟨"PageVaultModel", "hasRegion", "(II)Z"⟩
abbrev b_M_room : ByteArray := prog_5_method_10_code
def y_M_room : MethodName := ⟨"PageVaultModel", "room", "(II)Z"⟩
abbrev b_M_add : ByteArray := prog_5_method_11_code
def y_M_add : MethodName := ⟨"PageVaultModel", "add", "(IIII)V"⟩
abbrev b_M_addEmpty : ByteArray := prog_5_method_12_code
def y_M_addEmpty : MethodName := ⟨"PageVaultModel", "addEmpty", "(III)V"⟩
abbrev b_M_removePages : ByteArray := prog_5_method_13_code
def y_M_removePages : MethodName := ⟨"PageVaultModel", "removePages", "(II)V"⟩
abbrev b_M_removeRegions : ByteArray := prog_5_method_14_code
def y_M_removeRegions : MethodName := ⟨"PageVaultModel", "removeRegions", "(I)V"⟩
abbrev b_M_unused : ByteArray := prog_5_method_15_code
def y_M_unused : MethodName := ⟨"PageVaultModel", "unused", "()I"⟩
abbrev b_M_peopled : ByteArray := prog_5_method_16_code
def y_M_peopled : MethodName := ⟨"PageVaultModel", "peopled", "(I)I"⟩
abbrev b_M_touch : ByteArray := prog_5_method_17_code
def y_M_touch : MethodName := ⟨"PageVaultModel", "touch", "(III)I"⟩
abbrev b_M_aimed : ByteArray := prog_5_method_18_code
def y_M_aimed : MethodName := ⟨"PageVaultModel", "aimed", "(IIII)Z"⟩
abbrev b_M_walk : ByteArray := prog_5_method_19_code
def y_M_walk : MethodName := ⟨"PageVaultModel", "walk", "(IIII)I"⟩
abbrev b_M_number : ByteArray := prog_5_method_20_code
def y_M_number : MethodName := ⟨"PageVaultModel", "number", "(III)I"⟩
abbrev b_M_came : ByteArray := prog_5_method_21_code
def y_M_came : MethodName := ⟨"PageVaultModel", "came", "(III)V"⟩
abbrev b_M_make : ByteArray := prog_5_method_22_code
def y_M_make : MethodName := ⟨"PageVaultModel", "make", "()I"⟩
abbrev b_M_drop : ByteArray := prog_5_method_23_code
def y_M_drop : MethodName := ⟨"PageVaultModel", "drop", "(I)Z"⟩
abbrev b_M_fork : ByteArray := prog_5_method_24_code
def y_M_fork : MethodName := ⟨"PageVaultModel", "fork", "(I)I"⟩
abbrev b_M_map : ByteArray := prog_5_method_25_code
def y_M_map : MethodName := ⟨"PageVaultModel", "map", "(III)I"⟩
abbrev b_M_protect : ByteArray := prog_5_method_26_code
def y_M_protect : MethodName := ⟨"PageVaultModel", "protect", "(III)Z"⟩
abbrev b_M_grow : ByteArray := prog_5_method_27_code
def y_M_grow : MethodName := ⟨"PageVaultModel", "grow", "(II)I"⟩
abbrev b_M_size : ByteArray := prog_5_method_28_code
def y_M_size : MethodName := ⟨"PageVaultModel", "size", "(I)I"⟩
abbrev b_M_load : ByteArray := prog_5_method_29_code
def y_M_load : MethodName := ⟨"PageVaultModel", "load", "(III)I"⟩
abbrev b_M_fetch : ByteArray := prog_5_method_30_code
def y_M_fetch : MethodName := ⟨"PageVaultModel", "fetch", "(II)I"⟩
abbrev b_M_store : ByteArray := prog_5_method_31_code
def y_M_store : MethodName := ⟨"PageVaultModel", "store", "(IIII)Z"⟩
abbrev b_M_trap : ByteArray := prog_5_method_32_code
def y_M_trap : MethodName := ⟨"PageVaultModel", "trap", "()I"⟩
abbrev b_M_out : ByteArray := prog_5_method_33_code
def y_M_out : MethodName := ⟨"PageVaultModel", "out", "(III)I"⟩
abbrev b_M_in : ByteArray := prog_5_method_34_code
def y_M_in : MethodName := ⟨"PageVaultModel", "in", "(III)I"⟩
abbrev b_M_text : ByteArray := prog_5_method_35_code
def y_M_text : MethodName := ⟨"PageVaultModel", "text", "(III)I"⟩
abbrev b_M_put : ByteArray := prog_5_method_36_code
def y_M_put : MethodName := ⟨"PageVaultModel", "put", "(II)Z"⟩
abbrev b_M_at : ByteArray := prog_5_method_37_code
def y_M_at : MethodName := ⟨"PageVaultModel", "at", "(I)I"⟩
abbrev b_M_free : ByteArray := prog_5_method_38_code
def y_M_free : MethodName := ⟨"PageVaultModel", "free", "()I"⟩
abbrev b_M_flags : ByteArray := prog_5_method_39_code
def y_M_flags : MethodName := ⟨"PageVaultModel", "flags", "(II)I"⟩
abbrev b_M_owners : ByteArray := prog_5_method_40_code
def y_M_owners : MethodName := ⟨"PageVaultModel", "owners", "(II)I"⟩
abbrev b_F_init : ByteArray := prog_2_method_1_code
def y_F_init : MethodName := ⟨"PageVault$Frames", "<init>", "(I)V"⟩
abbrev b_F_spare : ByteArray := prog_2_method_2_code
def y_F_spare : MethodName := ⟨"PageVault$Frames", "spare", "()I"⟩
abbrev b_F_take : ByteArray := prog_2_method_3_code
def y_F_take : MethodName := ⟨"PageVault$Frames", "take", "()I"⟩
abbrev b_F_hold : ByteArray := prog_2_method_4_code
def y_F_hold : MethodName := ⟨"PageVault$Frames", "hold", "(I)V"⟩
abbrev b_F_release : ByteArray := prog_2_method_5_code
def y_F_release : MethodName := ⟨"PageVault$Frames", "release", "(I)V"⟩
abbrev b_F_holders : ByteArray := prog_2_method_6_code
def y_F_holders : MethodName := ⟨"PageVault$Frames", "holders", "(I)I"⟩
abbrev b_F_word : ByteArray := prog_2_method_7_code
def y_F_word : MethodName := ⟨"PageVault$Frames", "word", "(II)I"⟩
abbrev b_F_setWord : ByteArray := prog_2_method_8_code
def y_F_setWord : MethodName := ⟨"PageVault$Frames", "setWord", "(III)V"⟩
abbrev b_F_copyWords : ByteArray := prog_2_method_9_code
def y_F_copyWords : MethodName := ⟨"PageVault$Frames", "copyWords", "(II)V"⟩
abbrev b_F_read : ByteArray := prog_2_method_10_code
def y_F_read : MethodName := ⟨"PageVault$Frames", "read", "(III)I"⟩
abbrev b_F_write : ByteArray := prog_2_method_11_code
def y_F_write : MethodName := ⟨"PageVault$Frames", "write", "(IIII)V"⟩
abbrev b_F_isFrame : ByteArray := prog_2_method_12_code
def y_F_isFrame : MethodName := ⟨"PageVault$Frames", "isFrame", "(I)Z"⟩
abbrev b_F_wordOf : ByteArray := prog_2_method_13_code
def y_F_wordOf : MethodName := ⟨"PageVault$Frames", "wordOf", "(I)I"⟩
abbrev b_F_bitOf : ByteArray := prog_2_method_14_code
def y_F_bitOf : MethodName := ⟨"PageVault$Frames", "bitOf", "(I)I"⟩
abbrev b_F_mask : ByteArray := prog_2_method_15_code
def y_F_mask : MethodName := ⟨"PageVault$Frames", "mask", "(I)I"⟩
abbrev b_S_init : ByteArray := prog_3_method_1_code
def y_S_init : MethodName := ⟨"PageVault$Space", "<init>", "(LPageVault$Frames;)V"⟩
abbrev b_S_isOpen : ByteArray := prog_3_method_2_code
def y_S_isOpen : MethodName := ⟨"PageVault$Space", "isOpen", "()Z"⟩
abbrev b_S_length : ByteArray := prog_3_method_3_code
def y_S_length : MethodName := ⟨"PageVault$Space", "length", "()I"⟩
abbrev b_S_open : ByteArray := prog_3_method_4_code
def y_S_open : MethodName := ⟨"PageVault$Space", "open", "(I)V"⟩
abbrev b_S_close : ByteArray := prog_3_method_5_code
def y_S_close : MethodName := ⟨"PageVault$Space", "close", "()V"⟩
abbrev b_S_openAsCopy : ByteArray := prog_3_method_6_code
def y_S_openAsCopy : MethodName := ⟨"PageVault$Space", "openAsCopy", "(LPageVault$Space;)V"⟩
abbrev b_S_framesOfCopy : ByteArray := prog_3_method_7_code
def y_S_framesOfCopy : MethodName := ⟨"PageVault$Space", "framesOfCopy", "()I"⟩
abbrev b_S_reach : ByteArray := prog_3_method_8_code
def y_S_reach : MethodName := ⟨"PageVault$Space", "reach", "(I)V"⟩
abbrev b_S_resize : ByteArray := prog_3_method_9_code
def y_S_resize : MethodName := ⟨"PageVault$Space", "resize", "(I)V"⟩
abbrev b_S_entryAt : ByteArray := prog_3_method_10_code
def y_S_entryAt : MethodName := ⟨"PageVault$Space", "entryAt", "(I)I"⟩
abbrev b_S_setEntry : ByteArray := prog_3_method_11_code
def y_S_setEntry : MethodName := ⟨"PageVault$Space", "setEntry", "(II)V"⟩
abbrev b_S_addPage : ByteArray := prog_3_method_12_code
def y_S_addPage : MethodName := ⟨"PageVault$Space", "addPage", "(II)I"⟩
abbrev b_S_partPage : ByteArray := prog_3_method_13_code
def y_S_partPage : MethodName := ⟨"PageVault$Space", "partPage", "(I)I"⟩
abbrev b_S_removePagesFrom : ByteArray := prog_3_method_14_code
def y_S_removePagesFrom : MethodName := ⟨"PageVault$Space", "removePagesFrom", "(I)V"⟩
abbrev b_S_shareRegion : ByteArray := prog_3_method_15_code
def y_S_shareRegion : MethodName := ⟨"PageVault$Space", "shareRegion", "(LPageVault$Space;I)V"⟩
abbrev b_S_addTable : ByteArray := prog_3_method_16_code
def y_S_addTable : MethodName := ⟨"PageVault$Space", "addTable", "(I)I"⟩
abbrev b_S_hasPageIn : ByteArray := prog_3_method_17_code
def y_S_hasPageIn : MethodName := ⟨"PageVault$Space", "hasPageIn", "(I)Z"⟩
abbrev b_S_tableOf : ByteArray := prog_3_method_18_code
def y_S_tableOf : MethodName := ⟨"PageVault$Space", "tableOf", "(I)I"⟩
abbrev b_S_slotOf : ByteArray := prog_3_method_19_code
def y_S_slotOf : MethodName := ⟨"PageVault$Space", "slotOf", "(I)I"⟩
abbrev b_L_cell : ByteArray := method_2_code
def y_L_cell : MethodName := ⟨"PageVaultLaw", "cell", "([II)I"⟩
abbrev b_A_fill : ByteArray := prog_8_method_103_code
def y_A_fill : MethodName := ⟨"java/util/Arrays", "fill", "([II)V"⟩
end
section
theorem d_V_init_0 : decode b_V_init 0 = .ok (.aload_n 0, 1) := by decide +kernel
theorem d_V_init_1 : decode b_V_init 1 = .ok (.invokespecial 3, 3) := by decide +kernel
theorem d_V_init_4 : decode b_V_init 4 = .ok (.aload_n 0, 1) := by decide +kernel
theorem d_V_init_5 : decode b_V_init 5 = .ok (.new 9, 3) := by decide +kernel
theorem d_V_init_8 : decode b_V_init 8 = .ok (.dup, 1) := by decide +kernel
theorem d_V_init_9 : decode b_V_init 9 = .ok (.bipush 8, 2) := by decide +kernel
theorem d_V_init_11 : decode b_V_init 11 = .ok (.bipush 32, 2) := by decide +kernel
theorem d_V_init_13 : decode b_V_init 13 = .ok (.iload_n 1, 1) := by decide +kernel
theorem d_V_init_14 : decode b_V_init 14 = .ok (.invokestatic 11, 3) := by decide +kernel
theorem d_V_init_17 : decode b_V_init 17 = .ok (.invokestatic 17, 3) := by decide +kernel
theorem d_V_init_20 : decode b_V_init 20 = .ok (.invokespecial 20, 3) := by decide +kernel
theorem d_V_init_23 : decode b_V_init 23 = .ok (.putfield 23, 3) := by decide +kernel
theorem d_V_init_26 : decode b_V_init 26 = .ok (.aload_n 0, 1) := by decide +kernel
theorem d_V_init_27 : decode b_V_init 27 = .ok (.bipush 16, 2) := by decide +kernel
theorem d_V_init_29 : decode b_V_init 29 = .ok (.anewarray 27, 3) := by decide +kernel
theorem d_V_init_32 : decode b_V_init 32 = .ok (.putfield 29, 3) := by decide +kernel
theorem d_V_init_35 : decode b_V_init 35 = .ok (.iconst 0, 1) := by decide +kernel
theorem d_V_init_36 : decode b_V_init 36 = .ok (.istore_n 2, 1) := by decide +kernel
theorem d_V_init_37 : decode b_V_init 37 = .ok (.iload_n 2, 1) := by decide +kernel
theorem d_V_init_38 : decode b_V_init 38 = .ok (.bipush 16, 2) := by decide +kernel
theorem d_V_init_40 : decode b_V_init 40 = .ok (.if_icmp .ge 26, 3) := by decide +kernel
theorem d_V_init_43 : decode b_V_init 43 = .ok (.aload_n 0, 1) := by decide +kernel
theorem d_V_init_44 : decode b_V_init 44 = .ok (.getfield 29, 3) := by decide +kernel
theorem d_V_init_47 : decode b_V_init 47 = .ok (.iload_n 2, 1) := by decide +kernel
theorem d_V_init_48 : decode b_V_init 48 = .ok (.new 27, 3) := by decide +kernel
theorem d_V_init_51 : decode b_V_init 51 = .ok (.dup, 1) := by decide +kernel
theorem d_V_init_52 : decode b_V_init 52 = .ok (.aload_n 0, 1) := by decide +kernel
theorem d_V_init_53 : decode b_V_init 53 = .ok (.getfield 23, 3) := by decide +kernel
theorem d_V_init_56 : decode b_V_init 56 = .ok (.invokespecial 33, 3) := by decide +kernel
theorem d_V_init_59 : decode b_V_init 59 = .ok (.aastore, 1) := by decide +kernel
theorem d_V_init_60 : decode b_V_init 60 = .ok (.iinc 2 1, 3) := by decide +kernel
theorem d_V_init_63 : decode b_V_init 63 = .ok (.goto (-26), 3) := by decide +kernel
theorem d_V_init_66 : decode b_V_init 66 = .ok (.aload_n 0, 1) := by decide +kernel
theorem d_V_init_67 : decode b_V_init 67 = .ok (.sipush 512, 3) := by decide +kernel
theorem d_V_init_70 : decode b_V_init 70 = .ok (.newarray .int, 2) := by decide +kernel
theorem d_V_init_72 : decode b_V_init 72 = .ok (.putfield 36, 3) := by decide +kernel
theorem d_V_init_75 : decode b_V_init 75 = .ok (.return_, 1) := by decide +kernel
theorem d_V_make_0 : decode b_V_make 0 = .ok (.aload_n 0, 1) := by decide +kernel
theorem d_V_make_1 : decode b_V_make 1 = .ok (.invokevirtual 40, 3) := by decide +kernel
theorem d_V_make_4 : decode b_V_make 4 = .ok (.istore_n 1, 1) := by decide +kernel
theorem d_V_make_5 : decode b_V_make 5 = .ok (.iload_n 1, 1) := by decide +kernel
theorem d_V_make_6 : decode b_V_make 6 = .ok (.iconst (-1), 1) := by decide +kernel
theorem d_V_make_7 : decode b_V_make 7 = .ok (.if_icmp .eq 14, 3) := by decide +kernel
theorem d_V_make_10 : decode b_V_make 10 = .ok (.aload_n 0, 1) := by decide +kernel
theorem d_V_make_11 : decode b_V_make 11 = .ok (.getfield 23, 3) := by decide +kernel
theorem d_V_make_14 : decode b_V_make 14 = .ok (.invokevirtual 44, 3) := by decide +kernel
theorem d_V_make_17 : decode b_V_make 17 = .ok (.iconst 1, 1) := by decide +kernel
theorem d_V_make_18 : decode b_V_make 18 = .ok (.if_icmp .ge 5, 3) := by decide +kernel
theorem d_V_make_21 : decode b_V_make 21 = .ok (.iconst (-1), 1) := by decide +kernel
theorem d_V_make_22 : decode b_V_make 22 = .ok (.ireturn, 1) := by decide +kernel
theorem d_V_make_23 : decode b_V_make 23 = .ok (.aload_n 0, 1) := by decide +kernel
theorem d_V_make_24 : decode b_V_make 24 = .ok (.getfield 29, 3) := by decide +kernel
theorem d_V_make_27 : decode b_V_make 27 = .ok (.iload_n 1, 1) := by decide +kernel
theorem d_V_make_28 : decode b_V_make 28 = .ok (.aaload, 1) := by decide +kernel
theorem d_V_make_29 : decode b_V_make 29 = .ok (.iconst 0, 1) := by decide +kernel
theorem d_V_make_30 : decode b_V_make 30 = .ok (.invokevirtual 47, 3) := by decide +kernel
theorem d_V_make_33 : decode b_V_make 33 = .ok (.iload_n 1, 1) := by decide +kernel
theorem d_V_make_34 : decode b_V_make 34 = .ok (.ireturn, 1) := by decide +kernel
theorem d_V_drop_0 : decode b_V_drop 0 = .ok (.aload_n 0, 1) := by decide +kernel
theorem d_V_drop_1 : decode b_V_drop 1 = .ok (.iload_n 1, 1) := by decide +kernel
theorem d_V_drop_2 : decode b_V_drop 2 = .ok (.invokevirtual 50, 3) := by decide +kernel
theorem d_V_drop_5 : decode b_V_drop 5 = .ok (.astore_n 2, 1) := by decide +kernel
theorem d_V_drop_6 : decode b_V_drop 6 = .ok (.aload_n 2, 1) := by decide +kernel
theorem d_V_drop_7 : decode b_V_drop 7 = .ok (.ifnonnull 5, 3) := by decide +kernel
theorem d_V_drop_10 : decode b_V_drop 10 = .ok (.iconst 0, 1) := by decide +kernel
theorem d_V_drop_11 : decode b_V_drop 11 = .ok (.ireturn, 1) := by decide +kernel
theorem d_V_drop_12 : decode b_V_drop 12 = .ok (.aload_n 2, 1) := by decide +kernel
theorem d_V_drop_13 : decode b_V_drop 13 = .ok (.invokevirtual 54, 3) := by decide +kernel
theorem d_V_drop_16 : decode b_V_drop 16 = .ok (.iconst 1, 1) := by decide +kernel
theorem d_V_drop_17 : decode b_V_drop 17 = .ok (.ireturn, 1) := by decide +kernel
theorem d_V_fork_0 : decode b_V_fork 0 = .ok (.aload_n 0, 1) := by decide +kernel
theorem d_V_fork_1 : decode b_V_fork 1 = .ok (.iload_n 1, 1) := by decide +kernel
theorem d_V_fork_2 : decode b_V_fork 2 = .ok (.invokevirtual 50, 3) := by decide +kernel
theorem d_V_fork_5 : decode b_V_fork 5 = .ok (.astore_n 2, 1) := by decide +kernel
theorem d_V_fork_6 : decode b_V_fork 6 = .ok (.aload_n 0, 1) := by decide +kernel
theorem d_V_fork_7 : decode b_V_fork 7 = .ok (.invokevirtual 40, 3) := by decide +kernel
theorem d_V_fork_10 : decode b_V_fork 10 = .ok (.istore_n 3, 1) := by decide +kernel
theorem d_V_fork_11 : decode b_V_fork 11 = .ok (.aload_n 2, 1) := by decide +kernel
theorem d_V_fork_12 : decode b_V_fork 12 = .ok (.ifnull 22, 3) := by decide +kernel
theorem d_V_fork_15 : decode b_V_fork 15 = .ok (.iload_n 3, 1) := by decide +kernel
theorem d_V_fork_16 : decode b_V_fork 16 = .ok (.iconst (-1), 1) := by decide +kernel
theorem d_V_fork_17 : decode b_V_fork 17 = .ok (.if_icmp .eq 17, 3) := by decide +kernel
theorem d_V_fork_20 : decode b_V_fork 20 = .ok (.aload_n 0, 1) := by decide +kernel
theorem d_V_fork_21 : decode b_V_fork 21 = .ok (.getfield 23, 3) := by decide +kernel
theorem d_V_fork_24 : decode b_V_fork 24 = .ok (.invokevirtual 44, 3) := by decide +kernel
theorem d_V_fork_27 : decode b_V_fork 27 = .ok (.aload_n 2, 1) := by decide +kernel
theorem d_V_fork_28 : decode b_V_fork 28 = .ok (.invokevirtual 57, 3) := by decide +kernel
theorem d_V_fork_31 : decode b_V_fork 31 = .ok (.if_icmp .ge 5, 3) := by decide +kernel
theorem d_V_fork_34 : decode b_V_fork 34 = .ok (.iconst (-1), 1) := by decide +kernel
theorem d_V_fork_35 : decode b_V_fork 35 = .ok (.ireturn, 1) := by decide +kernel
theorem d_V_fork_36 : decode b_V_fork 36 = .ok (.aload_n 0, 1) := by decide +kernel
theorem d_V_fork_37 : decode b_V_fork 37 = .ok (.getfield 29, 3) := by decide +kernel
theorem d_V_fork_40 : decode b_V_fork 40 = .ok (.iload_n 3, 1) := by decide +kernel
theorem d_V_fork_41 : decode b_V_fork 41 = .ok (.aaload, 1) := by decide +kernel
theorem d_V_fork_42 : decode b_V_fork 42 = .ok (.aload_n 2, 1) := by decide +kernel
theorem d_V_fork_43 : decode b_V_fork 43 = .ok (.invokevirtual 60, 3) := by decide +kernel
theorem d_V_fork_46 : decode b_V_fork 46 = .ok (.iload_n 3, 1) := by decide +kernel
theorem d_V_fork_47 : decode b_V_fork 47 = .ok (.ireturn, 1) := by decide +kernel
theorem d_V_map_0 : decode b_V_map 0 = .ok (.aload_n 0, 1) := by decide +kernel
theorem d_V_map_1 : decode b_V_map 1 = .ok (.iload_n 1, 1) := by decide +kernel
theorem d_V_map_2 : decode b_V_map 2 = .ok (.invokevirtual 50, 3) := by decide +kernel
theorem d_V_map_5 : decode b_V_map 5 = .ok (.astore 4, 2) := by decide +kernel
theorem d_V_map_7 : decode b_V_map 7 = .ok (.aload 4, 2) := by decide +kernel
theorem d_V_map_9 : decode b_V_map 9 = .ok (.ifnull 26, 3) := by decide +kernel
theorem d_V_map_12 : decode b_V_map 12 = .ok (.iload_n 2, 1) := by decide +kernel
theorem d_V_map_13 : decode b_V_map 13 = .ok (.invokestatic 64, 3) := by decide +kernel
theorem d_V_map_16 : decode b_V_map 16 = .ok (.ifCond .eq 19, 3) := by decide +kernel
theorem d_V_map_19 : decode b_V_map 19 = .ok (.iload_n 3, 1) := by decide +kernel
theorem d_V_map_20 : decode b_V_map 20 = .ok (.invokestatic 68, 3) := by decide +kernel
theorem d_V_map_23 : decode b_V_map 23 = .ok (.ifCond .eq 12, 3) := by decide +kernel
theorem d_V_map_26 : decode b_V_map 26 = .ok (.aload 4, 2) := by decide +kernel
theorem d_V_map_28 : decode b_V_map 28 = .ok (.iload_n 2, 1) := by decide +kernel
theorem d_V_map_29 : decode b_V_map 29 = .ok (.invokevirtual 71, 3) := by decide +kernel
theorem d_V_map_32 : decode b_V_map 32 = .ok (.ifCond .eq 5, 3) := by decide +kernel
theorem d_V_map_35 : decode b_V_map 35 = .ok (.iconst (-1), 1) := by decide +kernel
theorem d_V_map_36 : decode b_V_map 36 = .ok (.ireturn, 1) := by decide +kernel
theorem d_V_map_37 : decode b_V_map 37 = .ok (.aload 4, 2) := by decide +kernel
theorem d_V_map_39 : decode b_V_map 39 = .ok (.iload_n 2, 1) := by decide +kernel
theorem d_V_map_40 : decode b_V_map 40 = .ok (.iload_n 3, 1) := by decide +kernel
theorem d_V_map_41 : decode b_V_map 41 = .ok (.invokevirtual 75, 3) := by decide +kernel
theorem d_V_map_44 : decode b_V_map 44 = .ok (.iconst (-1), 1) := by decide +kernel
theorem d_V_map_45 : decode b_V_map 45 = .ok (.if_icmp .ne 6, 3) := by decide +kernel
theorem d_V_map_48 : decode b_V_map 48 = .ok (.bipush (-2), 2) := by decide +kernel
theorem d_V_map_50 : decode b_V_map 50 = .ok (.ireturn, 1) := by decide +kernel
theorem d_V_map_51 : decode b_V_map 51 = .ok (.aload 4, 2) := by decide +kernel
theorem d_V_map_53 : decode b_V_map 53 = .ok (.iload_n 2, 1) := by decide +kernel
theorem d_V_map_54 : decode b_V_map 54 = .ok (.sipush 4096, 3) := by decide +kernel
theorem d_V_map_57 : decode b_V_map 57 = .ok (.iadd, 1) := by decide +kernel
theorem d_V_map_58 : decode b_V_map 58 = .ok (.invokevirtual 78, 3) := by decide +kernel
theorem d_V_map_61 : decode b_V_map 61 = .ok (.iconst 0, 1) := by decide +kernel
theorem d_V_map_62 : decode b_V_map 62 = .ok (.ireturn, 1) := by decide +kernel
theorem d_V_protect_0 : decode b_V_protect 0 = .ok (.aload_n 0, 1) := by decide +kernel
theorem d_V_protect_1 : decode b_V_protect 1 = .ok (.iload_n 1, 1) := by decide +kernel
theorem d_V_protect_2 : decode b_V_protect 2 = .ok (.invokevirtual 50, 3) := by decide +kernel
theorem d_V_protect_5 : decode b_V_protect 5 = .ok (.astore 4, 2) := by decide +kernel
theorem d_V_protect_7 : decode b_V_protect 7 = .ok (.aload 4, 2) := by decide +kernel
theorem d_V_protect_9 : decode b_V_protect 9 = .ok (.ifnull 17, 3) := by decide +kernel
theorem d_V_protect_12 : decode b_V_protect 12 = .ok (.iload_n 2, 1) := by decide +kernel
theorem d_V_protect_13 : decode b_V_protect 13 = .ok (.invokestatic 64, 3) := by decide +kernel
theorem d_V_protect_16 : decode b_V_protect 16 = .ok (.ifCond .eq 10, 3) := by decide +kernel
theorem d_V_protect_19 : decode b_V_protect 19 = .ok (.iload_n 3, 1) := by decide +kernel
theorem d_V_protect_20 : decode b_V_protect 20 = .ok (.invokestatic 68, 3) := by decide +kernel
theorem d_V_protect_23 : decode b_V_protect 23 = .ok (.ifCond .ne 5, 3) := by decide +kernel
theorem d_V_protect_26 : decode b_V_protect 26 = .ok (.iconst 0, 1) := by decide +kernel
theorem d_V_protect_27 : decode b_V_protect 27 = .ok (.ireturn, 1) := by decide +kernel
theorem d_V_protect_28 : decode b_V_protect 28 = .ok (.aload 4, 2) := by decide +kernel
theorem d_V_protect_30 : decode b_V_protect 30 = .ok (.iload_n 2, 1) := by decide +kernel
theorem d_V_protect_31 : decode b_V_protect 31 = .ok (.invokevirtual 71, 3) := by decide +kernel
theorem d_V_protect_34 : decode b_V_protect 34 = .ok (.istore 5, 2) := by decide +kernel
theorem d_V_protect_36 : decode b_V_protect 36 = .ok (.iload 5, 2) := by decide +kernel
theorem d_V_protect_38 : decode b_V_protect 38 = .ok (.ifCond .ne 5, 3) := by decide +kernel
theorem d_V_protect_41 : decode b_V_protect 41 = .ok (.iconst 0, 1) := by decide +kernel
theorem d_V_protect_42 : decode b_V_protect 42 = .ok (.ireturn, 1) := by decide +kernel
theorem d_V_protect_43 : decode b_V_protect 43 = .ok (.aload 4, 2) := by decide +kernel
theorem d_V_protect_45 : decode b_V_protect 45 = .ok (.iload_n 2, 1) := by decide +kernel
theorem d_V_protect_46 : decode b_V_protect 46 = .ok (.iload 5, 2) := by decide +kernel
theorem d_V_protect_48 : decode b_V_protect 48 = .ok (.invokestatic 81, 3) := by decide +kernel
theorem d_V_protect_51 : decode b_V_protect 51 = .ok (.iload_n 3, 1) := by decide +kernel
theorem d_V_protect_52 : decode b_V_protect 52 = .ok (.invokestatic 84, 3) := by decide +kernel
theorem d_V_protect_55 : decode b_V_protect 55 = .ok (.invokevirtual 87, 3) := by decide +kernel
theorem d_V_protect_58 : decode b_V_protect 58 = .ok (.iconst 1, 1) := by decide +kernel
theorem d_V_protect_59 : decode b_V_protect 59 = .ok (.ireturn, 1) := by decide +kernel
theorem d_V_grow_0 : decode b_V_grow 0 = .ok (.aload_n 0, 1) := by decide +kernel
theorem d_V_grow_1 : decode b_V_grow 1 = .ok (.iload_n 1, 1) := by decide +kernel
theorem d_V_grow_2 : decode b_V_grow 2 = .ok (.invokevirtual 50, 3) := by decide +kernel
theorem d_V_grow_5 : decode b_V_grow 5 = .ok (.astore_n 3, 1) := by decide +kernel
theorem d_V_grow_6 : decode b_V_grow 6 = .ok (.aload_n 3, 1) := by decide +kernel
theorem d_V_grow_7 : decode b_V_grow 7 = .ok (.ifnonnull 5, 3) := by decide +kernel
theorem d_V_grow_10 : decode b_V_grow 10 = .ok (.iconst (-1), 1) := by decide +kernel
theorem d_V_grow_11 : decode b_V_grow 11 = .ok (.ireturn, 1) := by decide +kernel
theorem d_V_grow_12 : decode b_V_grow 12 = .ok (.aload_n 3, 1) := by decide +kernel
theorem d_V_grow_13 : decode b_V_grow 13 = .ok (.invokevirtual 91, 3) := by decide +kernel
theorem d_V_grow_16 : decode b_V_grow 16 = .ok (.istore 4, 2) := by decide +kernel
theorem d_V_grow_18 : decode b_V_grow 18 = .ok (.iload 4, 2) := by decide +kernel
theorem d_V_grow_20 : decode b_V_grow 20 = .ok (.i2l, 1) := by decide +kernel
theorem d_V_grow_21 : decode b_V_grow 21 = .ok (.iload_n 2, 1) := by decide +kernel
theorem d_V_grow_22 : decode b_V_grow 22 = .ok (.i2l, 1) := by decide +kernel
theorem d_V_grow_23 : decode b_V_grow 23 = .ok (.ladd, 1) := by decide +kernel
theorem d_V_grow_24 : decode b_V_grow 24 = .ok (.lstore 5, 2) := by decide +kernel
theorem d_V_grow_26 : decode b_V_grow 26 = .ok (.lload 5, 2) := by decide +kernel
theorem d_V_grow_28 : decode b_V_grow 28 = .ok (.lconst 0, 1) := by decide +kernel
theorem d_V_grow_29 : decode b_V_grow 29 = .ok (.lcmp, 1) := by decide +kernel
theorem d_V_grow_30 : decode b_V_grow 30 = .ok (.ifCond .lt 12, 3) := by decide +kernel
theorem d_V_grow_33 : decode b_V_grow 33 = .ok (.lload 5, 2) := by decide +kernel
theorem d_V_grow_35 : decode b_V_grow 35 = .ok (.ldc2_w 94, 3) := by decide +kernel
theorem d_V_grow_38 : decode b_V_grow 38 = .ok (.lcmp, 1) := by decide +kernel
theorem d_V_grow_39 : decode b_V_grow 39 = .ok (.ifCond .le 5, 3) := by decide +kernel
theorem d_V_grow_42 : decode b_V_grow 42 = .ok (.iconst (-1), 1) := by decide +kernel
theorem d_V_grow_43 : decode b_V_grow 43 = .ok (.ireturn, 1) := by decide +kernel
theorem d_V_grow_44 : decode b_V_grow 44 = .ok (.aload_n 3, 1) := by decide +kernel
theorem d_V_grow_45 : decode b_V_grow 45 = .ok (.lload 5, 2) := by decide +kernel
theorem d_V_grow_47 : decode b_V_grow 47 = .ok (.l2i, 1) := by decide +kernel
theorem d_V_grow_48 : decode b_V_grow 48 = .ok (.invokevirtual 96, 3) := by decide +kernel
theorem d_V_grow_51 : decode b_V_grow 51 = .ok (.iload 4, 2) := by decide +kernel
theorem d_V_grow_53 : decode b_V_grow 53 = .ok (.ireturn, 1) := by decide +kernel
theorem d_V_size_0 : decode b_V_size 0 = .ok (.aload_n 0, 1) := by decide +kernel
theorem d_V_size_1 : decode b_V_size 1 = .ok (.iload_n 1, 1) := by decide +kernel
theorem d_V_size_2 : decode b_V_size 2 = .ok (.invokevirtual 50, 3) := by decide +kernel
theorem d_V_size_5 : decode b_V_size 5 = .ok (.astore_n 2, 1) := by decide +kernel
theorem d_V_size_6 : decode b_V_size 6 = .ok (.aload_n 2, 1) := by decide +kernel
theorem d_V_size_7 : decode b_V_size 7 = .ok (.ifnonnull 7, 3) := by decide +kernel
theorem d_V_size_10 : decode b_V_size 10 = .ok (.iconst (-1), 1) := by decide +kernel
theorem d_V_size_11 : decode b_V_size 11 = .ok (.goto 7, 3) := by decide +kernel
theorem d_V_size_14 : decode b_V_size 14 = .ok (.aload_n 2, 1) := by decide +kernel
theorem d_V_size_15 : decode b_V_size 15 = .ok (.invokevirtual 91, 3) := by decide +kernel
theorem d_V_size_18 : decode b_V_size 18 = .ok (.ireturn, 1) := by decide +kernel
theorem d_V_load_0 : decode b_V_load 0 = .ok (.aload_n 0, 1) := by decide +kernel
theorem d_V_load_1 : decode b_V_load 1 = .ok (.iload_n 1, 1) := by decide +kernel
theorem d_V_load_2 : decode b_V_load 2 = .ok (.iload_n 2, 1) := by decide +kernel
theorem d_V_load_3 : decode b_V_load 3 = .ok (.iload_n 3, 1) := by decide +kernel
theorem d_V_load_4 : decode b_V_load 4 = .ok (.iconst 1, 1) := by decide +kernel
theorem d_V_load_5 : decode b_V_load 5 = .ok (.invokevirtual 99, 3) := by decide +kernel
theorem d_V_load_8 : decode b_V_load 8 = .ok (.ireturn, 1) := by decide +kernel
theorem d_V_fetch_0 : decode b_V_fetch 0 = .ok (.aload_n 0, 1) := by decide +kernel
theorem d_V_fetch_1 : decode b_V_fetch 1 = .ok (.iload_n 1, 1) := by decide +kernel
theorem d_V_fetch_2 : decode b_V_fetch 2 = .ok (.iload_n 2, 1) := by decide +kernel
theorem d_V_fetch_3 : decode b_V_fetch 3 = .ok (.iconst 4, 1) := by decide +kernel
theorem d_V_fetch_4 : decode b_V_fetch 4 = .ok (.iconst 4, 1) := by decide +kernel
theorem d_V_fetch_5 : decode b_V_fetch 5 = .ok (.invokevirtual 99, 3) := by decide +kernel
theorem d_V_fetch_8 : decode b_V_fetch 8 = .ok (.ireturn, 1) := by decide +kernel
theorem d_V_store_0 : decode b_V_store 0 = .ok (.aload_n 0, 1) := by decide +kernel
theorem d_V_store_1 : decode b_V_store 1 = .ok (.iconst 0, 1) := by decide +kernel
theorem d_V_store_2 : decode b_V_store 2 = .ok (.putfield 103, 3) := by decide +kernel
theorem d_V_store_5 : decode b_V_store 5 = .ok (.iload_n 2, 1) := by decide +kernel
theorem d_V_store_6 : decode b_V_store 6 = .ok (.iload_n 3, 1) := by decide +kernel
theorem d_V_store_7 : decode b_V_store 7 = .ok (.invokestatic 107, 3) := by decide +kernel
theorem d_V_store_10 : decode b_V_store 10 = .ok (.ifCond .ne 11, 3) := by decide +kernel
theorem d_V_store_13 : decode b_V_store 13 = .ok (.aload_n 0, 1) := by decide +kernel
theorem d_V_store_14 : decode b_V_store 14 = .ok (.iconst 2, 1) := by decide +kernel
theorem d_V_store_15 : decode b_V_store 15 = .ok (.invokevirtual 111, 3) := by decide +kernel
theorem d_V_store_18 : decode b_V_store 18 = .ok (.pop, 1) := by decide +kernel
theorem d_V_store_19 : decode b_V_store 19 = .ok (.iconst 0, 1) := by decide +kernel
theorem d_V_store_20 : decode b_V_store 20 = .ok (.ireturn, 1) := by decide +kernel
theorem d_V_store_21 : decode b_V_store 21 = .ok (.aload_n 0, 1) := by decide +kernel
theorem d_V_store_22 : decode b_V_store 22 = .ok (.aload_n 0, 1) := by decide +kernel
theorem d_V_store_23 : decode b_V_store 23 = .ok (.iload_n 1, 1) := by decide +kernel
theorem d_V_store_24 : decode b_V_store 24 = .ok (.invokevirtual 50, 3) := by decide +kernel
theorem d_V_store_27 : decode b_V_store 27 = .ok (.iload_n 2, 1) := by decide +kernel
theorem d_V_store_28 : decode b_V_store 28 = .ok (.iload_n 3, 1) := by decide +kernel
theorem d_V_store_29 : decode b_V_store 29 = .ok (.iload 4, 2) := by decide +kernel
theorem d_V_store_31 : decode b_V_store 31 = .ok (.invokevirtual 114, 3) := by decide +kernel
theorem d_V_store_34 : decode b_V_store 34 = .ok (.ireturn, 1) := by decide +kernel
theorem d_V_trap_0 : decode b_V_trap 0 = .ok (.aload_n 0, 1) := by decide +kernel
theorem d_V_trap_1 : decode b_V_trap 1 = .ok (.getfield 103, 3) := by decide +kernel
theorem d_V_trap_4 : decode b_V_trap 4 = .ok (.ireturn, 1) := by decide +kernel
theorem d_V_out_0 : decode b_V_out 0 = .ok (.aload_n 0, 1) := by decide +kernel
theorem d_V_out_1 : decode b_V_out 1 = .ok (.iconst 0, 1) := by decide +kernel
theorem d_V_out_2 : decode b_V_out 2 = .ok (.putfield 103, 3) := by decide +kernel
theorem d_V_out_5 : decode b_V_out 5 = .ok (.iload_n 3, 1) := by decide +kernel
theorem d_V_out_6 : decode b_V_out 6 = .ok (.ifCond .lt 10, 3) := by decide +kernel
theorem d_V_out_9 : decode b_V_out 9 = .ok (.iload_n 3, 1) := by decide +kernel
theorem d_V_out_10 : decode b_V_out 10 = .ok (.sipush 512, 3) := by decide +kernel
theorem d_V_out_13 : decode b_V_out 13 = .ok (.if_icmp .le 5, 3) := by decide +kernel
theorem d_V_out_16 : decode b_V_out 16 = .ok (.iconst (-1), 1) := by decide +kernel
theorem d_V_out_17 : decode b_V_out 17 = .ok (.ireturn, 1) := by decide +kernel
theorem d_V_out_18 : decode b_V_out 18 = .ok (.aload_n 0, 1) := by decide +kernel
theorem d_V_out_19 : decode b_V_out 19 = .ok (.iload_n 1, 1) := by decide +kernel
theorem d_V_out_20 : decode b_V_out 20 = .ok (.invokevirtual 50, 3) := by decide +kernel
theorem d_V_out_23 : decode b_V_out 23 = .ok (.astore 4, 2) := by decide +kernel
theorem d_V_out_25 : decode b_V_out 25 = .ok (.iconst 0, 1) := by decide +kernel
theorem d_V_out_26 : decode b_V_out 26 = .ok (.istore 5, 2) := by decide +kernel
theorem d_V_out_28 : decode b_V_out 28 = .ok (.iload 5, 2) := by decide +kernel
theorem d_V_out_30 : decode b_V_out 30 = .ok (.iload_n 3, 1) := by decide +kernel
theorem d_V_out_31 : decode b_V_out 31 = .ok (.if_icmp .ge 33, 3) := by decide +kernel
theorem d_V_out_34 : decode b_V_out 34 = .ok (.aload_n 0, 1) := by decide +kernel
theorem d_V_out_35 : decode b_V_out 35 = .ok (.aload 4, 2) := by decide +kernel
theorem d_V_out_37 : decode b_V_out 37 = .ok (.iload_n 2, 1) := by decide +kernel
theorem d_V_out_38 : decode b_V_out 38 = .ok (.iload 5, 2) := by decide +kernel
theorem d_V_out_40 : decode b_V_out 40 = .ok (.iadd, 1) := by decide +kernel
theorem d_V_out_41 : decode b_V_out 41 = .ok (.iconst 1, 1) := by decide +kernel
theorem d_V_out_42 : decode b_V_out 42 = .ok (.aload_n 0, 1) := by decide +kernel
theorem d_V_out_43 : decode b_V_out 43 = .ok (.getfield 36, 3) := by decide +kernel
theorem d_V_out_46 : decode b_V_out 46 = .ok (.iload 5, 2) := by decide +kernel
theorem d_V_out_48 : decode b_V_out 48 = .ok (.iaload, 1) := by decide +kernel
theorem d_V_out_49 : decode b_V_out 49 = .ok (.invokevirtual 114, 3) := by decide +kernel
theorem d_V_out_52 : decode b_V_out 52 = .ok (.ifCond .ne 6, 3) := by decide +kernel
theorem d_V_out_55 : decode b_V_out 55 = .ok (.iload 5, 2) := by decide +kernel
theorem d_V_out_57 : decode b_V_out 57 = .ok (.ireturn, 1) := by decide +kernel
theorem d_V_out_58 : decode b_V_out 58 = .ok (.iinc 5 1, 3) := by decide +kernel
theorem d_V_out_61 : decode b_V_out 61 = .ok (.goto (-33), 3) := by decide +kernel
theorem d_V_out_64 : decode b_V_out 64 = .ok (.iload_n 3, 1) := by decide +kernel
theorem d_V_out_65 : decode b_V_out 65 = .ok (.ireturn, 1) := by decide +kernel
theorem d_V_in_0 : decode b_V_in 0 = .ok (.aload_n 0, 1) := by decide +kernel
theorem d_V_in_1 : decode b_V_in 1 = .ok (.iconst 0, 1) := by decide +kernel
theorem d_V_in_2 : decode b_V_in 2 = .ok (.putfield 103, 3) := by decide +kernel
theorem d_V_in_5 : decode b_V_in 5 = .ok (.iload_n 3, 1) := by decide +kernel
theorem d_V_in_6 : decode b_V_in 6 = .ok (.ifCond .lt 10, 3) := by decide +kernel
theorem d_V_in_9 : decode b_V_in 9 = .ok (.iload_n 3, 1) := by decide +kernel
theorem d_V_in_10 : decode b_V_in 10 = .ok (.sipush 512, 3) := by decide +kernel
theorem d_V_in_13 : decode b_V_in 13 = .ok (.if_icmp .le 5, 3) := by decide +kernel
theorem d_V_in_16 : decode b_V_in 16 = .ok (.iconst (-1), 1) := by decide +kernel
theorem d_V_in_17 : decode b_V_in 17 = .ok (.ireturn, 1) := by decide +kernel
theorem d_V_in_18 : decode b_V_in 18 = .ok (.aload_n 0, 1) := by decide +kernel
theorem d_V_in_19 : decode b_V_in 19 = .ok (.iload_n 1, 1) := by decide +kernel
theorem d_V_in_20 : decode b_V_in 20 = .ok (.invokevirtual 50, 3) := by decide +kernel
theorem d_V_in_23 : decode b_V_in 23 = .ok (.astore 4, 2) := by decide +kernel
theorem d_V_in_25 : decode b_V_in 25 = .ok (.iconst 0, 1) := by decide +kernel
theorem d_V_in_26 : decode b_V_in 26 = .ok (.istore 5, 2) := by decide +kernel
theorem d_V_in_28 : decode b_V_in 28 = .ok (.iload 5, 2) := by decide +kernel
theorem d_V_in_30 : decode b_V_in 30 = .ok (.iload_n 3, 1) := by decide +kernel
theorem d_V_in_31 : decode b_V_in 31 = .ok (.if_icmp .ge 39, 3) := by decide +kernel
theorem d_V_in_34 : decode b_V_in 34 = .ok (.aload_n 0, 1) := by decide +kernel
theorem d_V_in_35 : decode b_V_in 35 = .ok (.aload 4, 2) := by decide +kernel
theorem d_V_in_37 : decode b_V_in 37 = .ok (.iload_n 2, 1) := by decide +kernel
theorem d_V_in_38 : decode b_V_in 38 = .ok (.iload 5, 2) := by decide +kernel
theorem d_V_in_40 : decode b_V_in 40 = .ok (.iadd, 1) := by decide +kernel
theorem d_V_in_41 : decode b_V_in 41 = .ok (.invokevirtual 118, 3) := by decide +kernel
theorem d_V_in_44 : decode b_V_in 44 = .ok (.istore 6, 2) := by decide +kernel
theorem d_V_in_46 : decode b_V_in 46 = .ok (.iload 6, 2) := by decide +kernel
theorem d_V_in_48 : decode b_V_in 48 = .ok (.iconst (-1), 1) := by decide +kernel
theorem d_V_in_49 : decode b_V_in 49 = .ok (.if_icmp .ne 6, 3) := by decide +kernel
theorem d_V_in_52 : decode b_V_in 52 = .ok (.iload 5, 2) := by decide +kernel
theorem d_V_in_54 : decode b_V_in 54 = .ok (.ireturn, 1) := by decide +kernel
theorem d_V_in_55 : decode b_V_in 55 = .ok (.aload_n 0, 1) := by decide +kernel
theorem d_V_in_56 : decode b_V_in 56 = .ok (.getfield 36, 3) := by decide +kernel
theorem d_V_in_59 : decode b_V_in 59 = .ok (.iload 5, 2) := by decide +kernel
theorem d_V_in_61 : decode b_V_in 61 = .ok (.iload 6, 2) := by decide +kernel
theorem d_V_in_63 : decode b_V_in 63 = .ok (.iastore, 1) := by decide +kernel
theorem d_V_in_64 : decode b_V_in 64 = .ok (.iinc 5 1, 3) := by decide +kernel
theorem d_V_in_67 : decode b_V_in 67 = .ok (.goto (-39), 3) := by decide +kernel
theorem d_V_in_70 : decode b_V_in 70 = .ok (.iload_n 3, 1) := by decide +kernel
theorem d_V_in_71 : decode b_V_in 71 = .ok (.ireturn, 1) := by decide +kernel
theorem d_V_text_0 : decode b_V_text 0 = .ok (.aload_n 0, 1) := by decide +kernel
theorem d_V_text_1 : decode b_V_text 1 = .ok (.iconst 0, 1) := by decide +kernel
theorem d_V_text_2 : decode b_V_text 2 = .ok (.putfield 103, 3) := by decide +kernel
theorem d_V_text_5 : decode b_V_text 5 = .ok (.iload_n 3, 1) := by decide +kernel
theorem d_V_text_6 : decode b_V_text 6 = .ok (.iconst 1, 1) := by decide +kernel
theorem d_V_text_7 : decode b_V_text 7 = .ok (.if_icmp .lt 10, 3) := by decide +kernel
theorem d_V_text_10 : decode b_V_text 10 = .ok (.iload_n 3, 1) := by decide +kernel
theorem d_V_text_11 : decode b_V_text 11 = .ok (.sipush 512, 3) := by decide +kernel
theorem d_V_text_14 : decode b_V_text 14 = .ok (.if_icmp .le 5, 3) := by decide +kernel
theorem d_V_text_17 : decode b_V_text 17 = .ok (.iconst (-1), 1) := by decide +kernel
theorem d_V_text_18 : decode b_V_text 18 = .ok (.ireturn, 1) := by decide +kernel
theorem d_V_text_19 : decode b_V_text 19 = .ok (.aload_n 0, 1) := by decide +kernel
theorem d_V_text_20 : decode b_V_text 20 = .ok (.iload_n 1, 1) := by decide +kernel
theorem d_V_text_21 : decode b_V_text 21 = .ok (.invokevirtual 50, 3) := by decide +kernel
theorem d_V_text_24 : decode b_V_text 24 = .ok (.astore 4, 2) := by decide +kernel
theorem d_V_text_26 : decode b_V_text 26 = .ok (.iconst 0, 1) := by decide +kernel
theorem d_V_text_27 : decode b_V_text 27 = .ok (.istore 5, 2) := by decide +kernel
theorem d_V_text_29 : decode b_V_text 29 = .ok (.iload 5, 2) := by decide +kernel
theorem d_V_text_31 : decode b_V_text 31 = .ok (.iload_n 3, 1) := by decide +kernel
theorem d_V_text_32 : decode b_V_text 32 = .ok (.if_icmp .ge 46, 3) := by decide +kernel
theorem d_V_text_35 : decode b_V_text 35 = .ok (.aload_n 0, 1) := by decide +kernel
theorem d_V_text_36 : decode b_V_text 36 = .ok (.aload 4, 2) := by decide +kernel
theorem d_V_text_38 : decode b_V_text 38 = .ok (.iload_n 2, 1) := by decide +kernel
theorem d_V_text_39 : decode b_V_text 39 = .ok (.iload 5, 2) := by decide +kernel
theorem d_V_text_41 : decode b_V_text 41 = .ok (.iadd, 1) := by decide +kernel
theorem d_V_text_42 : decode b_V_text 42 = .ok (.invokevirtual 118, 3) := by decide +kernel
theorem d_V_text_45 : decode b_V_text 45 = .ok (.istore 6, 2) := by decide +kernel
theorem d_V_text_47 : decode b_V_text 47 = .ok (.iload 6, 2) := by decide +kernel
theorem d_V_text_49 : decode b_V_text 49 = .ok (.iconst (-1), 1) := by decide +kernel
theorem d_V_text_50 : decode b_V_text 50 = .ok (.if_icmp .ne 5, 3) := by decide +kernel
theorem d_V_text_53 : decode b_V_text 53 = .ok (.iconst (-1), 1) := by decide +kernel
theorem d_V_text_54 : decode b_V_text 54 = .ok (.ireturn, 1) := by decide +kernel
theorem d_V_text_55 : decode b_V_text 55 = .ok (.aload_n 0, 1) := by decide +kernel
theorem d_V_text_56 : decode b_V_text 56 = .ok (.getfield 36, 3) := by decide +kernel
theorem d_V_text_59 : decode b_V_text 59 = .ok (.iload 5, 2) := by decide +kernel
theorem d_V_text_61 : decode b_V_text 61 = .ok (.iload 6, 2) := by decide +kernel
theorem d_V_text_63 : decode b_V_text 63 = .ok (.iastore, 1) := by decide +kernel
theorem d_V_text_64 : decode b_V_text 64 = .ok (.iload 6, 2) := by decide +kernel
theorem d_V_text_66 : decode b_V_text 66 = .ok (.ifCond .ne 6, 3) := by decide +kernel
theorem d_V_text_69 : decode b_V_text 69 = .ok (.iload 5, 2) := by decide +kernel
theorem d_V_text_71 : decode b_V_text 71 = .ok (.ireturn, 1) := by decide +kernel
theorem d_V_text_72 : decode b_V_text 72 = .ok (.iinc 5 1, 3) := by decide +kernel
theorem d_V_text_75 : decode b_V_text 75 = .ok (.goto (-46), 3) := by decide +kernel
theorem d_V_text_78 : decode b_V_text 78 = .ok (.iconst (-1), 1) := by decide +kernel
theorem d_V_text_79 : decode b_V_text 79 = .ok (.ireturn, 1) := by decide +kernel
theorem d_V_put_0 : decode b_V_put 0 = .ok (.iload_n 1, 1) := by decide +kernel
theorem d_V_put_1 : decode b_V_put 1 = .ok (.ifCond .lt 21, 3) := by decide +kernel
theorem d_V_put_4 : decode b_V_put 4 = .ok (.iload_n 1, 1) := by decide +kernel
theorem d_V_put_5 : decode b_V_put 5 = .ok (.sipush 512, 3) := by decide +kernel
theorem d_V_put_8 : decode b_V_put 8 = .ok (.if_icmp .ge 14, 3) := by decide +kernel
theorem d_V_put_11 : decode b_V_put 11 = .ok (.iload_n 2, 1) := by decide +kernel
theorem d_V_put_12 : decode b_V_put 12 = .ok (.ifCond .lt 10, 3) := by decide +kernel
theorem d_V_put_15 : decode b_V_put 15 = .ok (.iload_n 2, 1) := by decide +kernel
theorem d_V_put_16 : decode b_V_put 16 = .ok (.sipush 255, 3) := by decide +kernel
theorem d_V_put_19 : decode b_V_put 19 = .ok (.if_icmp .le 5, 3) := by decide +kernel
theorem d_V_put_22 : decode b_V_put 22 = .ok (.iconst 0, 1) := by decide +kernel
theorem d_V_put_23 : decode b_V_put 23 = .ok (.ireturn, 1) := by decide +kernel
theorem d_V_put_24 : decode b_V_put 24 = .ok (.aload_n 0, 1) := by decide +kernel
theorem d_V_put_25 : decode b_V_put 25 = .ok (.getfield 36, 3) := by decide +kernel
theorem d_V_put_28 : decode b_V_put 28 = .ok (.iload_n 1, 1) := by decide +kernel
theorem d_V_put_29 : decode b_V_put 29 = .ok (.iload_n 2, 1) := by decide +kernel
theorem d_V_put_30 : decode b_V_put 30 = .ok (.iastore, 1) := by decide +kernel
theorem d_V_put_31 : decode b_V_put 31 = .ok (.iconst 1, 1) := by decide +kernel
theorem d_V_put_32 : decode b_V_put 32 = .ok (.ireturn, 1) := by decide +kernel
theorem d_V_at_0 : decode b_V_at 0 = .ok (.iload_n 1, 1) := by decide +kernel
theorem d_V_at_1 : decode b_V_at 1 = .ok (.ifCond .lt 10, 3) := by decide +kernel
theorem d_V_at_4 : decode b_V_at 4 = .ok (.iload_n 1, 1) := by decide +kernel
theorem d_V_at_5 : decode b_V_at 5 = .ok (.sipush 512, 3) := by decide +kernel
theorem d_V_at_8 : decode b_V_at 8 = .ok (.if_icmp .lt 7, 3) := by decide +kernel
theorem d_V_at_11 : decode b_V_at 11 = .ok (.iconst (-1), 1) := by decide +kernel
theorem d_V_at_12 : decode b_V_at 12 = .ok (.goto 9, 3) := by decide +kernel
theorem d_V_at_15 : decode b_V_at 15 = .ok (.aload_n 0, 1) := by decide +kernel
theorem d_V_at_16 : decode b_V_at 16 = .ok (.getfield 36, 3) := by decide +kernel
theorem d_V_at_19 : decode b_V_at 19 = .ok (.iload_n 1, 1) := by decide +kernel
theorem d_V_at_20 : decode b_V_at 20 = .ok (.iaload, 1) := by decide +kernel
theorem d_V_at_21 : decode b_V_at 21 = .ok (.ireturn, 1) := by decide +kernel
theorem d_V_free_0 : decode b_V_free 0 = .ok (.aload_n 0, 1) := by decide +kernel
theorem d_V_free_1 : decode b_V_free 1 = .ok (.getfield 23, 3) := by decide +kernel
theorem d_V_free_4 : decode b_V_free 4 = .ok (.invokevirtual 44, 3) := by decide +kernel
theorem d_V_free_7 : decode b_V_free 7 = .ok (.ireturn, 1) := by decide +kernel
theorem d_V_flags_0 : decode b_V_flags 0 = .ok (.aload_n 0, 1) := by decide +kernel
theorem d_V_flags_1 : decode b_V_flags 1 = .ok (.iload_n 1, 1) := by decide +kernel
theorem d_V_flags_2 : decode b_V_flags 2 = .ok (.iload_n 2, 1) := by decide +kernel
theorem d_V_flags_3 : decode b_V_flags 3 = .ok (.invokevirtual 122, 3) := by decide +kernel
theorem d_V_flags_6 : decode b_V_flags 6 = .ok (.istore_n 3, 1) := by decide +kernel
theorem d_V_flags_7 : decode b_V_flags 7 = .ok (.iload_n 3, 1) := by decide +kernel
theorem d_V_flags_8 : decode b_V_flags 8 = .ok (.ifCond .ne 7, 3) := by decide +kernel
theorem d_V_flags_11 : decode b_V_flags 11 = .ok (.iconst (-1), 1) := by decide +kernel
theorem d_V_flags_12 : decode b_V_flags 12 = .ok (.goto 7, 3) := by decide +kernel
theorem d_V_flags_15 : decode b_V_flags 15 = .ok (.iload_n 3, 1) := by decide +kernel
theorem d_V_flags_16 : decode b_V_flags 16 = .ok (.invokestatic 125, 3) := by decide +kernel
theorem d_V_flags_19 : decode b_V_flags 19 = .ok (.ireturn, 1) := by decide +kernel
theorem d_V_owners_0 : decode b_V_owners 0 = .ok (.aload_n 0, 1) := by decide +kernel
theorem d_V_owners_1 : decode b_V_owners 1 = .ok (.getfield 23, 3) := by decide +kernel
theorem d_V_owners_4 : decode b_V_owners 4 = .ok (.aload_n 0, 1) := by decide +kernel
theorem d_V_owners_5 : decode b_V_owners 5 = .ok (.iload_n 1, 1) := by decide +kernel
theorem d_V_owners_6 : decode b_V_owners 6 = .ok (.iload_n 2, 1) := by decide +kernel
theorem d_V_owners_7 : decode b_V_owners 7 = .ok (.invokevirtual 122, 3) := by decide +kernel
theorem d_V_owners_10 : decode b_V_owners 10 = .ok (.invokestatic 81, 3) := by decide +kernel
theorem d_V_owners_13 : decode b_V_owners 13 = .ok (.invokevirtual 128, 3) := by decide +kernel
theorem d_V_owners_16 : decode b_V_owners 16 = .ok (.ireturn, 1) := by decide +kernel
theorem d_V_find_0 : decode b_V_find 0 = .ok (.iload_n 1, 1) := by decide +kernel
theorem d_V_find_1 : decode b_V_find 1 = .ok (.ifCond .lt 21, 3) := by decide +kernel
theorem d_V_find_4 : decode b_V_find 4 = .ok (.iload_n 1, 1) := by decide +kernel
theorem d_V_find_5 : decode b_V_find 5 = .ok (.bipush 16, 2) := by decide +kernel
theorem d_V_find_7 : decode b_V_find 7 = .ok (.if_icmp .ge 15, 3) := by decide +kernel
theorem d_V_find_10 : decode b_V_find 10 = .ok (.aload_n 0, 1) := by decide +kernel
theorem d_V_find_11 : decode b_V_find 11 = .ok (.getfield 29, 3) := by decide +kernel
theorem d_V_find_14 : decode b_V_find 14 = .ok (.iload_n 1, 1) := by decide +kernel
theorem d_V_find_15 : decode b_V_find 15 = .ok (.aaload, 1) := by decide +kernel
theorem d_V_find_16 : decode b_V_find 16 = .ok (.invokevirtual 131, 3) := by decide +kernel
theorem d_V_find_19 : decode b_V_find 19 = .ok (.ifCond .ne 5, 3) := by decide +kernel
theorem d_V_find_22 : decode b_V_find 22 = .ok (.aconst_null, 1) := by decide +kernel
theorem d_V_find_23 : decode b_V_find 23 = .ok (.areturn, 1) := by decide +kernel
theorem d_V_find_24 : decode b_V_find 24 = .ok (.aload_n 0, 1) := by decide +kernel
theorem d_V_find_25 : decode b_V_find 25 = .ok (.getfield 29, 3) := by decide +kernel
theorem d_V_find_28 : decode b_V_find 28 = .ok (.iload_n 1, 1) := by decide +kernel
theorem d_V_find_29 : decode b_V_find 29 = .ok (.aaload, 1) := by decide +kernel
theorem d_V_find_30 : decode b_V_find 30 = .ok (.areturn, 1) := by decide +kernel
theorem d_V_leastUnused_0 : decode b_V_leastUnused 0 = .ok (.iconst 0, 1) := by decide +kernel
theorem d_V_leastUnused_1 : decode b_V_leastUnused 1 = .ok (.istore_n 1, 1) := by decide +kernel
theorem d_V_leastUnused_2 : decode b_V_leastUnused 2 = .ok (.iload_n 1, 1) := by decide +kernel
theorem d_V_leastUnused_3 : decode b_V_leastUnused 3 = .ok (.bipush 16, 2) := by decide +kernel
theorem d_V_leastUnused_5 : decode b_V_leastUnused 5 = .ok (.if_icmp .ge 23, 3) := by decide +kernel
theorem d_V_leastUnused_8 : decode b_V_leastUnused 8 = .ok (.aload_n 0, 1) := by decide +kernel
theorem d_V_leastUnused_9 : decode b_V_leastUnused 9 = .ok (.getfield 29, 3) := by decide +kernel
theorem d_V_leastUnused_12 : decode b_V_leastUnused 12 = .ok (.iload_n 1, 1) := by decide +kernel
theorem d_V_leastUnused_13 : decode b_V_leastUnused 13 = .ok (.aaload, 1) := by decide +kernel
end
section
theorem d_V_leastUnused_14 : decode b_V_leastUnused 14 = .ok (.invokevirtual 131, 3) := by decide +kernel
theorem d_V_leastUnused_17 : decode b_V_leastUnused 17 = .ok (.ifCond .ne 5, 3) := by decide +kernel
theorem d_V_leastUnused_20 : decode b_V_leastUnused 20 = .ok (.iload_n 1, 1) := by decide +kernel
theorem d_V_leastUnused_21 : decode b_V_leastUnused 21 = .ok (.ireturn, 1) := by decide +kernel
theorem d_V_leastUnused_22 : decode b_V_leastUnused 22 = .ok (.iinc 1 1, 3) := by decide +kernel
theorem d_V_leastUnused_25 : decode b_V_leastUnused 25 = .ok (.goto (-23), 3) := by decide +kernel
theorem d_V_leastUnused_28 : decode b_V_leastUnused 28 = .ok (.iconst (-1), 1) := by decide +kernel
theorem d_V_leastUnused_29 : decode b_V_leastUnused 29 = .ok (.ireturn, 1) := by decide +kernel
theorem d_V_entryIn_0 : decode b_V_entryIn 0 = .ok (.aload_n 0, 1) := by decide +kernel
theorem d_V_entryIn_1 : decode b_V_entryIn 1 = .ok (.iload_n 1, 1) := by decide +kernel
theorem d_V_entryIn_2 : decode b_V_entryIn 2 = .ok (.invokevirtual 50, 3) := by decide +kernel
theorem d_V_entryIn_5 : decode b_V_entryIn 5 = .ok (.astore_n 3, 1) := by decide +kernel
theorem d_V_entryIn_6 : decode b_V_entryIn 6 = .ok (.aload_n 3, 1) := by decide +kernel
theorem d_V_entryIn_7 : decode b_V_entryIn 7 = .ok (.ifnull 10, 3) := by decide +kernel
theorem d_V_entryIn_10 : decode b_V_entryIn 10 = .ok (.iload_n 2, 1) := by decide +kernel
theorem d_V_entryIn_11 : decode b_V_entryIn 11 = .ok (.invokestatic 135, 3) := by decide +kernel
theorem d_V_entryIn_14 : decode b_V_entryIn 14 = .ok (.ifCond .ne 7, 3) := by decide +kernel
theorem d_V_entryIn_17 : decode b_V_entryIn 17 = .ok (.iconst 0, 1) := by decide +kernel
theorem d_V_entryIn_18 : decode b_V_entryIn 18 = .ok (.goto 8, 3) := by decide +kernel
theorem d_V_entryIn_21 : decode b_V_entryIn 21 = .ok (.aload_n 3, 1) := by decide +kernel
theorem d_V_entryIn_22 : decode b_V_entryIn 22 = .ok (.iload_n 2, 1) := by decide +kernel
theorem d_V_entryIn_23 : decode b_V_entryIn 23 = .ok (.invokevirtual 71, 3) := by decide +kernel
theorem d_V_entryIn_26 : decode b_V_entryIn 26 = .ok (.ireturn, 1) := by decide +kernel
theorem d_V_number_0 : decode b_V_number 0 = .ok (.aload_n 0, 1) := by decide +kernel
theorem d_V_number_1 : decode b_V_number 1 = .ok (.iconst 0, 1) := by decide +kernel
theorem d_V_number_2 : decode b_V_number 2 = .ok (.putfield 103, 3) := by decide +kernel
theorem d_V_number_5 : decode b_V_number 5 = .ok (.iload_n 2, 1) := by decide +kernel
theorem d_V_number_6 : decode b_V_number 6 = .ok (.iload_n 3, 1) := by decide +kernel
theorem d_V_number_7 : decode b_V_number 7 = .ok (.invokestatic 107, 3) := by decide +kernel
theorem d_V_number_10 : decode b_V_number 10 = .ok (.ifCond .ne 11, 3) := by decide +kernel
theorem d_V_number_13 : decode b_V_number 13 = .ok (.aload_n 0, 1) := by decide +kernel
theorem d_V_number_14 : decode b_V_number 14 = .ok (.iconst 2, 1) := by decide +kernel
theorem d_V_number_15 : decode b_V_number 15 = .ok (.invokevirtual 111, 3) := by decide +kernel
theorem d_V_number_18 : decode b_V_number 18 = .ok (.pop, 1) := by decide +kernel
theorem d_V_number_19 : decode b_V_number 19 = .ok (.iconst 0, 1) := by decide +kernel
theorem d_V_number_20 : decode b_V_number 20 = .ok (.ireturn, 1) := by decide +kernel
theorem d_V_number_21 : decode b_V_number 21 = .ok (.aload_n 0, 1) := by decide +kernel
theorem d_V_number_22 : decode b_V_number 22 = .ok (.aload_n 0, 1) := by decide +kernel
theorem d_V_number_23 : decode b_V_number 23 = .ok (.iload_n 1, 1) := by decide +kernel
theorem d_V_number_24 : decode b_V_number 24 = .ok (.invokevirtual 50, 3) := by decide +kernel
theorem d_V_number_27 : decode b_V_number 27 = .ok (.iload_n 2, 1) := by decide +kernel
theorem d_V_number_28 : decode b_V_number 28 = .ok (.iload 4, 2) := by decide +kernel
theorem d_V_number_30 : decode b_V_number 30 = .ok (.invokevirtual 138, 3) := by decide +kernel
theorem d_V_number_33 : decode b_V_number 33 = .ok (.istore 5, 2) := by decide +kernel
theorem d_V_number_35 : decode b_V_number 35 = .ok (.iload 5, 2) := by decide +kernel
theorem d_V_number_37 : decode b_V_number 37 = .ok (.iconst (-1), 1) := by decide +kernel
theorem d_V_number_38 : decode b_V_number 38 = .ok (.if_icmp .ne 7, 3) := by decide +kernel
theorem d_V_number_41 : decode b_V_number 41 = .ok (.iconst 0, 1) := by decide +kernel
theorem d_V_number_42 : decode b_V_number 42 = .ok (.goto 14, 3) := by decide +kernel
theorem d_V_number_45 : decode b_V_number 45 = .ok (.aload_n 0, 1) := by decide +kernel
theorem d_V_number_46 : decode b_V_number 46 = .ok (.getfield 23, 3) := by decide +kernel
theorem d_V_number_49 : decode b_V_number 49 = .ok (.iload 5, 2) := by decide +kernel
theorem d_V_number_51 : decode b_V_number 51 = .ok (.iload_n 2, 1) := by decide +kernel
theorem d_V_number_52 : decode b_V_number 52 = .ok (.iload_n 3, 1) := by decide +kernel
theorem d_V_number_53 : decode b_V_number 53 = .ok (.invokevirtual 142, 3) := by decide +kernel
theorem d_V_number_56 : decode b_V_number 56 = .ok (.ireturn, 1) := by decide +kernel
theorem d_V_readByte_0 : decode b_V_readByte 0 = .ok (.aload_n 0, 1) := by decide +kernel
theorem d_V_readByte_1 : decode b_V_readByte 1 = .ok (.aload_n 1, 1) := by decide +kernel
theorem d_V_readByte_2 : decode b_V_readByte 2 = .ok (.iload_n 2, 1) := by decide +kernel
theorem d_V_readByte_3 : decode b_V_readByte 3 = .ok (.iconst 1, 1) := by decide +kernel
theorem d_V_readByte_4 : decode b_V_readByte 4 = .ok (.invokevirtual 138, 3) := by decide +kernel
theorem d_V_readByte_7 : decode b_V_readByte 7 = .ok (.istore_n 3, 1) := by decide +kernel
theorem d_V_readByte_8 : decode b_V_readByte 8 = .ok (.iload_n 3, 1) := by decide +kernel
theorem d_V_readByte_9 : decode b_V_readByte 9 = .ok (.iconst (-1), 1) := by decide +kernel
theorem d_V_readByte_10 : decode b_V_readByte 10 = .ok (.if_icmp .ne 7, 3) := by decide +kernel
theorem d_V_readByte_13 : decode b_V_readByte 13 = .ok (.iconst (-1), 1) := by decide +kernel
theorem d_V_readByte_14 : decode b_V_readByte 14 = .ok (.goto 13, 3) := by decide +kernel
theorem d_V_readByte_17 : decode b_V_readByte 17 = .ok (.aload_n 0, 1) := by decide +kernel
theorem d_V_readByte_18 : decode b_V_readByte 18 = .ok (.getfield 23, 3) := by decide +kernel
theorem d_V_readByte_21 : decode b_V_readByte 21 = .ok (.iload_n 3, 1) := by decide +kernel
theorem d_V_readByte_22 : decode b_V_readByte 22 = .ok (.iload_n 2, 1) := by decide +kernel
theorem d_V_readByte_23 : decode b_V_readByte 23 = .ok (.iconst 1, 1) := by decide +kernel
theorem d_V_readByte_24 : decode b_V_readByte 24 = .ok (.invokevirtual 142, 3) := by decide +kernel
theorem d_V_readByte_27 : decode b_V_readByte 27 = .ok (.ireturn, 1) := by decide +kernel
theorem d_V_write_0 : decode b_V_write 0 = .ok (.aload_n 0, 1) := by decide +kernel
theorem d_V_write_1 : decode b_V_write 1 = .ok (.aload_n 1, 1) := by decide +kernel
theorem d_V_write_2 : decode b_V_write 2 = .ok (.iload_n 2, 1) := by decide +kernel
theorem d_V_write_3 : decode b_V_write 3 = .ok (.iconst 2, 1) := by decide +kernel
theorem d_V_write_4 : decode b_V_write 4 = .ok (.invokevirtual 138, 3) := by decide +kernel
theorem d_V_write_7 : decode b_V_write 7 = .ok (.istore 5, 2) := by decide +kernel
theorem d_V_write_9 : decode b_V_write 9 = .ok (.iload 5, 2) := by decide +kernel
theorem d_V_write_11 : decode b_V_write 11 = .ok (.iconst (-1), 1) := by decide +kernel
theorem d_V_write_12 : decode b_V_write 12 = .ok (.if_icmp .ne 5, 3) := by decide +kernel
theorem d_V_write_15 : decode b_V_write 15 = .ok (.iconst 0, 1) := by decide +kernel
theorem d_V_write_16 : decode b_V_write 16 = .ok (.ireturn, 1) := by decide +kernel
theorem d_V_write_17 : decode b_V_write 17 = .ok (.aload_n 0, 1) := by decide +kernel
theorem d_V_write_18 : decode b_V_write 18 = .ok (.getfield 23, 3) := by decide +kernel
theorem d_V_write_21 : decode b_V_write 21 = .ok (.iload 5, 2) := by decide +kernel
theorem d_V_write_23 : decode b_V_write 23 = .ok (.iload_n 2, 1) := by decide +kernel
theorem d_V_write_24 : decode b_V_write 24 = .ok (.iload_n 3, 1) := by decide +kernel
theorem d_V_write_25 : decode b_V_write 25 = .ok (.iload 4, 2) := by decide +kernel
theorem d_V_write_27 : decode b_V_write 27 = .ok (.invokevirtual 146, 3) := by decide +kernel
theorem d_V_write_30 : decode b_V_write 30 = .ok (.iconst 1, 1) := by decide +kernel
theorem d_V_write_31 : decode b_V_write 31 = .ok (.ireturn, 1) := by decide +kernel
theorem d_V_touch_0 : decode b_V_touch 0 = .ok (.aload_n 1, 1) := by decide +kernel
theorem d_V_touch_1 : decode b_V_touch 1 = .ok (.ifnull 10, 3) := by decide +kernel
theorem d_V_touch_4 : decode b_V_touch 4 = .ok (.iload_n 2, 1) := by decide +kernel
theorem d_V_touch_5 : decode b_V_touch 5 = .ok (.invokestatic 135, 3) := by decide +kernel
theorem d_V_touch_8 : decode b_V_touch 8 = .ok (.ifCond .ne 9, 3) := by decide +kernel
theorem d_V_touch_11 : decode b_V_touch 11 = .ok (.aload_n 0, 1) := by decide +kernel
theorem d_V_touch_12 : decode b_V_touch 12 = .ok (.iconst 1, 1) := by decide +kernel
theorem d_V_touch_13 : decode b_V_touch 13 = .ok (.invokevirtual 111, 3) := by decide +kernel
theorem d_V_touch_16 : decode b_V_touch 16 = .ok (.ireturn, 1) := by decide +kernel
theorem d_V_touch_17 : decode b_V_touch 17 = .ok (.aload_n 1, 1) := by decide +kernel
theorem d_V_touch_18 : decode b_V_touch 18 = .ok (.iload_n 2, 1) := by decide +kernel
theorem d_V_touch_19 : decode b_V_touch 19 = .ok (.invokevirtual 71, 3) := by decide +kernel
theorem d_V_touch_22 : decode b_V_touch 22 = .ok (.istore 4, 2) := by decide +kernel
theorem d_V_touch_24 : decode b_V_touch 24 = .ok (.iload 4, 2) := by decide +kernel
theorem d_V_touch_26 : decode b_V_touch 26 = .ok (.ifCond .ne 11, 3) := by decide +kernel
theorem d_V_touch_29 : decode b_V_touch 29 = .ok (.aload_n 0, 1) := by decide +kernel
theorem d_V_touch_30 : decode b_V_touch 30 = .ok (.aload_n 1, 1) := by decide +kernel
theorem d_V_touch_31 : decode b_V_touch 31 = .ok (.iload_n 2, 1) := by decide +kernel
theorem d_V_touch_32 : decode b_V_touch 32 = .ok (.iload_n 3, 1) := by decide +kernel
theorem d_V_touch_33 : decode b_V_touch 33 = .ok (.invokevirtual 149, 3) := by decide +kernel
theorem d_V_touch_36 : decode b_V_touch 36 = .ok (.ireturn, 1) := by decide +kernel
theorem d_V_touch_37 : decode b_V_touch 37 = .ok (.iload 4, 2) := by decide +kernel
theorem d_V_touch_39 : decode b_V_touch 39 = .ok (.bipush 8, 2) := by decide +kernel
theorem d_V_touch_41 : decode b_V_touch 41 = .ok (.iand, 1) := by decide +kernel
theorem d_V_touch_42 : decode b_V_touch 42 = .ok (.ifCond .eq 10, 3) := by decide +kernel
theorem d_V_touch_45 : decode b_V_touch 45 = .ok (.iload 4, 2) := by decide +kernel
theorem d_V_touch_47 : decode b_V_touch 47 = .ok (.iload_n 3, 1) := by decide +kernel
theorem d_V_touch_48 : decode b_V_touch 48 = .ok (.iand, 1) := by decide +kernel
theorem d_V_touch_49 : decode b_V_touch 49 = .ok (.ifCond .ne 9, 3) := by decide +kernel
theorem d_V_touch_52 : decode b_V_touch 52 = .ok (.aload_n 0, 1) := by decide +kernel
theorem d_V_touch_53 : decode b_V_touch 53 = .ok (.iconst 1, 1) := by decide +kernel
theorem d_V_touch_54 : decode b_V_touch 54 = .ok (.invokevirtual 111, 3) := by decide +kernel
theorem d_V_touch_57 : decode b_V_touch 57 = .ok (.ireturn, 1) := by decide +kernel
theorem d_V_touch_58 : decode b_V_touch 58 = .ok (.iload 4, 2) := by decide +kernel
theorem d_V_touch_60 : decode b_V_touch 60 = .ok (.invokestatic 81, 3) := by decide +kernel
theorem d_V_touch_63 : decode b_V_touch 63 = .ok (.istore 5, 2) := by decide +kernel
theorem d_V_touch_65 : decode b_V_touch 65 = .ok (.iload_n 3, 1) := by decide +kernel
theorem d_V_touch_66 : decode b_V_touch 66 = .ok (.iconst 2, 1) := by decide +kernel
theorem d_V_touch_67 : decode b_V_touch 67 = .ok (.if_icmp .ne 26, 3) := by decide +kernel
theorem d_V_touch_70 : decode b_V_touch 70 = .ok (.aload_n 0, 1) := by decide +kernel
theorem d_V_touch_71 : decode b_V_touch 71 = .ok (.getfield 23, 3) := by decide +kernel
theorem d_V_touch_74 : decode b_V_touch 74 = .ok (.iload 5, 2) := by decide +kernel
theorem d_V_touch_76 : decode b_V_touch 76 = .ok (.invokevirtual 128, 3) := by decide +kernel
theorem d_V_touch_79 : decode b_V_touch 79 = .ok (.iconst 1, 1) := by decide +kernel
theorem d_V_touch_80 : decode b_V_touch 80 = .ok (.if_icmp .le 13, 3) := by decide +kernel
theorem d_V_touch_83 : decode b_V_touch 83 = .ok (.aload_n 0, 1) := by decide +kernel
theorem d_V_touch_84 : decode b_V_touch 84 = .ok (.aload_n 1, 1) := by decide +kernel
theorem d_V_touch_85 : decode b_V_touch 85 = .ok (.iload_n 2, 1) := by decide +kernel
theorem d_V_touch_86 : decode b_V_touch 86 = .ok (.invokevirtual 152, 3) := by decide +kernel
theorem d_V_touch_89 : decode b_V_touch 89 = .ok (.invokevirtual 155, 3) := by decide +kernel
theorem d_V_touch_92 : decode b_V_touch 92 = .ok (.ireturn, 1) := by decide +kernel
theorem d_V_touch_93 : decode b_V_touch 93 = .ok (.iload 5, 2) := by decide +kernel
theorem d_V_touch_95 : decode b_V_touch 95 = .ok (.ireturn, 1) := by decide +kernel
theorem d_V_touchAbsent_0 : decode b_V_touchAbsent 0 = .ok (.iload_n 2, 1) := by decide +kernel
theorem d_V_touchAbsent_1 : decode b_V_touchAbsent 1 = .ok (.aload_n 1, 1) := by decide +kernel
theorem d_V_touchAbsent_2 : decode b_V_touchAbsent 2 = .ok (.invokevirtual 91, 3) := by decide +kernel
theorem d_V_touchAbsent_5 : decode b_V_touchAbsent 5 = .ok (.if_icmp .ge 8, 3) := by decide +kernel
theorem d_V_touchAbsent_8 : decode b_V_touchAbsent 8 = .ok (.iload_n 3, 1) := by decide +kernel
theorem d_V_touchAbsent_9 : decode b_V_touchAbsent 9 = .ok (.iconst 4, 1) := by decide +kernel
theorem d_V_touchAbsent_10 : decode b_V_touchAbsent 10 = .ok (.if_icmp .ne 9, 3) := by decide +kernel
theorem d_V_touchAbsent_13 : decode b_V_touchAbsent 13 = .ok (.aload_n 0, 1) := by decide +kernel
theorem d_V_touchAbsent_14 : decode b_V_touchAbsent 14 = .ok (.iconst 1, 1) := by decide +kernel
theorem d_V_touchAbsent_15 : decode b_V_touchAbsent 15 = .ok (.invokevirtual 111, 3) := by decide +kernel
theorem d_V_touchAbsent_18 : decode b_V_touchAbsent 18 = .ok (.ireturn, 1) := by decide +kernel
theorem d_V_touchAbsent_19 : decode b_V_touchAbsent 19 = .ok (.aload_n 0, 1) := by decide +kernel
theorem d_V_touchAbsent_20 : decode b_V_touchAbsent 20 = .ok (.aload_n 1, 1) := by decide +kernel
theorem d_V_touchAbsent_21 : decode b_V_touchAbsent 21 = .ok (.iload_n 2, 1) := by decide +kernel
theorem d_V_touchAbsent_22 : decode b_V_touchAbsent 22 = .ok (.bipush 11, 2) := by decide +kernel
theorem d_V_touchAbsent_24 : decode b_V_touchAbsent 24 = .ok (.invokevirtual 75, 3) := by decide +kernel
theorem d_V_touchAbsent_27 : decode b_V_touchAbsent 27 = .ok (.invokevirtual 155, 3) := by decide +kernel
theorem d_V_touchAbsent_30 : decode b_V_touchAbsent 30 = .ok (.ireturn, 1) := by decide +kernel
theorem d_V_frameOrFull_0 : decode b_V_frameOrFull 0 = .ok (.iload_n 1, 1) := by decide +kernel
theorem d_V_frameOrFull_1 : decode b_V_frameOrFull 1 = .ok (.iconst (-1), 1) := by decide +kernel
theorem d_V_frameOrFull_2 : decode b_V_frameOrFull 2 = .ok (.if_icmp .ne 11, 3) := by decide +kernel
theorem d_V_frameOrFull_5 : decode b_V_frameOrFull 5 = .ok (.aload_n 0, 1) := by decide +kernel
theorem d_V_frameOrFull_6 : decode b_V_frameOrFull 6 = .ok (.iconst 3, 1) := by decide +kernel
theorem d_V_frameOrFull_7 : decode b_V_frameOrFull 7 = .ok (.invokevirtual 111, 3) := by decide +kernel
theorem d_V_frameOrFull_10 : decode b_V_frameOrFull 10 = .ok (.goto 4, 3) := by decide +kernel
theorem d_V_frameOrFull_13 : decode b_V_frameOrFull 13 = .ok (.iload_n 1, 1) := by decide +kernel
theorem d_V_frameOrFull_14 : decode b_V_frameOrFull 14 = .ok (.ireturn, 1) := by decide +kernel
theorem d_V_trapped_0 : decode b_V_trapped 0 = .ok (.aload_n 0, 1) := by decide +kernel
theorem d_V_trapped_1 : decode b_V_trapped 1 = .ok (.iload_n 1, 1) := by decide +kernel
theorem d_V_trapped_2 : decode b_V_trapped 2 = .ok (.putfield 103, 3) := by decide +kernel
theorem d_V_trapped_5 : decode b_V_trapped 5 = .ok (.iconst (-1), 1) := by decide +kernel
theorem d_V_trapped_6 : decode b_V_trapped 6 = .ok (.ireturn, 1) := by decide +kernel
theorem d_V_isUsers_0 : decode b_V_isUsers 0 = .ok (.iload_n 0, 1) := by decide +kernel
theorem d_V_isUsers_1 : decode b_V_isUsers 1 = .ok (.ifCond .lt 13, 3) := by decide +kernel
theorem d_V_isUsers_4 : decode b_V_isUsers 4 = .ok (.iload_n 0, 1) := by decide +kernel
theorem d_V_isUsers_5 : decode b_V_isUsers 5 = .ok (.ldc 158, 2) := by decide +kernel
theorem d_V_isUsers_7 : decode b_V_isUsers 7 = .ok (.if_icmp .ge 7, 3) := by decide +kernel
theorem d_V_isUsers_10 : decode b_V_isUsers 10 = .ok (.iconst 1, 1) := by decide +kernel
theorem d_V_isUsers_11 : decode b_V_isUsers 11 = .ok (.goto 4, 3) := by decide +kernel
theorem d_V_isUsers_14 : decode b_V_isUsers 14 = .ok (.iconst 0, 1) := by decide +kernel
theorem d_V_isUsers_15 : decode b_V_isUsers 15 = .ok (.ireturn, 1) := by decide +kernel
theorem d_V_beginsPage_0 : decode b_V_beginsPage 0 = .ok (.iload_n 0, 1) := by decide +kernel
theorem d_V_beginsPage_1 : decode b_V_beginsPage 1 = .ok (.invokestatic 135, 3) := by decide +kernel
theorem d_V_beginsPage_4 : decode b_V_beginsPage 4 = .ok (.ifCond .eq 15, 3) := by decide +kernel
theorem d_V_beginsPage_7 : decode b_V_beginsPage 7 = .ok (.iload_n 0, 1) := by decide +kernel
theorem d_V_beginsPage_8 : decode b_V_beginsPage 8 = .ok (.sipush 4096, 3) := by decide +kernel
theorem d_V_beginsPage_11 : decode b_V_beginsPage 11 = .ok (.irem, 1) := by decide +kernel
theorem d_V_beginsPage_12 : decode b_V_beginsPage 12 = .ok (.ifCond .ne 7, 3) := by decide +kernel
theorem d_V_beginsPage_15 : decode b_V_beginsPage 15 = .ok (.iconst 1, 1) := by decide +kernel
theorem d_V_beginsPage_16 : decode b_V_beginsPage 16 = .ok (.goto 4, 3) := by decide +kernel
theorem d_V_beginsPage_19 : decode b_V_beginsPage 19 = .ok (.iconst 0, 1) := by decide +kernel
theorem d_V_beginsPage_20 : decode b_V_beginsPage 20 = .ok (.ireturn, 1) := by decide +kernel
theorem d_V_areFlags_0 : decode b_V_areFlags 0 = .ok (.iload_n 0, 1) := by decide +kernel
theorem d_V_areFlags_1 : decode b_V_areFlags 1 = .ok (.ifCond .lt 13, 3) := by decide +kernel
theorem d_V_areFlags_4 : decode b_V_areFlags 4 = .ok (.iload_n 0, 1) := by decide +kernel
theorem d_V_areFlags_5 : decode b_V_areFlags 5 = .ok (.bipush 15, 2) := by decide +kernel
theorem d_V_areFlags_7 : decode b_V_areFlags 7 = .ok (.if_icmp .gt 7, 3) := by decide +kernel
theorem d_V_areFlags_10 : decode b_V_areFlags 10 = .ok (.iconst 1, 1) := by decide +kernel
theorem d_V_areFlags_11 : decode b_V_areFlags 11 = .ok (.goto 4, 3) := by decide +kernel
theorem d_V_areFlags_14 : decode b_V_areFlags 14 = .ok (.iconst 0, 1) := by decide +kernel
theorem d_V_areFlags_15 : decode b_V_areFlags 15 = .ok (.ireturn, 1) := by decide +kernel
theorem d_V_isStraight_0 : decode b_V_isStraight 0 = .ok (.iload_n 1, 1) := by decide +kernel
theorem d_V_isStraight_1 : decode b_V_isStraight 1 = .ok (.iconst 1, 1) := by decide +kernel
theorem d_V_isStraight_2 : decode b_V_isStraight 2 = .ok (.if_icmp .eq 13, 3) := by decide +kernel
theorem d_V_isStraight_5 : decode b_V_isStraight 5 = .ok (.iload_n 1, 1) := by decide +kernel
theorem d_V_isStraight_6 : decode b_V_isStraight 6 = .ok (.iconst 2, 1) := by decide +kernel
theorem d_V_isStraight_7 : decode b_V_isStraight 7 = .ok (.if_icmp .eq 8, 3) := by decide +kernel
theorem d_V_isStraight_10 : decode b_V_isStraight 10 = .ok (.iload_n 1, 1) := by decide +kernel
theorem d_V_isStraight_11 : decode b_V_isStraight 11 = .ok (.iconst 4, 1) := by decide +kernel
theorem d_V_isStraight_12 : decode b_V_isStraight 12 = .ok (.if_icmp .ne 13, 3) := by decide +kernel
theorem d_V_isStraight_15 : decode b_V_isStraight 15 = .ok (.iload_n 0, 1) := by decide +kernel
theorem d_V_isStraight_16 : decode b_V_isStraight 16 = .ok (.iload_n 1, 1) := by decide +kernel
theorem d_V_isStraight_17 : decode b_V_isStraight 17 = .ok (.irem, 1) := by decide +kernel
theorem d_V_isStraight_18 : decode b_V_isStraight 18 = .ok (.ifCond .ne 7, 3) := by decide +kernel
theorem d_V_isStraight_21 : decode b_V_isStraight 21 = .ok (.iconst 1, 1) := by decide +kernel
theorem d_V_isStraight_22 : decode b_V_isStraight 22 = .ok (.goto 4, 3) := by decide +kernel
theorem d_V_isStraight_25 : decode b_V_isStraight 25 = .ok (.iconst 0, 1) := by decide +kernel
theorem d_V_isStraight_26 : decode b_V_isStraight 26 = .ok (.ireturn, 1) := by decide +kernel
theorem d_V_entryOf_0 : decode b_V_entryOf 0 = .ok (.iload_n 0, 1) := by decide +kernel
theorem d_V_entryOf_1 : decode b_V_entryOf 1 = .ok (.iconst 1, 1) := by decide +kernel
theorem d_V_entryOf_2 : decode b_V_entryOf 2 = .ok (.iadd, 1) := by decide +kernel
theorem d_V_entryOf_3 : decode b_V_entryOf 3 = .ok (.iconst 4, 1) := by decide +kernel
theorem d_V_entryOf_4 : decode b_V_entryOf 4 = .ok (.ishl, 1) := by decide +kernel
theorem d_V_entryOf_5 : decode b_V_entryOf 5 = .ok (.iload_n 1, 1) := by decide +kernel
theorem d_V_entryOf_6 : decode b_V_entryOf 6 = .ok (.ior, 1) := by decide +kernel
theorem d_V_entryOf_7 : decode b_V_entryOf 7 = .ok (.ireturn, 1) := by decide +kernel
theorem d_V_frameOf_0 : decode b_V_frameOf 0 = .ok (.iload_n 0, 1) := by decide +kernel
theorem d_V_frameOf_1 : decode b_V_frameOf 1 = .ok (.iconst 4, 1) := by decide +kernel
theorem d_V_frameOf_2 : decode b_V_frameOf 2 = .ok (.iushr, 1) := by decide +kernel
theorem d_V_frameOf_3 : decode b_V_frameOf 3 = .ok (.iconst 1, 1) := by decide +kernel
theorem d_V_frameOf_4 : decode b_V_frameOf 4 = .ok (.isub, 1) := by decide +kernel
theorem d_V_frameOf_5 : decode b_V_frameOf 5 = .ok (.ireturn, 1) := by decide +kernel
theorem d_V_flagsOf_0 : decode b_V_flagsOf 0 = .ok (.iload_n 0, 1) := by decide +kernel
theorem d_V_flagsOf_1 : decode b_V_flagsOf 1 = .ok (.bipush 15, 2) := by decide +kernel
theorem d_V_flagsOf_3 : decode b_V_flagsOf 3 = .ok (.iand, 1) := by decide +kernel
theorem d_V_flagsOf_4 : decode b_V_flagsOf 4 = .ok (.ireturn, 1) := by decide +kernel
theorem d_M_init_0 : decode b_M_init 0 = .ok (.aload_n 0, 1) := by decide +kernel
theorem d_M_init_1 : decode b_M_init 1 = .ok (.invokespecial 1, 3) := by decide +kernel
theorem d_M_init_4 : decode b_M_init 4 = .ok (.aload_n 0, 1) := by decide +kernel
theorem d_M_init_5 : decode b_M_init 5 = .ok (.bipush 16, 2) := by decide +kernel
theorem d_M_init_7 : decode b_M_init 7 = .ok (.newarray .boolean, 2) := by decide +kernel
theorem d_M_init_9 : decode b_M_init 9 = .ok (.putfield 7, 3) := by decide +kernel
theorem d_M_init_12 : decode b_M_init 12 = .ok (.aload_n 0, 1) := by decide +kernel
theorem d_M_init_13 : decode b_M_init 13 = .ok (.bipush 16, 2) := by decide +kernel
theorem d_M_init_15 : decode b_M_init 15 = .ok (.newarray .int, 2) := by decide +kernel
theorem d_M_init_17 : decode b_M_init 17 = .ok (.putfield 13, 3) := by decide +kernel
theorem d_M_init_20 : decode b_M_init 20 = .ok (.aload_n 0, 1) := by decide +kernel
theorem d_M_init_21 : decode b_M_init 21 = .ok (.sipush 128, 3) := by decide +kernel
theorem d_M_init_24 : decode b_M_init 24 = .ok (.newarray .int, 2) := by decide +kernel
theorem d_M_init_26 : decode b_M_init 26 = .ok (.putfield 17, 3) := by decide +kernel
theorem d_M_init_29 : decode b_M_init 29 = .ok (.aload_n 0, 1) := by decide +kernel
theorem d_M_init_30 : decode b_M_init 30 = .ok (.sipush 128, 3) := by decide +kernel
theorem d_M_init_33 : decode b_M_init 33 = .ok (.newarray .int, 2) := by decide +kernel
theorem d_M_init_35 : decode b_M_init 35 = .ok (.putfield 20, 3) := by decide +kernel
theorem d_M_init_38 : decode b_M_init 38 = .ok (.aload_n 0, 1) := by decide +kernel
theorem d_M_init_39 : decode b_M_init 39 = .ok (.sipush 128, 3) := by decide +kernel
theorem d_M_init_42 : decode b_M_init 42 = .ok (.newarray .int, 2) := by decide +kernel
theorem d_M_init_44 : decode b_M_init 44 = .ok (.putfield 23, 3) := by decide +kernel
theorem d_M_init_47 : decode b_M_init 47 = .ok (.aload_n 0, 1) := by decide +kernel
theorem d_M_init_48 : decode b_M_init 48 = .ok (.sipush 128, 3) := by decide +kernel
theorem d_M_init_51 : decode b_M_init 51 = .ok (.newarray .int, 2) := by decide +kernel
theorem d_M_init_53 : decode b_M_init 53 = .ok (.putfield 26, 3) := by decide +kernel
theorem d_M_init_56 : decode b_M_init 56 = .ok (.aload_n 0, 1) := by decide +kernel
theorem d_M_init_57 : decode b_M_init 57 = .ok (.bipush 32, 2) := by decide +kernel
theorem d_M_init_59 : decode b_M_init 59 = .ok (.newarray .int, 2) := by decide +kernel
theorem d_M_init_61 : decode b_M_init 61 = .ok (.putfield 29, 3) := by decide +kernel
theorem d_M_init_64 : decode b_M_init 64 = .ok (.aload_n 0, 1) := by decide +kernel
theorem d_M_init_65 : decode b_M_init 65 = .ok (.bipush 32, 2) := by decide +kernel
theorem d_M_init_67 : decode b_M_init 67 = .ok (.newarray .int, 2) := by decide +kernel
theorem d_M_init_69 : decode b_M_init 69 = .ok (.putfield 32, 3) := by decide +kernel
theorem d_M_init_72 : decode b_M_init 72 = .ok (.aload_n 0, 1) := by decide +kernel
theorem d_M_init_73 : decode b_M_init 73 = .ok (.sipush 1536, 3) := by decide +kernel
theorem d_M_init_76 : decode b_M_init 76 = .ok (.newarray .int, 2) := by decide +kernel
theorem d_M_init_78 : decode b_M_init 78 = .ok (.putfield 35, 3) := by decide +kernel
theorem d_M_init_81 : decode b_M_init 81 = .ok (.aload_n 0, 1) := by decide +kernel
theorem d_M_init_82 : decode b_M_init 82 = .ok (.sipush 1536, 3) := by decide +kernel
theorem d_M_init_85 : decode b_M_init 85 = .ok (.newarray .int, 2) := by decide +kernel
theorem d_M_init_87 : decode b_M_init 87 = .ok (.putfield 38, 3) := by decide +kernel
theorem d_M_init_90 : decode b_M_init 90 = .ok (.aload_n 0, 1) := by decide +kernel
theorem d_M_init_91 : decode b_M_init 91 = .ok (.sipush 1536, 3) := by decide +kernel
theorem d_M_init_94 : decode b_M_init 94 = .ok (.newarray .int, 2) := by decide +kernel
theorem d_M_init_96 : decode b_M_init 96 = .ok (.putfield 41, 3) := by decide +kernel
theorem d_M_init_99 : decode b_M_init 99 = .ok (.aload_n 0, 1) := by decide +kernel
theorem d_M_init_100 : decode b_M_init 100 = .ok (.sipush 1536, 3) := by decide +kernel
theorem d_M_init_103 : decode b_M_init 103 = .ok (.newarray .int, 2) := by decide +kernel
theorem d_M_init_105 : decode b_M_init 105 = .ok (.putfield 44, 3) := by decide +kernel
theorem d_M_init_108 : decode b_M_init 108 = .ok (.aload_n 0, 1) := by decide +kernel
theorem d_M_init_109 : decode b_M_init 109 = .ok (.sipush 1536, 3) := by decide +kernel
theorem d_M_init_112 : decode b_M_init 112 = .ok (.newarray .int, 2) := by decide +kernel
theorem d_M_init_114 : decode b_M_init 114 = .ok (.putfield 47, 3) := by decide +kernel
theorem d_M_init_117 : decode b_M_init 117 = .ok (.aload_n 0, 1) := by decide +kernel
theorem d_M_init_118 : decode b_M_init 118 = .ok (.iload_n 1, 1) := by decide +kernel
theorem d_M_init_119 : decode b_M_init 119 = .ok (.bipush 8, 2) := by decide +kernel
theorem d_M_init_121 : decode b_M_init 121 = .ok (.if_icmp .ge 8, 3) := by decide +kernel
theorem d_M_init_124 : decode b_M_init 124 = .ok (.bipush 8, 2) := by decide +kernel
theorem d_M_init_126 : decode b_M_init 126 = .ok (.goto 15, 3) := by decide +kernel
theorem d_M_init_129 : decode b_M_init 129 = .ok (.iload_n 1, 1) := by decide +kernel
theorem d_M_init_130 : decode b_M_init 130 = .ok (.bipush 32, 2) := by decide +kernel
theorem d_M_init_132 : decode b_M_init 132 = .ok (.if_icmp .le 8, 3) := by decide +kernel
theorem d_M_init_135 : decode b_M_init 135 = .ok (.bipush 32, 2) := by decide +kernel
theorem d_M_init_137 : decode b_M_init 137 = .ok (.goto 4, 3) := by decide +kernel
theorem d_M_init_140 : decode b_M_init 140 = .ok (.iload_n 1, 1) := by decide +kernel
theorem d_M_init_141 : decode b_M_init 141 = .ok (.putfield 50, 3) := by decide +kernel
theorem d_M_init_144 : decode b_M_init 144 = .ok (.return_, 1) := by decide +kernel
theorem d_M_note_0 : decode b_M_note 0 = .ok (.aload_n 0, 1) := by decide +kernel
theorem d_M_note_1 : decode b_M_note 1 = .ok (.getfield 35, 3) := by decide +kernel
theorem d_M_note_4 : decode b_M_note 4 = .ok (.aload_n 0, 1) := by decide +kernel
theorem d_M_note_5 : decode b_M_note 5 = .ok (.getfield 54, 3) := by decide +kernel
theorem d_M_note_8 : decode b_M_note 8 = .ok (.iload_n 1, 1) := by decide +kernel
theorem d_M_note_9 : decode b_M_note 9 = .ok (.iastore, 1) := by decide +kernel
theorem d_M_note_10 : decode b_M_note 10 = .ok (.aload_n 0, 1) := by decide +kernel
theorem d_M_note_11 : decode b_M_note 11 = .ok (.getfield 38, 3) := by decide +kernel
theorem d_M_note_14 : decode b_M_note 14 = .ok (.aload_n 0, 1) := by decide +kernel
theorem d_M_note_15 : decode b_M_note 15 = .ok (.getfield 54, 3) := by decide +kernel
theorem d_M_note_18 : decode b_M_note 18 = .ok (.iload_n 2, 1) := by decide +kernel
theorem d_M_note_19 : decode b_M_note 19 = .ok (.iastore, 1) := by decide +kernel
theorem d_M_note_20 : decode b_M_note 20 = .ok (.aload_n 0, 1) := by decide +kernel
theorem d_M_note_21 : decode b_M_note 21 = .ok (.getfield 41, 3) := by decide +kernel
theorem d_M_note_24 : decode b_M_note 24 = .ok (.aload_n 0, 1) := by decide +kernel
theorem d_M_note_25 : decode b_M_note 25 = .ok (.getfield 54, 3) := by decide +kernel
theorem d_M_note_28 : decode b_M_note 28 = .ok (.iload_n 3, 1) := by decide +kernel
theorem d_M_note_29 : decode b_M_note 29 = .ok (.iastore, 1) := by decide +kernel
theorem d_M_note_30 : decode b_M_note 30 = .ok (.aload_n 0, 1) := by decide +kernel
theorem d_M_note_31 : decode b_M_note 31 = .ok (.getfield 44, 3) := by decide +kernel
theorem d_M_note_34 : decode b_M_note 34 = .ok (.aload_n 0, 1) := by decide +kernel
theorem d_M_note_35 : decode b_M_note 35 = .ok (.getfield 54, 3) := by decide +kernel
theorem d_M_note_38 : decode b_M_note 38 = .ok (.iload 4, 2) := by decide +kernel
theorem d_M_note_40 : decode b_M_note 40 = .ok (.iastore, 1) := by decide +kernel
theorem d_M_note_41 : decode b_M_note 41 = .ok (.aload_n 0, 1) := by decide +kernel
theorem d_M_note_42 : decode b_M_note 42 = .ok (.getfield 47, 3) := by decide +kernel
theorem d_M_note_45 : decode b_M_note 45 = .ok (.aload_n 0, 1) := by decide +kernel
theorem d_M_note_46 : decode b_M_note 46 = .ok (.getfield 54, 3) := by decide +kernel
theorem d_M_note_49 : decode b_M_note 49 = .ok (.iload 5, 2) := by decide +kernel
theorem d_M_note_51 : decode b_M_note 51 = .ok (.iastore, 1) := by decide +kernel
theorem d_M_note_52 : decode b_M_note 52 = .ok (.aload_n 0, 1) := by decide +kernel
theorem d_M_note_53 : decode b_M_note 53 = .ok (.dup, 1) := by decide +kernel
theorem d_M_note_54 : decode b_M_note 54 = .ok (.getfield 54, 3) := by decide +kernel
theorem d_M_note_57 : decode b_M_note 57 = .ok (.iconst 1, 1) := by decide +kernel
theorem d_M_note_58 : decode b_M_note 58 = .ok (.iadd, 1) := by decide +kernel
theorem d_M_note_59 : decode b_M_note 59 = .ok (.putfield 54, 3) := by decide +kernel
theorem d_M_note_62 : decode b_M_note 62 = .ok (.return_, 1) := by decide +kernel
theorem d_M_byteOf_0 : decode b_M_byteOf 0 = .ok (.iload_n 1, 1) := by decide +kernel
theorem d_M_byteOf_1 : decode b_M_byteOf 1 = .ok (.istore_n 3, 1) := by decide +kernel
theorem d_M_byteOf_2 : decode b_M_byteOf 2 = .ok (.iload_n 2, 1) := by decide +kernel
theorem d_M_byteOf_3 : decode b_M_byteOf 3 = .ok (.istore 4, 2) := by decide +kernel
theorem d_M_byteOf_5 : decode b_M_byteOf 5 = .ok (.aload_n 0, 1) := by decide +kernel
theorem d_M_byteOf_6 : decode b_M_byteOf 6 = .ok (.getfield 54, 3) := by decide +kernel
theorem d_M_byteOf_9 : decode b_M_byteOf 9 = .ok (.iconst 1, 1) := by decide +kernel
theorem d_M_byteOf_10 : decode b_M_byteOf 10 = .ok (.isub, 1) := by decide +kernel
theorem d_M_byteOf_11 : decode b_M_byteOf 11 = .ok (.istore 5, 2) := by decide +kernel
theorem d_M_byteOf_13 : decode b_M_byteOf 13 = .ok (.iload 5, 2) := by decide +kernel
theorem d_M_byteOf_15 : decode b_M_byteOf 15 = .ok (.ifCond .lt 204, 3) := by decide +kernel
theorem d_M_byteOf_18 : decode b_M_byteOf 18 = .ok (.aload_n 0, 1) := by decide +kernel
theorem d_M_byteOf_19 : decode b_M_byteOf 19 = .ok (.getfield 35, 3) := by decide +kernel
theorem d_M_byteOf_22 : decode b_M_byteOf 22 = .ok (.iload 5, 2) := by decide +kernel
theorem d_M_byteOf_24 : decode b_M_byteOf 24 = .ok (.iaload, 1) := by decide +kernel
theorem d_M_byteOf_25 : decode b_M_byteOf 25 = .ok (.istore 6, 2) := by decide +kernel
theorem d_M_byteOf_27 : decode b_M_byteOf 27 = .ok (.iload 4, 2) := by decide +kernel
theorem d_M_byteOf_29 : decode b_M_byteOf 29 = .ok (.aload_n 0, 1) := by decide +kernel
theorem d_M_byteOf_30 : decode b_M_byteOf 30 = .ok (.getfield 41, 3) := by decide +kernel
theorem d_M_byteOf_33 : decode b_M_byteOf 33 = .ok (.iload 5, 2) := by decide +kernel
theorem d_M_byteOf_35 : decode b_M_byteOf 35 = .ok (.iaload, 1) := by decide +kernel
theorem d_M_byteOf_36 : decode b_M_byteOf 36 = .ok (.isub, 1) := by decide +kernel
theorem d_M_byteOf_37 : decode b_M_byteOf 37 = .ok (.istore 7, 2) := by decide +kernel
theorem d_M_byteOf_39 : decode b_M_byteOf 39 = .ok (.iload 7, 2) := by decide +kernel
theorem d_M_byteOf_41 : decode b_M_byteOf 41 = .ok (.ifCond .lt 19, 3) := by decide +kernel
theorem d_M_byteOf_44 : decode b_M_byteOf 44 = .ok (.iload 7, 2) := by decide +kernel
theorem d_M_byteOf_46 : decode b_M_byteOf 46 = .ok (.aload_n 0, 1) := by decide +kernel
theorem d_M_byteOf_47 : decode b_M_byteOf 47 = .ok (.getfield 44, 3) := by decide +kernel
theorem d_M_byteOf_50 : decode b_M_byteOf 50 = .ok (.iload 5, 2) := by decide +kernel
theorem d_M_byteOf_52 : decode b_M_byteOf 52 = .ok (.iaload, 1) := by decide +kernel
theorem d_M_byteOf_53 : decode b_M_byteOf 53 = .ok (.if_icmp .ge 7, 3) := by decide +kernel
theorem d_M_byteOf_56 : decode b_M_byteOf 56 = .ok (.iconst 1, 1) := by decide +kernel
theorem d_M_byteOf_57 : decode b_M_byteOf 57 = .ok (.goto 4, 3) := by decide +kernel
theorem d_M_byteOf_60 : decode b_M_byteOf 60 = .ok (.iconst 0, 1) := by decide +kernel
theorem d_M_byteOf_61 : decode b_M_byteOf 61 = .ok (.istore 8, 2) := by decide +kernel
theorem d_M_byteOf_63 : decode b_M_byteOf 63 = .ok (.iload_n 3, 1) := by decide +kernel
theorem d_M_byteOf_64 : decode b_M_byteOf 64 = .ok (.iconst (-1), 1) := by decide +kernel
theorem d_M_byteOf_65 : decode b_M_byteOf 65 = .ok (.if_icmp .ne 64, 3) := by decide +kernel
theorem d_M_byteOf_68 : decode b_M_byteOf 68 = .ok (.iload 6, 2) := by decide +kernel
theorem d_M_byteOf_70 : decode b_M_byteOf 70 = .ok (.bipush 6, 2) := by decide +kernel
theorem d_M_byteOf_72 : decode b_M_byteOf 72 = .ok (.if_icmp .ne 16, 3) := by decide +kernel
theorem d_M_byteOf_75 : decode b_M_byteOf 75 = .ok (.iload 8, 2) := by decide +kernel
theorem d_M_byteOf_77 : decode b_M_byteOf 77 = .ok (.ifCond .eq 11, 3) := by decide +kernel
theorem d_M_byteOf_80 : decode b_M_byteOf 80 = .ok (.aload_n 0, 1) := by decide +kernel
theorem d_M_byteOf_81 : decode b_M_byteOf 81 = .ok (.getfield 47, 3) := by decide +kernel
theorem d_M_byteOf_84 : decode b_M_byteOf 84 = .ok (.iload 5, 2) := by decide +kernel
theorem d_M_byteOf_86 : decode b_M_byteOf 86 = .ok (.iaload, 1) := by decide +kernel
theorem d_M_byteOf_87 : decode b_M_byteOf 87 = .ok (.ireturn, 1) := by decide +kernel
theorem d_M_byteOf_88 : decode b_M_byteOf 88 = .ok (.iload 6, 2) := by decide +kernel
theorem d_M_byteOf_90 : decode b_M_byteOf 90 = .ok (.iconst 5, 1) := by decide +kernel
theorem d_M_byteOf_91 : decode b_M_byteOf 91 = .ok (.if_icmp .ne 122, 3) := by decide +kernel
theorem d_M_byteOf_94 : decode b_M_byteOf 94 = .ok (.iload 4, 2) := by decide +kernel
theorem d_M_byteOf_96 : decode b_M_byteOf 96 = .ok (.aload_n 0, 1) := by decide +kernel
theorem d_M_byteOf_97 : decode b_M_byteOf 97 = .ok (.getfield 44, 3) := by decide +kernel
theorem d_M_byteOf_100 : decode b_M_byteOf 100 = .ok (.iload 5, 2) := by decide +kernel
theorem d_M_byteOf_102 : decode b_M_byteOf 102 = .ok (.iaload, 1) := by decide +kernel
theorem d_M_byteOf_103 : decode b_M_byteOf 103 = .ok (.if_icmp .ge 110, 3) := by decide +kernel
theorem d_M_byteOf_106 : decode b_M_byteOf 106 = .ok (.aload_n 0, 1) := by decide +kernel
theorem d_M_byteOf_107 : decode b_M_byteOf 107 = .ok (.getfield 38, 3) := by decide +kernel
theorem d_M_byteOf_110 : decode b_M_byteOf 110 = .ok (.iload 5, 2) := by decide +kernel
theorem d_M_byteOf_112 : decode b_M_byteOf 112 = .ok (.iaload, 1) := by decide +kernel
theorem d_M_byteOf_113 : decode b_M_byteOf 113 = .ok (.istore_n 3, 1) := by decide +kernel
theorem d_M_byteOf_114 : decode b_M_byteOf 114 = .ok (.aload_n 0, 1) := by decide +kernel
theorem d_M_byteOf_115 : decode b_M_byteOf 115 = .ok (.getfield 41, 3) := by decide +kernel
theorem d_M_byteOf_118 : decode b_M_byteOf 118 = .ok (.iload 5, 2) := by decide +kernel
theorem d_M_byteOf_120 : decode b_M_byteOf 120 = .ok (.iaload, 1) := by decide +kernel
theorem d_M_byteOf_121 : decode b_M_byteOf 121 = .ok (.iload 4, 2) := by decide +kernel
theorem d_M_byteOf_123 : decode b_M_byteOf 123 = .ok (.iadd, 1) := by decide +kernel
theorem d_M_byteOf_124 : decode b_M_byteOf 124 = .ok (.istore 4, 2) := by decide +kernel
theorem d_M_byteOf_126 : decode b_M_byteOf 126 = .ok (.goto 87, 3) := by decide +kernel
theorem d_M_byteOf_129 : decode b_M_byteOf 129 = .ok (.aload_n 0, 1) := by decide +kernel
theorem d_M_byteOf_130 : decode b_M_byteOf 130 = .ok (.getfield 38, 3) := by decide +kernel
theorem d_M_byteOf_133 : decode b_M_byteOf 133 = .ok (.iload 5, 2) := by decide +kernel
theorem d_M_byteOf_135 : decode b_M_byteOf 135 = .ok (.iaload, 1) := by decide +kernel
theorem d_M_byteOf_136 : decode b_M_byteOf 136 = .ok (.iload_n 3, 1) := by decide +kernel
theorem d_M_byteOf_137 : decode b_M_byteOf 137 = .ok (.if_icmp .ne 76, 3) := by decide +kernel
theorem d_M_byteOf_140 : decode b_M_byteOf 140 = .ok (.iload 6, 2) := by decide +kernel
theorem d_M_byteOf_142 : decode b_M_byteOf 142 = .ok (.iconst 1, 1) := by decide +kernel
theorem d_M_byteOf_143 : decode b_M_byteOf 143 = .ok (.if_icmp .ne 11, 3) := by decide +kernel
theorem d_M_byteOf_146 : decode b_M_byteOf 146 = .ok (.aload_n 0, 1) := by decide +kernel
theorem d_M_byteOf_147 : decode b_M_byteOf 147 = .ok (.getfield 47, 3) := by decide +kernel
theorem d_M_byteOf_150 : decode b_M_byteOf 150 = .ok (.iload 5, 2) := by decide +kernel
theorem d_M_byteOf_152 : decode b_M_byteOf 152 = .ok (.iaload, 1) := by decide +kernel
theorem d_M_byteOf_153 : decode b_M_byteOf 153 = .ok (.istore_n 3, 1) := by decide +kernel
theorem d_M_byteOf_154 : decode b_M_byteOf 154 = .ok (.iload 6, 2) := by decide +kernel
theorem d_M_byteOf_156 : decode b_M_byteOf 156 = .ok (.iconst 2, 1) := by decide +kernel
theorem d_M_byteOf_157 : decode b_M_byteOf 157 = .ok (.if_icmp .ne 10, 3) := by decide +kernel
theorem d_M_byteOf_160 : decode b_M_byteOf 160 = .ok (.iload 8, 2) := by decide +kernel
theorem d_M_byteOf_162 : decode b_M_byteOf 162 = .ok (.ifCond .eq 5, 3) := by decide +kernel
theorem d_M_byteOf_165 : decode b_M_byteOf 165 = .ok (.iconst 0, 1) := by decide +kernel
theorem d_M_byteOf_166 : decode b_M_byteOf 166 = .ok (.ireturn, 1) := by decide +kernel
theorem d_M_byteOf_167 : decode b_M_byteOf 167 = .ok (.iload 6, 2) := by decide +kernel
theorem d_M_byteOf_169 : decode b_M_byteOf 169 = .ok (.iconst 3, 1) := by decide +kernel
theorem d_M_byteOf_170 : decode b_M_byteOf 170 = .ok (.if_icmp .ne 26, 3) := by decide +kernel
theorem d_M_byteOf_173 : decode b_M_byteOf 173 = .ok (.iload 8, 2) := by decide +kernel
theorem d_M_byteOf_175 : decode b_M_byteOf 175 = .ok (.ifCond .eq 21, 3) := by decide +kernel
theorem d_M_byteOf_178 : decode b_M_byteOf 178 = .ok (.aload_n 0, 1) := by decide +kernel
theorem d_M_byteOf_179 : decode b_M_byteOf 179 = .ok (.getfield 47, 3) := by decide +kernel
theorem d_M_byteOf_182 : decode b_M_byteOf 182 = .ok (.iload 5, 2) := by decide +kernel
theorem d_M_byteOf_184 : decode b_M_byteOf 184 = .ok (.iaload, 1) := by decide +kernel
theorem d_M_byteOf_185 : decode b_M_byteOf 185 = .ok (.bipush 8, 2) := by decide +kernel
theorem d_M_byteOf_187 : decode b_M_byteOf 187 = .ok (.iload 7, 2) := by decide +kernel
end
section
theorem d_M_byteOf_189 : decode b_M_byteOf 189 = .ok (.imul, 1) := by decide +kernel
theorem d_M_byteOf_190 : decode b_M_byteOf 190 = .ok (.iushr, 1) := by decide +kernel
theorem d_M_byteOf_191 : decode b_M_byteOf 191 = .ok (.sipush 255, 3) := by decide +kernel
theorem d_M_byteOf_194 : decode b_M_byteOf 194 = .ok (.iand, 1) := by decide +kernel
theorem d_M_byteOf_195 : decode b_M_byteOf 195 = .ok (.ireturn, 1) := by decide +kernel
theorem d_M_byteOf_196 : decode b_M_byteOf 196 = .ok (.iload 6, 2) := by decide +kernel
theorem d_M_byteOf_198 : decode b_M_byteOf 198 = .ok (.iconst 4, 1) := by decide +kernel
theorem d_M_byteOf_199 : decode b_M_byteOf 199 = .ok (.if_icmp .ne 14, 3) := by decide +kernel
theorem d_M_byteOf_202 : decode b_M_byteOf 202 = .ok (.iload 8, 2) := by decide +kernel
theorem d_M_byteOf_204 : decode b_M_byteOf 204 = .ok (.ifCond .eq 9, 3) := by decide +kernel
theorem d_M_byteOf_207 : decode b_M_byteOf 207 = .ok (.iconst (-1), 1) := by decide +kernel
theorem d_M_byteOf_208 : decode b_M_byteOf 208 = .ok (.istore_n 3, 1) := by decide +kernel
theorem d_M_byteOf_209 : decode b_M_byteOf 209 = .ok (.iload 7, 2) := by decide +kernel
theorem d_M_byteOf_211 : decode b_M_byteOf 211 = .ok (.istore 4, 2) := by decide +kernel
theorem d_M_byteOf_213 : decode b_M_byteOf 213 = .ok (.iinc 5 (-1), 3) := by decide +kernel
theorem d_M_byteOf_216 : decode b_M_byteOf 216 = .ok (.goto (-203), 3) := by decide +kernel
theorem d_M_byteOf_219 : decode b_M_byteOf 219 = .ok (.iconst 0, 1) := by decide +kernel
theorem d_M_byteOf_220 : decode b_M_byteOf 220 = .ok (.ireturn, 1) := by decide +kernel
theorem d_M_lives_0 : decode b_M_lives 0 = .ok (.iload_n 1, 1) := by decide +kernel
theorem d_M_lives_1 : decode b_M_lives 1 = .ok (.ifCond .lt 22, 3) := by decide +kernel
theorem d_M_lives_4 : decode b_M_lives 4 = .ok (.iload_n 1, 1) := by decide +kernel
theorem d_M_lives_5 : decode b_M_lives 5 = .ok (.bipush 16, 2) := by decide +kernel
theorem d_M_lives_7 : decode b_M_lives 7 = .ok (.if_icmp .ge 16, 3) := by decide +kernel
theorem d_M_lives_10 : decode b_M_lives 10 = .ok (.aload_n 0, 1) := by decide +kernel
theorem d_M_lives_11 : decode b_M_lives 11 = .ok (.getfield 7, 3) := by decide +kernel
theorem d_M_lives_14 : decode b_M_lives 14 = .ok (.iload_n 1, 1) := by decide +kernel
theorem d_M_lives_15 : decode b_M_lives 15 = .ok (.baload, 1) := by decide +kernel
theorem d_M_lives_16 : decode b_M_lives 16 = .ok (.ifCond .eq 7, 3) := by decide +kernel
theorem d_M_lives_19 : decode b_M_lives 19 = .ok (.iconst 1, 1) := by decide +kernel
theorem d_M_lives_20 : decode b_M_lives 20 = .ok (.goto 4, 3) := by decide +kernel
theorem d_M_lives_23 : decode b_M_lives 23 = .ok (.iconst 0, 1) := by decide +kernel
theorem d_M_lives_24 : decode b_M_lives 24 = .ok (.ireturn, 1) := by decide +kernel
theorem d_M_row_0 : decode b_M_row 0 = .ok (.iload_n 2, 1) := by decide +kernel
theorem d_M_row_1 : decode b_M_row 1 = .ok (.ifCond .ge 5, 3) := by decide +kernel
theorem d_M_row_4 : decode b_M_row 4 = .ok (.iconst (-1), 1) := by decide +kernel
theorem d_M_row_5 : decode b_M_row 5 = .ok (.ireturn, 1) := by decide +kernel
theorem d_M_row_6 : decode b_M_row 6 = .ok (.iconst 0, 1) := by decide +kernel
theorem d_M_row_7 : decode b_M_row 7 = .ok (.istore_n 3, 1) := by decide +kernel
theorem d_M_row_8 : decode b_M_row 8 = .ok (.iload_n 3, 1) := by decide +kernel
theorem d_M_row_9 : decode b_M_row 9 = .ok (.aload_n 0, 1) := by decide +kernel
theorem d_M_row_10 : decode b_M_row 10 = .ok (.getfield 57, 3) := by decide +kernel
theorem d_M_row_13 : decode b_M_row 13 = .ok (.if_icmp .ge 35, 3) := by decide +kernel
theorem d_M_row_16 : decode b_M_row 16 = .ok (.aload_n 0, 1) := by decide +kernel
theorem d_M_row_17 : decode b_M_row 17 = .ok (.getfield 17, 3) := by decide +kernel
theorem d_M_row_20 : decode b_M_row 20 = .ok (.iload_n 3, 1) := by decide +kernel
theorem d_M_row_21 : decode b_M_row 21 = .ok (.iaload, 1) := by decide +kernel
theorem d_M_row_22 : decode b_M_row 22 = .ok (.iload_n 1, 1) := by decide +kernel
theorem d_M_row_23 : decode b_M_row 23 = .ok (.if_icmp .ne 19, 3) := by decide +kernel
theorem d_M_row_26 : decode b_M_row 26 = .ok (.aload_n 0, 1) := by decide +kernel
theorem d_M_row_27 : decode b_M_row 27 = .ok (.getfield 20, 3) := by decide +kernel
theorem d_M_row_30 : decode b_M_row 30 = .ok (.iload_n 3, 1) := by decide +kernel
theorem d_M_row_31 : decode b_M_row 31 = .ok (.iaload, 1) := by decide +kernel
theorem d_M_row_32 : decode b_M_row 32 = .ok (.iload_n 2, 1) := by decide +kernel
theorem d_M_row_33 : decode b_M_row 33 = .ok (.sipush 4096, 3) := by decide +kernel
theorem d_M_row_36 : decode b_M_row 36 = .ok (.idiv, 1) := by decide +kernel
theorem d_M_row_37 : decode b_M_row 37 = .ok (.if_icmp .ne 5, 3) := by decide +kernel
theorem d_M_row_40 : decode b_M_row 40 = .ok (.iload_n 3, 1) := by decide +kernel
theorem d_M_row_41 : decode b_M_row 41 = .ok (.ireturn, 1) := by decide +kernel
theorem d_M_row_42 : decode b_M_row 42 = .ok (.iinc 3 1, 3) := by decide +kernel
theorem d_M_row_45 : decode b_M_row 45 = .ok (.goto (-37), 3) := by decide +kernel
theorem d_M_row_48 : decode b_M_row 48 = .ok (.iconst (-1), 1) := by decide +kernel
theorem d_M_row_49 : decode b_M_row 49 = .ok (.ireturn, 1) := by decide +kernel
theorem d_M_sharers_0 : decode b_M_sharers 0 = .ok (.iconst 0, 1) := by decide +kernel
theorem d_M_sharers_1 : decode b_M_sharers 1 = .ok (.istore_n 2, 1) := by decide +kernel
theorem d_M_sharers_2 : decode b_M_sharers 2 = .ok (.iconst 0, 1) := by decide +kernel
theorem d_M_sharers_3 : decode b_M_sharers 3 = .ok (.istore_n 3, 1) := by decide +kernel
theorem d_M_sharers_4 : decode b_M_sharers 4 = .ok (.iload_n 3, 1) := by decide +kernel
theorem d_M_sharers_5 : decode b_M_sharers 5 = .ok (.aload_n 0, 1) := by decide +kernel
theorem d_M_sharers_6 : decode b_M_sharers 6 = .ok (.getfield 57, 3) := by decide +kernel
theorem d_M_sharers_9 : decode b_M_sharers 9 = .ok (.if_icmp .ge 22, 3) := by decide +kernel
theorem d_M_sharers_12 : decode b_M_sharers 12 = .ok (.aload_n 0, 1) := by decide +kernel
theorem d_M_sharers_13 : decode b_M_sharers 13 = .ok (.getfield 26, 3) := by decide +kernel
theorem d_M_sharers_16 : decode b_M_sharers 16 = .ok (.iload_n 3, 1) := by decide +kernel
theorem d_M_sharers_17 : decode b_M_sharers 17 = .ok (.iaload, 1) := by decide +kernel
theorem d_M_sharers_18 : decode b_M_sharers 18 = .ok (.iload_n 1, 1) := by decide +kernel
theorem d_M_sharers_19 : decode b_M_sharers 19 = .ok (.if_icmp .ne 6, 3) := by decide +kernel
theorem d_M_sharers_22 : decode b_M_sharers 22 = .ok (.iinc 2 1, 3) := by decide +kernel
theorem d_M_sharers_25 : decode b_M_sharers 25 = .ok (.iinc 3 1, 3) := by decide +kernel
theorem d_M_sharers_28 : decode b_M_sharers 28 = .ok (.goto (-24), 3) := by decide +kernel
theorem d_M_sharers_31 : decode b_M_sharers 31 = .ok (.iload_n 2, 1) := by decide +kernel
theorem d_M_sharers_32 : decode b_M_sharers 32 = .ok (.ireturn, 1) := by decide +kernel
theorem d_M_firstOfKin_0 : decode b_M_firstOfKin 0 = .ok (.iconst 0, 1) := by decide +kernel
theorem d_M_firstOfKin_1 : decode b_M_firstOfKin 1 = .ok (.istore_n 2, 1) := by decide +kernel
theorem d_M_firstOfKin_2 : decode b_M_firstOfKin 2 = .ok (.iload_n 2, 1) := by decide +kernel
theorem d_M_firstOfKin_3 : decode b_M_firstOfKin 3 = .ok (.iload_n 1, 1) := by decide +kernel
theorem d_M_firstOfKin_4 : decode b_M_firstOfKin 4 = .ok (.if_icmp .ge 26, 3) := by decide +kernel
theorem d_M_firstOfKin_7 : decode b_M_firstOfKin 7 = .ok (.aload_n 0, 1) := by decide +kernel
theorem d_M_firstOfKin_8 : decode b_M_firstOfKin 8 = .ok (.getfield 26, 3) := by decide +kernel
theorem d_M_firstOfKin_11 : decode b_M_firstOfKin 11 = .ok (.iload_n 2, 1) := by decide +kernel
theorem d_M_firstOfKin_12 : decode b_M_firstOfKin 12 = .ok (.iaload, 1) := by decide +kernel
theorem d_M_firstOfKin_13 : decode b_M_firstOfKin 13 = .ok (.aload_n 0, 1) := by decide +kernel
theorem d_M_firstOfKin_14 : decode b_M_firstOfKin 14 = .ok (.getfield 26, 3) := by decide +kernel
theorem d_M_firstOfKin_17 : decode b_M_firstOfKin 17 = .ok (.iload_n 1, 1) := by decide +kernel
theorem d_M_firstOfKin_18 : decode b_M_firstOfKin 18 = .ok (.iaload, 1) := by decide +kernel
theorem d_M_firstOfKin_19 : decode b_M_firstOfKin 19 = .ok (.if_icmp .ne 5, 3) := by decide +kernel
theorem d_M_firstOfKin_22 : decode b_M_firstOfKin 22 = .ok (.iconst 0, 1) := by decide +kernel
theorem d_M_firstOfKin_23 : decode b_M_firstOfKin 23 = .ok (.ireturn, 1) := by decide +kernel
theorem d_M_firstOfKin_24 : decode b_M_firstOfKin 24 = .ok (.iinc 2 1, 3) := by decide +kernel
theorem d_M_firstOfKin_27 : decode b_M_firstOfKin 27 = .ok (.goto (-25), 3) := by decide +kernel
theorem d_M_firstOfKin_30 : decode b_M_firstOfKin 30 = .ok (.iconst 1, 1) := by decide +kernel
theorem d_M_firstOfKin_31 : decode b_M_firstOfKin 31 = .ok (.ireturn, 1) := by decide +kernel
theorem d_M_freeFrames_0 : decode b_M_freeFrames 0 = .ok (.aload_n 0, 1) := by decide +kernel
theorem d_M_freeFrames_1 : decode b_M_freeFrames 1 = .ok (.getfield 50, 3) := by decide +kernel
theorem d_M_freeFrames_4 : decode b_M_freeFrames 4 = .ok (.aload_n 0, 1) := by decide +kernel
theorem d_M_freeFrames_5 : decode b_M_freeFrames 5 = .ok (.getfield 60, 3) := by decide +kernel
theorem d_M_freeFrames_8 : decode b_M_freeFrames 8 = .ok (.isub, 1) := by decide +kernel
theorem d_M_freeFrames_9 : decode b_M_freeFrames 9 = .ok (.istore_n 1, 1) := by decide +kernel
theorem d_M_freeFrames_10 : decode b_M_freeFrames 10 = .ok (.iconst 0, 1) := by decide +kernel
theorem d_M_freeFrames_11 : decode b_M_freeFrames 11 = .ok (.istore_n 2, 1) := by decide +kernel
theorem d_M_freeFrames_12 : decode b_M_freeFrames 12 = .ok (.iload_n 2, 1) := by decide +kernel
theorem d_M_freeFrames_13 : decode b_M_freeFrames 13 = .ok (.bipush 16, 2) := by decide +kernel
theorem d_M_freeFrames_15 : decode b_M_freeFrames 15 = .ok (.if_icmp .ge 21, 3) := by decide +kernel
theorem d_M_freeFrames_18 : decode b_M_freeFrames 18 = .ok (.aload_n 0, 1) := by decide +kernel
theorem d_M_freeFrames_19 : decode b_M_freeFrames 19 = .ok (.getfield 7, 3) := by decide +kernel
theorem d_M_freeFrames_22 : decode b_M_freeFrames 22 = .ok (.iload_n 2, 1) := by decide +kernel
theorem d_M_freeFrames_23 : decode b_M_freeFrames 23 = .ok (.baload, 1) := by decide +kernel
theorem d_M_freeFrames_24 : decode b_M_freeFrames 24 = .ok (.ifCond .eq 6, 3) := by decide +kernel
theorem d_M_freeFrames_27 : decode b_M_freeFrames 27 = .ok (.iinc 1 (-1), 3) := by decide +kernel
theorem d_M_freeFrames_30 : decode b_M_freeFrames 30 = .ok (.iinc 2 1, 3) := by decide +kernel
theorem d_M_freeFrames_33 : decode b_M_freeFrames 33 = .ok (.goto (-21), 3) := by decide +kernel
theorem d_M_freeFrames_36 : decode b_M_freeFrames 36 = .ok (.iconst 0, 1) := by decide +kernel
theorem d_M_freeFrames_37 : decode b_M_freeFrames 37 = .ok (.istore_n 2, 1) := by decide +kernel
theorem d_M_freeFrames_38 : decode b_M_freeFrames 38 = .ok (.iload_n 2, 1) := by decide +kernel
theorem d_M_freeFrames_39 : decode b_M_freeFrames 39 = .ok (.aload_n 0, 1) := by decide +kernel
theorem d_M_freeFrames_40 : decode b_M_freeFrames 40 = .ok (.getfield 57, 3) := by decide +kernel
theorem d_M_freeFrames_43 : decode b_M_freeFrames 43 = .ok (.if_icmp .ge 20, 3) := by decide +kernel
theorem d_M_freeFrames_46 : decode b_M_freeFrames 46 = .ok (.aload_n 0, 1) := by decide +kernel
theorem d_M_freeFrames_47 : decode b_M_freeFrames 47 = .ok (.iload_n 2, 1) := by decide +kernel
theorem d_M_freeFrames_48 : decode b_M_freeFrames 48 = .ok (.invokevirtual 63, 3) := by decide +kernel
theorem d_M_freeFrames_51 : decode b_M_freeFrames 51 = .ok (.ifCond .eq 6, 3) := by decide +kernel
theorem d_M_freeFrames_54 : decode b_M_freeFrames 54 = .ok (.iinc 1 (-1), 3) := by decide +kernel
theorem d_M_freeFrames_57 : decode b_M_freeFrames 57 = .ok (.iinc 2 1, 3) := by decide +kernel
theorem d_M_freeFrames_60 : decode b_M_freeFrames 60 = .ok (.goto (-22), 3) := by decide +kernel
theorem d_M_freeFrames_63 : decode b_M_freeFrames 63 = .ok (.iload_n 1, 1) := by decide +kernel
theorem d_M_freeFrames_64 : decode b_M_freeFrames 64 = .ok (.ireturn, 1) := by decide +kernel
theorem d_M_hasRegion_0 : decode b_M_hasRegion 0 = .ok (.iconst 0, 1) := by decide +kernel
theorem d_M_hasRegion_1 : decode b_M_hasRegion 1 = .ok (.istore_n 3, 1) := by decide +kernel
theorem d_M_hasRegion_2 : decode b_M_hasRegion 2 = .ok (.iload_n 3, 1) := by decide +kernel
theorem d_M_hasRegion_3 : decode b_M_hasRegion 3 = .ok (.aload_n 0, 1) := by decide +kernel
theorem d_M_hasRegion_4 : decode b_M_hasRegion 4 = .ok (.getfield 60, 3) := by decide +kernel
theorem d_M_hasRegion_7 : decode b_M_hasRegion 7 = .ok (.if_icmp .ge 31, 3) := by decide +kernel
theorem d_M_hasRegion_10 : decode b_M_hasRegion 10 = .ok (.aload_n 0, 1) := by decide +kernel
theorem d_M_hasRegion_11 : decode b_M_hasRegion 11 = .ok (.getfield 29, 3) := by decide +kernel
theorem d_M_hasRegion_14 : decode b_M_hasRegion 14 = .ok (.iload_n 3, 1) := by decide +kernel
theorem d_M_hasRegion_15 : decode b_M_hasRegion 15 = .ok (.iaload, 1) := by decide +kernel
theorem d_M_hasRegion_16 : decode b_M_hasRegion 16 = .ok (.iload_n 1, 1) := by decide +kernel
theorem d_M_hasRegion_17 : decode b_M_hasRegion 17 = .ok (.if_icmp .ne 15, 3) := by decide +kernel
theorem d_M_hasRegion_20 : decode b_M_hasRegion 20 = .ok (.aload_n 0, 1) := by decide +kernel
theorem d_M_hasRegion_21 : decode b_M_hasRegion 21 = .ok (.getfield 32, 3) := by decide +kernel
theorem d_M_hasRegion_24 : decode b_M_hasRegion 24 = .ok (.iload_n 3, 1) := by decide +kernel
theorem d_M_hasRegion_25 : decode b_M_hasRegion 25 = .ok (.iaload, 1) := by decide +kernel
theorem d_M_hasRegion_26 : decode b_M_hasRegion 26 = .ok (.iload_n 2, 1) := by decide +kernel
theorem d_M_hasRegion_27 : decode b_M_hasRegion 27 = .ok (.if_icmp .ne 5, 3) := by decide +kernel
theorem d_M_hasRegion_30 : decode b_M_hasRegion 30 = .ok (.iconst 1, 1) := by decide +kernel
theorem d_M_hasRegion_31 : decode b_M_hasRegion 31 = .ok (.ireturn, 1) := by decide +kernel
theorem d_M_hasRegion_32 : decode b_M_hasRegion 32 = .ok (.iinc 3 1, 3) := by decide +kernel
theorem d_M_hasRegion_35 : decode b_M_hasRegion 35 = .ok (.goto (-33), 3) := by decide +kernel
theorem d_M_hasRegion_38 : decode b_M_hasRegion 38 = .ok (.iconst 0, 1) := by decide +kernel
theorem d_M_hasRegion_39 : decode b_M_hasRegion 39 = .ok (.ireturn, 1) := by decide +kernel
theorem d_M_room_0 : decode b_M_room 0 = .ok (.aload_n 0, 1) := by decide +kernel
theorem d_M_room_1 : decode b_M_room 1 = .ok (.invokevirtual 67, 3) := by decide +kernel
theorem d_M_room_4 : decode b_M_room 4 = .ok (.aload_n 0, 1) := by decide +kernel
theorem d_M_room_5 : decode b_M_room 5 = .ok (.iload_n 1, 1) := by decide +kernel
theorem d_M_room_6 : decode b_M_room 6 = .ok (.iload_n 2, 1) := by decide +kernel
theorem d_M_room_7 : decode b_M_room 7 = .ok (.sipush 1024, 3) := by decide +kernel
theorem d_M_room_10 : decode b_M_room 10 = .ok (.idiv, 1) := by decide +kernel
theorem d_M_room_11 : decode b_M_room 11 = .ok (.invokevirtual 71, 3) := by decide +kernel
theorem d_M_room_14 : decode b_M_room 14 = .ok (.ifCond .eq 7, 3) := by decide +kernel
theorem d_M_room_17 : decode b_M_room 17 = .ok (.iconst 1, 1) := by decide +kernel
theorem d_M_room_18 : decode b_M_room 18 = .ok (.goto 4, 3) := by decide +kernel
theorem d_M_room_21 : decode b_M_room 21 = .ok (.iconst 2, 1) := by decide +kernel
theorem d_M_room_22 : decode b_M_room 22 = .ok (.if_icmp .lt 7, 3) := by decide +kernel
theorem d_M_room_25 : decode b_M_room 25 = .ok (.iconst 1, 1) := by decide +kernel
theorem d_M_room_26 : decode b_M_room 26 = .ok (.goto 4, 3) := by decide +kernel
theorem d_M_room_29 : decode b_M_room 29 = .ok (.iconst 0, 1) := by decide +kernel
theorem d_M_room_30 : decode b_M_room 30 = .ok (.ireturn, 1) := by decide +kernel
theorem d_M_add_0 : decode b_M_add 0 = .ok (.aload_n 0, 1) := by decide +kernel
theorem d_M_add_1 : decode b_M_add 1 = .ok (.iload_n 1, 1) := by decide +kernel
theorem d_M_add_2 : decode b_M_add 2 = .ok (.iload_n 2, 1) := by decide +kernel
theorem d_M_add_3 : decode b_M_add 3 = .ok (.sipush 1024, 3) := by decide +kernel
theorem d_M_add_6 : decode b_M_add 6 = .ok (.idiv, 1) := by decide +kernel
theorem d_M_add_7 : decode b_M_add 7 = .ok (.invokevirtual 71, 3) := by decide +kernel
theorem d_M_add_10 : decode b_M_add 10 = .ok (.ifCond .ne 37, 3) := by decide +kernel
theorem d_M_add_13 : decode b_M_add 13 = .ok (.aload_n 0, 1) := by decide +kernel
theorem d_M_add_14 : decode b_M_add 14 = .ok (.getfield 29, 3) := by decide +kernel
theorem d_M_add_17 : decode b_M_add 17 = .ok (.aload_n 0, 1) := by decide +kernel
theorem d_M_add_18 : decode b_M_add 18 = .ok (.getfield 60, 3) := by decide +kernel
theorem d_M_add_21 : decode b_M_add 21 = .ok (.iload_n 1, 1) := by decide +kernel
theorem d_M_add_22 : decode b_M_add 22 = .ok (.iastore, 1) := by decide +kernel
theorem d_M_add_23 : decode b_M_add 23 = .ok (.aload_n 0, 1) := by decide +kernel
theorem d_M_add_24 : decode b_M_add 24 = .ok (.getfield 32, 3) := by decide +kernel
theorem d_M_add_27 : decode b_M_add 27 = .ok (.aload_n 0, 1) := by decide +kernel
theorem d_M_add_28 : decode b_M_add 28 = .ok (.getfield 60, 3) := by decide +kernel
theorem d_M_add_31 : decode b_M_add 31 = .ok (.iload_n 2, 1) := by decide +kernel
theorem d_M_add_32 : decode b_M_add 32 = .ok (.sipush 1024, 3) := by decide +kernel
theorem d_M_add_35 : decode b_M_add 35 = .ok (.idiv, 1) := by decide +kernel
theorem d_M_add_36 : decode b_M_add 36 = .ok (.iastore, 1) := by decide +kernel
theorem d_M_add_37 : decode b_M_add 37 = .ok (.aload_n 0, 1) := by decide +kernel
theorem d_M_add_38 : decode b_M_add 38 = .ok (.dup, 1) := by decide +kernel
theorem d_M_add_39 : decode b_M_add 39 = .ok (.getfield 60, 3) := by decide +kernel
theorem d_M_add_42 : decode b_M_add 42 = .ok (.iconst 1, 1) := by decide +kernel
theorem d_M_add_43 : decode b_M_add 43 = .ok (.iadd, 1) := by decide +kernel
theorem d_M_add_44 : decode b_M_add 44 = .ok (.putfield 60, 3) := by decide +kernel
theorem d_M_add_47 : decode b_M_add 47 = .ok (.aload_n 0, 1) := by decide +kernel
theorem d_M_add_48 : decode b_M_add 48 = .ok (.getfield 17, 3) := by decide +kernel
theorem d_M_add_51 : decode b_M_add 51 = .ok (.aload_n 0, 1) := by decide +kernel
theorem d_M_add_52 : decode b_M_add 52 = .ok (.getfield 57, 3) := by decide +kernel
theorem d_M_add_55 : decode b_M_add 55 = .ok (.iload_n 1, 1) := by decide +kernel
theorem d_M_add_56 : decode b_M_add 56 = .ok (.iastore, 1) := by decide +kernel
theorem d_M_add_57 : decode b_M_add 57 = .ok (.aload_n 0, 1) := by decide +kernel
theorem d_M_add_58 : decode b_M_add 58 = .ok (.getfield 20, 3) := by decide +kernel
theorem d_M_add_61 : decode b_M_add 61 = .ok (.aload_n 0, 1) := by decide +kernel
theorem d_M_add_62 : decode b_M_add 62 = .ok (.getfield 57, 3) := by decide +kernel
theorem d_M_add_65 : decode b_M_add 65 = .ok (.iload_n 2, 1) := by decide +kernel
theorem d_M_add_66 : decode b_M_add 66 = .ok (.iastore, 1) := by decide +kernel
theorem d_M_add_67 : decode b_M_add 67 = .ok (.aload_n 0, 1) := by decide +kernel
theorem d_M_add_68 : decode b_M_add 68 = .ok (.getfield 23, 3) := by decide +kernel
theorem d_M_add_71 : decode b_M_add 71 = .ok (.aload_n 0, 1) := by decide +kernel
theorem d_M_add_72 : decode b_M_add 72 = .ok (.getfield 57, 3) := by decide +kernel
theorem d_M_add_75 : decode b_M_add 75 = .ok (.iload_n 3, 1) := by decide +kernel
theorem d_M_add_76 : decode b_M_add 76 = .ok (.iastore, 1) := by decide +kernel
theorem d_M_add_77 : decode b_M_add 77 = .ok (.aload_n 0, 1) := by decide +kernel
theorem d_M_add_78 : decode b_M_add 78 = .ok (.getfield 26, 3) := by decide +kernel
theorem d_M_add_81 : decode b_M_add 81 = .ok (.aload_n 0, 1) := by decide +kernel
theorem d_M_add_82 : decode b_M_add 82 = .ok (.getfield 57, 3) := by decide +kernel
theorem d_M_add_85 : decode b_M_add 85 = .ok (.iload 4, 2) := by decide +kernel
theorem d_M_add_87 : decode b_M_add 87 = .ok (.iastore, 1) := by decide +kernel
theorem d_M_add_88 : decode b_M_add 88 = .ok (.aload_n 0, 1) := by decide +kernel
theorem d_M_add_89 : decode b_M_add 89 = .ok (.dup, 1) := by decide +kernel
theorem d_M_add_90 : decode b_M_add 90 = .ok (.getfield 57, 3) := by decide +kernel
theorem d_M_add_93 : decode b_M_add 93 = .ok (.iconst 1, 1) := by decide +kernel
theorem d_M_add_94 : decode b_M_add 94 = .ok (.iadd, 1) := by decide +kernel
theorem d_M_add_95 : decode b_M_add 95 = .ok (.putfield 57, 3) := by decide +kernel
theorem d_M_add_98 : decode b_M_add 98 = .ok (.return_, 1) := by decide +kernel
theorem d_M_addEmpty_0 : decode b_M_addEmpty 0 = .ok (.aload_n 0, 1) := by decide +kernel
theorem d_M_addEmpty_1 : decode b_M_addEmpty 1 = .ok (.iload_n 1, 1) := by decide +kernel
theorem d_M_addEmpty_2 : decode b_M_addEmpty 2 = .ok (.iload_n 2, 1) := by decide +kernel
theorem d_M_addEmpty_3 : decode b_M_addEmpty 3 = .ok (.iload_n 3, 1) := by decide +kernel
theorem d_M_addEmpty_4 : decode b_M_addEmpty 4 = .ok (.aload_n 0, 1) := by decide +kernel
theorem d_M_addEmpty_5 : decode b_M_addEmpty 5 = .ok (.getfield 75, 3) := by decide +kernel
theorem d_M_addEmpty_8 : decode b_M_addEmpty 8 = .ok (.invokevirtual 78, 3) := by decide +kernel
theorem d_M_addEmpty_11 : decode b_M_addEmpty 11 = .ok (.aload_n 0, 1) := by decide +kernel
theorem d_M_addEmpty_12 : decode b_M_addEmpty 12 = .ok (.dup, 1) := by decide +kernel
theorem d_M_addEmpty_13 : decode b_M_addEmpty 13 = .ok (.getfield 75, 3) := by decide +kernel
theorem d_M_addEmpty_16 : decode b_M_addEmpty 16 = .ok (.iconst 1, 1) := by decide +kernel
theorem d_M_addEmpty_17 : decode b_M_addEmpty 17 = .ok (.iadd, 1) := by decide +kernel
theorem d_M_addEmpty_18 : decode b_M_addEmpty 18 = .ok (.putfield 75, 3) := by decide +kernel
theorem d_M_addEmpty_21 : decode b_M_addEmpty 21 = .ok (.aload_n 0, 1) := by decide +kernel
theorem d_M_addEmpty_22 : decode b_M_addEmpty 22 = .ok (.iconst 2, 1) := by decide +kernel
theorem d_M_addEmpty_23 : decode b_M_addEmpty 23 = .ok (.iload_n 1, 1) := by decide +kernel
theorem d_M_addEmpty_24 : decode b_M_addEmpty 24 = .ok (.iload_n 2, 1) := by decide +kernel
theorem d_M_addEmpty_25 : decode b_M_addEmpty 25 = .ok (.sipush 4096, 3) := by decide +kernel
theorem d_M_addEmpty_28 : decode b_M_addEmpty 28 = .ok (.imul, 1) := by decide +kernel
theorem d_M_addEmpty_29 : decode b_M_addEmpty 29 = .ok (.sipush 4096, 3) := by decide +kernel
theorem d_M_addEmpty_32 : decode b_M_addEmpty 32 = .ok (.iconst 0, 1) := by decide +kernel
theorem d_M_addEmpty_33 : decode b_M_addEmpty 33 = .ok (.invokevirtual 82, 3) := by decide +kernel
theorem d_M_addEmpty_36 : decode b_M_addEmpty 36 = .ok (.return_, 1) := by decide +kernel
theorem d_M_removePages_0 : decode b_M_removePages 0 = .ok (.iconst 0, 1) := by decide +kernel
theorem d_M_removePages_1 : decode b_M_removePages 1 = .ok (.istore_n 3, 1) := by decide +kernel
theorem d_M_removePages_2 : decode b_M_removePages 2 = .ok (.iconst 0, 1) := by decide +kernel
theorem d_M_removePages_3 : decode b_M_removePages 3 = .ok (.istore 4, 2) := by decide +kernel
theorem d_M_removePages_5 : decode b_M_removePages 5 = .ok (.iload 4, 2) := by decide +kernel
theorem d_M_removePages_7 : decode b_M_removePages 7 = .ok (.aload_n 0, 1) := by decide +kernel
theorem d_M_removePages_8 : decode b_M_removePages 8 = .ok (.getfield 57, 3) := by decide +kernel
theorem d_M_removePages_11 : decode b_M_removePages 11 = .ok (.if_icmp .ge 90, 3) := by decide +kernel
theorem d_M_removePages_14 : decode b_M_removePages 14 = .ok (.aload_n 0, 1) := by decide +kernel
theorem d_M_removePages_15 : decode b_M_removePages 15 = .ok (.getfield 17, 3) := by decide +kernel
theorem d_M_removePages_18 : decode b_M_removePages 18 = .ok (.iload 4, 2) := by decide +kernel
theorem d_M_removePages_20 : decode b_M_removePages 20 = .ok (.iaload, 1) := by decide +kernel
theorem d_M_removePages_21 : decode b_M_removePages 21 = .ok (.iload_n 1, 1) := by decide +kernel
theorem d_M_removePages_22 : decode b_M_removePages 22 = .ok (.if_icmp .ne 18, 3) := by decide +kernel
theorem d_M_removePages_25 : decode b_M_removePages 25 = .ok (.aload_n 0, 1) := by decide +kernel
theorem d_M_removePages_26 : decode b_M_removePages 26 = .ok (.getfield 20, 3) := by decide +kernel
theorem d_M_removePages_29 : decode b_M_removePages 29 = .ok (.iload 4, 2) := by decide +kernel
theorem d_M_removePages_31 : decode b_M_removePages 31 = .ok (.iaload, 1) := by decide +kernel
theorem d_M_removePages_32 : decode b_M_removePages 32 = .ok (.sipush 4096, 3) := by decide +kernel
theorem d_M_removePages_35 : decode b_M_removePages 35 = .ok (.imul, 1) := by decide +kernel
theorem d_M_removePages_36 : decode b_M_removePages 36 = .ok (.iload_n 2, 1) := by decide +kernel
theorem d_M_removePages_37 : decode b_M_removePages 37 = .ok (.if_icmp .ge 58, 3) := by decide +kernel
theorem d_M_removePages_40 : decode b_M_removePages 40 = .ok (.aload_n 0, 1) := by decide +kernel
theorem d_M_removePages_41 : decode b_M_removePages 41 = .ok (.getfield 17, 3) := by decide +kernel
theorem d_M_removePages_44 : decode b_M_removePages 44 = .ok (.iload_n 3, 1) := by decide +kernel
theorem d_M_removePages_45 : decode b_M_removePages 45 = .ok (.aload_n 0, 1) := by decide +kernel
theorem d_M_removePages_46 : decode b_M_removePages 46 = .ok (.getfield 17, 3) := by decide +kernel
theorem d_M_removePages_49 : decode b_M_removePages 49 = .ok (.iload 4, 2) := by decide +kernel
theorem d_M_removePages_51 : decode b_M_removePages 51 = .ok (.iaload, 1) := by decide +kernel
theorem d_M_removePages_52 : decode b_M_removePages 52 = .ok (.iastore, 1) := by decide +kernel
theorem d_M_removePages_53 : decode b_M_removePages 53 = .ok (.aload_n 0, 1) := by decide +kernel
theorem d_M_removePages_54 : decode b_M_removePages 54 = .ok (.getfield 20, 3) := by decide +kernel
theorem d_M_removePages_57 : decode b_M_removePages 57 = .ok (.iload_n 3, 1) := by decide +kernel
theorem d_M_removePages_58 : decode b_M_removePages 58 = .ok (.aload_n 0, 1) := by decide +kernel
theorem d_M_removePages_59 : decode b_M_removePages 59 = .ok (.getfield 20, 3) := by decide +kernel
theorem d_M_removePages_62 : decode b_M_removePages 62 = .ok (.iload 4, 2) := by decide +kernel
theorem d_M_removePages_64 : decode b_M_removePages 64 = .ok (.iaload, 1) := by decide +kernel
theorem d_M_removePages_65 : decode b_M_removePages 65 = .ok (.iastore, 1) := by decide +kernel
theorem d_M_removePages_66 : decode b_M_removePages 66 = .ok (.aload_n 0, 1) := by decide +kernel
theorem d_M_removePages_67 : decode b_M_removePages 67 = .ok (.getfield 23, 3) := by decide +kernel
theorem d_M_removePages_70 : decode b_M_removePages 70 = .ok (.iload_n 3, 1) := by decide +kernel
theorem d_M_removePages_71 : decode b_M_removePages 71 = .ok (.aload_n 0, 1) := by decide +kernel
theorem d_M_removePages_72 : decode b_M_removePages 72 = .ok (.getfield 23, 3) := by decide +kernel
theorem d_M_removePages_75 : decode b_M_removePages 75 = .ok (.iload 4, 2) := by decide +kernel
theorem d_M_removePages_77 : decode b_M_removePages 77 = .ok (.iaload, 1) := by decide +kernel
theorem d_M_removePages_78 : decode b_M_removePages 78 = .ok (.iastore, 1) := by decide +kernel
theorem d_M_removePages_79 : decode b_M_removePages 79 = .ok (.aload_n 0, 1) := by decide +kernel
theorem d_M_removePages_80 : decode b_M_removePages 80 = .ok (.getfield 26, 3) := by decide +kernel
theorem d_M_removePages_83 : decode b_M_removePages 83 = .ok (.iload_n 3, 1) := by decide +kernel
theorem d_M_removePages_84 : decode b_M_removePages 84 = .ok (.aload_n 0, 1) := by decide +kernel
theorem d_M_removePages_85 : decode b_M_removePages 85 = .ok (.getfield 26, 3) := by decide +kernel
theorem d_M_removePages_88 : decode b_M_removePages 88 = .ok (.iload 4, 2) := by decide +kernel
theorem d_M_removePages_90 : decode b_M_removePages 90 = .ok (.iaload, 1) := by decide +kernel
theorem d_M_removePages_91 : decode b_M_removePages 91 = .ok (.iastore, 1) := by decide +kernel
theorem d_M_removePages_92 : decode b_M_removePages 92 = .ok (.iinc 3 1, 3) := by decide +kernel
theorem d_M_removePages_95 : decode b_M_removePages 95 = .ok (.iinc 4 1, 3) := by decide +kernel
theorem d_M_removePages_98 : decode b_M_removePages 98 = .ok (.goto (-93), 3) := by decide +kernel
theorem d_M_removePages_101 : decode b_M_removePages 101 = .ok (.aload_n 0, 1) := by decide +kernel
theorem d_M_removePages_102 : decode b_M_removePages 102 = .ok (.iload_n 3, 1) := by decide +kernel
theorem d_M_removePages_103 : decode b_M_removePages 103 = .ok (.putfield 57, 3) := by decide +kernel
theorem d_M_removePages_106 : decode b_M_removePages 106 = .ok (.return_, 1) := by decide +kernel
theorem d_M_removeRegions_0 : decode b_M_removeRegions 0 = .ok (.iconst 0, 1) := by decide +kernel
theorem d_M_removeRegions_1 : decode b_M_removeRegions 1 = .ok (.istore_n 2, 1) := by decide +kernel
theorem d_M_removeRegions_2 : decode b_M_removeRegions 2 = .ok (.iconst 0, 1) := by decide +kernel
theorem d_M_removeRegions_3 : decode b_M_removeRegions 3 = .ok (.istore_n 3, 1) := by decide +kernel
theorem d_M_removeRegions_4 : decode b_M_removeRegions 4 = .ok (.iload_n 3, 1) := by decide +kernel
theorem d_M_removeRegions_5 : decode b_M_removeRegions 5 = .ok (.aload_n 0, 1) := by decide +kernel
theorem d_M_removeRegions_6 : decode b_M_removeRegions 6 = .ok (.getfield 60, 3) := by decide +kernel
theorem d_M_removeRegions_9 : decode b_M_removeRegions 9 = .ok (.if_icmp .ge 46, 3) := by decide +kernel
theorem d_M_removeRegions_12 : decode b_M_removeRegions 12 = .ok (.aload_n 0, 1) := by decide +kernel
theorem d_M_removeRegions_13 : decode b_M_removeRegions 13 = .ok (.getfield 29, 3) := by decide +kernel
theorem d_M_removeRegions_16 : decode b_M_removeRegions 16 = .ok (.iload_n 3, 1) := by decide +kernel
theorem d_M_removeRegions_17 : decode b_M_removeRegions 17 = .ok (.iaload, 1) := by decide +kernel
theorem d_M_removeRegions_18 : decode b_M_removeRegions 18 = .ok (.iload_n 1, 1) := by decide +kernel
theorem d_M_removeRegions_19 : decode b_M_removeRegions 19 = .ok (.if_icmp .eq 30, 3) := by decide +kernel
theorem d_M_removeRegions_22 : decode b_M_removeRegions 22 = .ok (.aload_n 0, 1) := by decide +kernel
theorem d_M_removeRegions_23 : decode b_M_removeRegions 23 = .ok (.getfield 29, 3) := by decide +kernel
theorem d_M_removeRegions_26 : decode b_M_removeRegions 26 = .ok (.iload_n 2, 1) := by decide +kernel
theorem d_M_removeRegions_27 : decode b_M_removeRegions 27 = .ok (.aload_n 0, 1) := by decide +kernel
theorem d_M_removeRegions_28 : decode b_M_removeRegions 28 = .ok (.getfield 29, 3) := by decide +kernel
theorem d_M_removeRegions_31 : decode b_M_removeRegions 31 = .ok (.iload_n 3, 1) := by decide +kernel
theorem d_M_removeRegions_32 : decode b_M_removeRegions 32 = .ok (.iaload, 1) := by decide +kernel
theorem d_M_removeRegions_33 : decode b_M_removeRegions 33 = .ok (.iastore, 1) := by decide +kernel
theorem d_M_removeRegions_34 : decode b_M_removeRegions 34 = .ok (.aload_n 0, 1) := by decide +kernel
theorem d_M_removeRegions_35 : decode b_M_removeRegions 35 = .ok (.getfield 32, 3) := by decide +kernel
theorem d_M_removeRegions_38 : decode b_M_removeRegions 38 = .ok (.iload_n 2, 1) := by decide +kernel
theorem d_M_removeRegions_39 : decode b_M_removeRegions 39 = .ok (.aload_n 0, 1) := by decide +kernel
theorem d_M_removeRegions_40 : decode b_M_removeRegions 40 = .ok (.getfield 32, 3) := by decide +kernel
theorem d_M_removeRegions_43 : decode b_M_removeRegions 43 = .ok (.iload_n 3, 1) := by decide +kernel
theorem d_M_removeRegions_44 : decode b_M_removeRegions 44 = .ok (.iaload, 1) := by decide +kernel
theorem d_M_removeRegions_45 : decode b_M_removeRegions 45 = .ok (.iastore, 1) := by decide +kernel
theorem d_M_removeRegions_46 : decode b_M_removeRegions 46 = .ok (.iinc 2 1, 3) := by decide +kernel
theorem d_M_removeRegions_49 : decode b_M_removeRegions 49 = .ok (.iinc 3 1, 3) := by decide +kernel
theorem d_M_removeRegions_52 : decode b_M_removeRegions 52 = .ok (.goto (-48), 3) := by decide +kernel
theorem d_M_removeRegions_55 : decode b_M_removeRegions 55 = .ok (.aload_n 0, 1) := by decide +kernel
theorem d_M_removeRegions_56 : decode b_M_removeRegions 56 = .ok (.iload_n 2, 1) := by decide +kernel
theorem d_M_removeRegions_57 : decode b_M_removeRegions 57 = .ok (.putfield 60, 3) := by decide +kernel
theorem d_M_removeRegions_60 : decode b_M_removeRegions 60 = .ok (.return_, 1) := by decide +kernel
theorem d_M_unused_0 : decode b_M_unused 0 = .ok (.iconst 0, 1) := by decide +kernel
theorem d_M_unused_1 : decode b_M_unused 1 = .ok (.istore_n 1, 1) := by decide +kernel
theorem d_M_unused_2 : decode b_M_unused 2 = .ok (.iload_n 1, 1) := by decide +kernel
theorem d_M_unused_3 : decode b_M_unused 3 = .ok (.bipush 16, 2) := by decide +kernel
theorem d_M_unused_5 : decode b_M_unused 5 = .ok (.if_icmp .ge 20, 3) := by decide +kernel
theorem d_M_unused_8 : decode b_M_unused 8 = .ok (.aload_n 0, 1) := by decide +kernel
theorem d_M_unused_9 : decode b_M_unused 9 = .ok (.getfield 7, 3) := by decide +kernel
theorem d_M_unused_12 : decode b_M_unused 12 = .ok (.iload_n 1, 1) := by decide +kernel
theorem d_M_unused_13 : decode b_M_unused 13 = .ok (.baload, 1) := by decide +kernel
theorem d_M_unused_14 : decode b_M_unused 14 = .ok (.ifCond .ne 5, 3) := by decide +kernel
theorem d_M_unused_17 : decode b_M_unused 17 = .ok (.iload_n 1, 1) := by decide +kernel
theorem d_M_unused_18 : decode b_M_unused 18 = .ok (.ireturn, 1) := by decide +kernel
theorem d_M_unused_19 : decode b_M_unused 19 = .ok (.iinc 1 1, 3) := by decide +kernel
theorem d_M_unused_22 : decode b_M_unused 22 = .ok (.goto (-20), 3) := by decide +kernel
theorem d_M_unused_25 : decode b_M_unused 25 = .ok (.iconst (-1), 1) := by decide +kernel
theorem d_M_unused_26 : decode b_M_unused 26 = .ok (.ireturn, 1) := by decide +kernel
theorem d_M_peopled_0 : decode b_M_peopled 0 = .ok (.iconst 0, 1) := by decide +kernel
theorem d_M_peopled_1 : decode b_M_peopled 1 = .ok (.istore_n 2, 1) := by decide +kernel
theorem d_M_peopled_2 : decode b_M_peopled 2 = .ok (.iconst 0, 1) := by decide +kernel
theorem d_M_peopled_3 : decode b_M_peopled 3 = .ok (.istore_n 3, 1) := by decide +kernel
theorem d_M_peopled_4 : decode b_M_peopled 4 = .ok (.iload_n 3, 1) := by decide +kernel
theorem d_M_peopled_5 : decode b_M_peopled 5 = .ok (.aload_n 0, 1) := by decide +kernel
theorem d_M_peopled_6 : decode b_M_peopled 6 = .ok (.getfield 57, 3) := by decide +kernel
theorem d_M_peopled_9 : decode b_M_peopled 9 = .ok (.if_icmp .ge 83, 3) := by decide +kernel
theorem d_M_peopled_12 : decode b_M_peopled 12 = .ok (.aload_n 0, 1) := by decide +kernel
theorem d_M_peopled_13 : decode b_M_peopled 13 = .ok (.getfield 17, 3) := by decide +kernel
theorem d_M_peopled_16 : decode b_M_peopled 16 = .ok (.iload_n 3, 1) := by decide +kernel
theorem d_M_peopled_17 : decode b_M_peopled 17 = .ok (.iaload, 1) := by decide +kernel
theorem d_M_peopled_18 : decode b_M_peopled 18 = .ok (.iload_n 1, 1) := by decide +kernel
theorem d_M_peopled_19 : decode b_M_peopled 19 = .ok (.if_icmp .ne 67, 3) := by decide +kernel
theorem d_M_peopled_22 : decode b_M_peopled 22 = .ok (.iconst 1, 1) := by decide +kernel
theorem d_M_peopled_23 : decode b_M_peopled 23 = .ok (.istore 4, 2) := by decide +kernel
theorem d_M_peopled_25 : decode b_M_peopled 25 = .ok (.iconst 0, 1) := by decide +kernel
theorem d_M_peopled_26 : decode b_M_peopled 26 = .ok (.istore 5, 2) := by decide +kernel
theorem d_M_peopled_28 : decode b_M_peopled 28 = .ok (.iload 5, 2) := by decide +kernel
theorem d_M_peopled_30 : decode b_M_peopled 30 = .ok (.iload_n 3, 1) := by decide +kernel
theorem d_M_peopled_31 : decode b_M_peopled 31 = .ok (.if_icmp .ge 47, 3) := by decide +kernel
theorem d_M_peopled_34 : decode b_M_peopled 34 = .ok (.aload_n 0, 1) := by decide +kernel
theorem d_M_peopled_35 : decode b_M_peopled 35 = .ok (.getfield 17, 3) := by decide +kernel
theorem d_M_peopled_38 : decode b_M_peopled 38 = .ok (.iload 5, 2) := by decide +kernel
theorem d_M_peopled_40 : decode b_M_peopled 40 = .ok (.iaload, 1) := by decide +kernel
theorem d_M_peopled_41 : decode b_M_peopled 41 = .ok (.iload_n 1, 1) := by decide +kernel
theorem d_M_peopled_42 : decode b_M_peopled 42 = .ok (.if_icmp .ne 30, 3) := by decide +kernel
theorem d_M_peopled_45 : decode b_M_peopled 45 = .ok (.aload_n 0, 1) := by decide +kernel
theorem d_M_peopled_46 : decode b_M_peopled 46 = .ok (.getfield 20, 3) := by decide +kernel
theorem d_M_peopled_49 : decode b_M_peopled 49 = .ok (.iload 5, 2) := by decide +kernel
theorem d_M_peopled_51 : decode b_M_peopled 51 = .ok (.iaload, 1) := by decide +kernel
theorem d_M_peopled_52 : decode b_M_peopled 52 = .ok (.sipush 1024, 3) := by decide +kernel
theorem d_M_peopled_55 : decode b_M_peopled 55 = .ok (.idiv, 1) := by decide +kernel
theorem d_M_peopled_56 : decode b_M_peopled 56 = .ok (.aload_n 0, 1) := by decide +kernel
theorem d_M_peopled_57 : decode b_M_peopled 57 = .ok (.getfield 20, 3) := by decide +kernel
theorem d_M_peopled_60 : decode b_M_peopled 60 = .ok (.iload_n 3, 1) := by decide +kernel
theorem d_M_peopled_61 : decode b_M_peopled 61 = .ok (.iaload, 1) := by decide +kernel
theorem d_M_peopled_62 : decode b_M_peopled 62 = .ok (.sipush 1024, 3) := by decide +kernel
theorem d_M_peopled_65 : decode b_M_peopled 65 = .ok (.idiv, 1) := by decide +kernel
theorem d_M_peopled_66 : decode b_M_peopled 66 = .ok (.if_icmp .ne 6, 3) := by decide +kernel
theorem d_M_peopled_69 : decode b_M_peopled 69 = .ok (.iconst 0, 1) := by decide +kernel
theorem d_M_peopled_70 : decode b_M_peopled 70 = .ok (.istore 4, 2) := by decide +kernel
theorem d_M_peopled_72 : decode b_M_peopled 72 = .ok (.iinc 5 1, 3) := by decide +kernel
theorem d_M_peopled_75 : decode b_M_peopled 75 = .ok (.goto (-47), 3) := by decide +kernel
theorem d_M_peopled_78 : decode b_M_peopled 78 = .ok (.iload 4, 2) := by decide +kernel
theorem d_M_peopled_80 : decode b_M_peopled 80 = .ok (.ifCond .eq 6, 3) := by decide +kernel
theorem d_M_peopled_83 : decode b_M_peopled 83 = .ok (.iinc 2 1, 3) := by decide +kernel
theorem d_M_peopled_86 : decode b_M_peopled 86 = .ok (.iinc 3 1, 3) := by decide +kernel
theorem d_M_peopled_89 : decode b_M_peopled 89 = .ok (.goto (-85), 3) := by decide +kernel
theorem d_M_peopled_92 : decode b_M_peopled 92 = .ok (.iload_n 2, 1) := by decide +kernel
theorem d_M_peopled_93 : decode b_M_peopled 93 = .ok (.ireturn, 1) := by decide +kernel
theorem d_M_touch_0 : decode b_M_touch 0 = .ok (.iload_n 2, 1) := by decide +kernel
theorem d_M_touch_1 : decode b_M_touch 1 = .ok (.ifCond .lt 9, 3) := by decide +kernel
theorem d_M_touch_4 : decode b_M_touch 4 = .ok (.iload_n 2, 1) := by decide +kernel
theorem d_M_touch_5 : decode b_M_touch 5 = .ok (.ldc 86, 2) := by decide +kernel
theorem d_M_touch_7 : decode b_M_touch 7 = .ok (.if_icmp .lt 5, 3) := by decide +kernel
theorem d_M_touch_10 : decode b_M_touch 10 = .ok (.iconst 1, 1) := by decide +kernel
theorem d_M_touch_11 : decode b_M_touch 11 = .ok (.ireturn, 1) := by decide +kernel
theorem d_M_touch_12 : decode b_M_touch 12 = .ok (.aload_n 0, 1) := by decide +kernel
theorem d_M_touch_13 : decode b_M_touch 13 = .ok (.iload_n 1, 1) := by decide +kernel
theorem d_M_touch_14 : decode b_M_touch 14 = .ok (.iload_n 2, 1) := by decide +kernel
theorem d_M_touch_15 : decode b_M_touch 15 = .ok (.invokevirtual 87, 3) := by decide +kernel
theorem d_M_touch_18 : decode b_M_touch 18 = .ok (.istore 4, 2) := by decide +kernel
theorem d_M_touch_20 : decode b_M_touch 20 = .ok (.iload 4, 2) := by decide +kernel
theorem d_M_touch_22 : decode b_M_touch 22 = .ok (.iconst (-1), 1) := by decide +kernel
theorem d_M_touch_23 : decode b_M_touch 23 = .ok (.if_icmp .ne 49, 3) := by decide +kernel
theorem d_M_touch_26 : decode b_M_touch 26 = .ok (.iload_n 2, 1) := by decide +kernel
theorem d_M_touch_27 : decode b_M_touch 27 = .ok (.aload_n 0, 1) := by decide +kernel
theorem d_M_touch_28 : decode b_M_touch 28 = .ok (.getfield 13, 3) := by decide +kernel
theorem d_M_touch_31 : decode b_M_touch 31 = .ok (.iload_n 1, 1) := by decide +kernel
theorem d_M_touch_32 : decode b_M_touch 32 = .ok (.iaload, 1) := by decide +kernel
theorem d_M_touch_33 : decode b_M_touch 33 = .ok (.if_icmp .ge 8, 3) := by decide +kernel
theorem d_M_touch_36 : decode b_M_touch 36 = .ok (.iload_n 3, 1) := by decide +kernel
theorem d_M_touch_37 : decode b_M_touch 37 = .ok (.iconst 4, 1) := by decide +kernel
theorem d_M_touch_38 : decode b_M_touch 38 = .ok (.if_icmp .ne 5, 3) := by decide +kernel
theorem d_M_touch_41 : decode b_M_touch 41 = .ok (.iconst 1, 1) := by decide +kernel
theorem d_M_touch_42 : decode b_M_touch 42 = .ok (.ireturn, 1) := by decide +kernel
theorem d_M_touch_43 : decode b_M_touch 43 = .ok (.aload_n 0, 1) := by decide +kernel
theorem d_M_touch_44 : decode b_M_touch 44 = .ok (.iload_n 1, 1) := by decide +kernel
end
section
theorem d_M_touch_45 : decode b_M_touch 45 = .ok (.iload_n 2, 1) := by decide +kernel
theorem d_M_touch_46 : decode b_M_touch 46 = .ok (.sipush 4096, 3) := by decide +kernel
theorem d_M_touch_49 : decode b_M_touch 49 = .ok (.idiv, 1) := by decide +kernel
theorem d_M_touch_50 : decode b_M_touch 50 = .ok (.invokevirtual 91, 3) := by decide +kernel
theorem d_M_touch_53 : decode b_M_touch 53 = .ok (.ifCond .ne 5, 3) := by decide +kernel
theorem d_M_touch_56 : decode b_M_touch 56 = .ok (.iconst 3, 1) := by decide +kernel
theorem d_M_touch_57 : decode b_M_touch 57 = .ok (.ireturn, 1) := by decide +kernel
theorem d_M_touch_58 : decode b_M_touch 58 = .ok (.aload_n 0, 1) := by decide +kernel
theorem d_M_touch_59 : decode b_M_touch 59 = .ok (.iload_n 1, 1) := by decide +kernel
theorem d_M_touch_60 : decode b_M_touch 60 = .ok (.iload_n 2, 1) := by decide +kernel
theorem d_M_touch_61 : decode b_M_touch 61 = .ok (.sipush 4096, 3) := by decide +kernel
theorem d_M_touch_64 : decode b_M_touch 64 = .ok (.idiv, 1) := by decide +kernel
theorem d_M_touch_65 : decode b_M_touch 65 = .ok (.bipush 11, 2) := by decide +kernel
theorem d_M_touch_67 : decode b_M_touch 67 = .ok (.invokevirtual 94, 3) := by decide +kernel
theorem d_M_touch_70 : decode b_M_touch 70 = .ok (.iconst 0, 1) := by decide +kernel
theorem d_M_touch_71 : decode b_M_touch 71 = .ok (.ireturn, 1) := by decide +kernel
theorem d_M_touch_72 : decode b_M_touch 72 = .ok (.aload_n 0, 1) := by decide +kernel
theorem d_M_touch_73 : decode b_M_touch 73 = .ok (.getfield 23, 3) := by decide +kernel
theorem d_M_touch_76 : decode b_M_touch 76 = .ok (.iload 4, 2) := by decide +kernel
theorem d_M_touch_78 : decode b_M_touch 78 = .ok (.iaload, 1) := by decide +kernel
theorem d_M_touch_79 : decode b_M_touch 79 = .ok (.bipush 8, 2) := by decide +kernel
theorem d_M_touch_81 : decode b_M_touch 81 = .ok (.iand, 1) := by decide +kernel
theorem d_M_touch_82 : decode b_M_touch 82 = .ok (.ifCond .eq 15, 3) := by decide +kernel
theorem d_M_touch_85 : decode b_M_touch 85 = .ok (.aload_n 0, 1) := by decide +kernel
theorem d_M_touch_86 : decode b_M_touch 86 = .ok (.getfield 23, 3) := by decide +kernel
theorem d_M_touch_89 : decode b_M_touch 89 = .ok (.iload 4, 2) := by decide +kernel
theorem d_M_touch_91 : decode b_M_touch 91 = .ok (.iaload, 1) := by decide +kernel
theorem d_M_touch_92 : decode b_M_touch 92 = .ok (.iload_n 3, 1) := by decide +kernel
theorem d_M_touch_93 : decode b_M_touch 93 = .ok (.iand, 1) := by decide +kernel
theorem d_M_touch_94 : decode b_M_touch 94 = .ok (.ifCond .ne 5, 3) := by decide +kernel
theorem d_M_touch_97 : decode b_M_touch 97 = .ok (.iconst 1, 1) := by decide +kernel
theorem d_M_touch_98 : decode b_M_touch 98 = .ok (.ireturn, 1) := by decide +kernel
theorem d_M_touch_99 : decode b_M_touch 99 = .ok (.iload_n 3, 1) := by decide +kernel
theorem d_M_touch_100 : decode b_M_touch 100 = .ok (.iconst 2, 1) := by decide +kernel
theorem d_M_touch_101 : decode b_M_touch 101 = .ok (.if_icmp .ne 48, 3) := by decide +kernel
theorem d_M_touch_104 : decode b_M_touch 104 = .ok (.aload_n 0, 1) := by decide +kernel
theorem d_M_touch_105 : decode b_M_touch 105 = .ok (.aload_n 0, 1) := by decide +kernel
theorem d_M_touch_106 : decode b_M_touch 106 = .ok (.getfield 26, 3) := by decide +kernel
theorem d_M_touch_109 : decode b_M_touch 109 = .ok (.iload 4, 2) := by decide +kernel
theorem d_M_touch_111 : decode b_M_touch 111 = .ok (.iaload, 1) := by decide +kernel
theorem d_M_touch_112 : decode b_M_touch 112 = .ok (.invokevirtual 98, 3) := by decide +kernel
theorem d_M_touch_115 : decode b_M_touch 115 = .ok (.iconst 1, 1) := by decide +kernel
theorem d_M_touch_116 : decode b_M_touch 116 = .ok (.if_icmp .le 33, 3) := by decide +kernel
theorem d_M_touch_119 : decode b_M_touch 119 = .ok (.aload_n 0, 1) := by decide +kernel
theorem d_M_touch_120 : decode b_M_touch 120 = .ok (.invokevirtual 67, 3) := by decide +kernel
theorem d_M_touch_123 : decode b_M_touch 123 = .ok (.ifCond .ne 5, 3) := by decide +kernel
theorem d_M_touch_126 : decode b_M_touch 126 = .ok (.iconst 3, 1) := by decide +kernel
theorem d_M_touch_127 : decode b_M_touch 127 = .ok (.ireturn, 1) := by decide +kernel
theorem d_M_touch_128 : decode b_M_touch 128 = .ok (.aload_n 0, 1) := by decide +kernel
theorem d_M_touch_129 : decode b_M_touch 129 = .ok (.getfield 26, 3) := by decide +kernel
theorem d_M_touch_132 : decode b_M_touch 132 = .ok (.iload 4, 2) := by decide +kernel
theorem d_M_touch_134 : decode b_M_touch 134 = .ok (.aload_n 0, 1) := by decide +kernel
theorem d_M_touch_135 : decode b_M_touch 135 = .ok (.getfield 75, 3) := by decide +kernel
theorem d_M_touch_138 : decode b_M_touch 138 = .ok (.iastore, 1) := by decide +kernel
theorem d_M_touch_139 : decode b_M_touch 139 = .ok (.aload_n 0, 1) := by decide +kernel
theorem d_M_touch_140 : decode b_M_touch 140 = .ok (.dup, 1) := by decide +kernel
theorem d_M_touch_141 : decode b_M_touch 141 = .ok (.getfield 75, 3) := by decide +kernel
theorem d_M_touch_144 : decode b_M_touch 144 = .ok (.iconst 1, 1) := by decide +kernel
theorem d_M_touch_145 : decode b_M_touch 145 = .ok (.iadd, 1) := by decide +kernel
theorem d_M_touch_146 : decode b_M_touch 146 = .ok (.putfield 75, 3) := by decide +kernel
theorem d_M_touch_149 : decode b_M_touch 149 = .ok (.iconst 0, 1) := by decide +kernel
theorem d_M_touch_150 : decode b_M_touch 150 = .ok (.ireturn, 1) := by decide +kernel
theorem d_M_aimed_0 : decode b_M_aimed 0 = .ok (.iload_n 3, 1) := by decide +kernel
theorem d_M_aimed_1 : decode b_M_aimed 1 = .ok (.iconst 1, 1) := by decide +kernel
theorem d_M_aimed_2 : decode b_M_aimed 2 = .ok (.if_icmp .eq 21, 3) := by decide +kernel
theorem d_M_aimed_5 : decode b_M_aimed 5 = .ok (.iload_n 3, 1) := by decide +kernel
theorem d_M_aimed_6 : decode b_M_aimed 6 = .ok (.iconst 2, 1) := by decide +kernel
theorem d_M_aimed_7 : decode b_M_aimed 7 = .ok (.if_icmp .eq 16, 3) := by decide +kernel
theorem d_M_aimed_10 : decode b_M_aimed 10 = .ok (.iload_n 3, 1) := by decide +kernel
theorem d_M_aimed_11 : decode b_M_aimed 11 = .ok (.iconst 4, 1) := by decide +kernel
theorem d_M_aimed_12 : decode b_M_aimed 12 = .ok (.if_icmp .eq 11, 3) := by decide +kernel
theorem d_M_aimed_15 : decode b_M_aimed 15 = .ok (.aload_n 0, 1) := by decide +kernel
theorem d_M_aimed_16 : decode b_M_aimed 16 = .ok (.iconst 2, 1) := by decide +kernel
theorem d_M_aimed_17 : decode b_M_aimed 17 = .ok (.putfield 102, 3) := by decide +kernel
theorem d_M_aimed_20 : decode b_M_aimed 20 = .ok (.goto 41, 3) := by decide +kernel
theorem d_M_aimed_23 : decode b_M_aimed 23 = .ok (.iload_n 2, 1) := by decide +kernel
theorem d_M_aimed_24 : decode b_M_aimed 24 = .ok (.iload_n 3, 1) := by decide +kernel
theorem d_M_aimed_25 : decode b_M_aimed 25 = .ok (.irem, 1) := by decide +kernel
theorem d_M_aimed_26 : decode b_M_aimed 26 = .ok (.ifCond .eq 11, 3) := by decide +kernel
theorem d_M_aimed_29 : decode b_M_aimed 29 = .ok (.aload_n 0, 1) := by decide +kernel
theorem d_M_aimed_30 : decode b_M_aimed 30 = .ok (.iconst 2, 1) := by decide +kernel
theorem d_M_aimed_31 : decode b_M_aimed 31 = .ok (.putfield 102, 3) := by decide +kernel
theorem d_M_aimed_34 : decode b_M_aimed 34 = .ok (.goto 27, 3) := by decide +kernel
theorem d_M_aimed_37 : decode b_M_aimed 37 = .ok (.aload_n 0, 1) := by decide +kernel
theorem d_M_aimed_38 : decode b_M_aimed 38 = .ok (.aload_n 0, 1) := by decide +kernel
theorem d_M_aimed_39 : decode b_M_aimed 39 = .ok (.iload_n 1, 1) := by decide +kernel
theorem d_M_aimed_40 : decode b_M_aimed 40 = .ok (.invokevirtual 105, 3) := by decide +kernel
theorem d_M_aimed_43 : decode b_M_aimed 43 = .ok (.ifCond .eq 14, 3) := by decide +kernel
theorem d_M_aimed_46 : decode b_M_aimed 46 = .ok (.aload_n 0, 1) := by decide +kernel
theorem d_M_aimed_47 : decode b_M_aimed 47 = .ok (.iload_n 1, 1) := by decide +kernel
theorem d_M_aimed_48 : decode b_M_aimed 48 = .ok (.iload_n 2, 1) := by decide +kernel
theorem d_M_aimed_49 : decode b_M_aimed 49 = .ok (.iload 4, 2) := by decide +kernel
theorem d_M_aimed_51 : decode b_M_aimed 51 = .ok (.invokevirtual 108, 3) := by decide +kernel
theorem d_M_aimed_54 : decode b_M_aimed 54 = .ok (.goto 4, 3) := by decide +kernel
theorem d_M_aimed_57 : decode b_M_aimed 57 = .ok (.iconst 1, 1) := by decide +kernel
theorem d_M_aimed_58 : decode b_M_aimed 58 = .ok (.putfield 102, 3) := by decide +kernel
theorem d_M_aimed_61 : decode b_M_aimed 61 = .ok (.aload_n 0, 1) := by decide +kernel
theorem d_M_aimed_62 : decode b_M_aimed 62 = .ok (.getfield 102, 3) := by decide +kernel
theorem d_M_aimed_65 : decode b_M_aimed 65 = .ok (.ifCond .ne 7, 3) := by decide +kernel
theorem d_M_aimed_68 : decode b_M_aimed 68 = .ok (.iconst 1, 1) := by decide +kernel
theorem d_M_aimed_69 : decode b_M_aimed 69 = .ok (.goto 4, 3) := by decide +kernel
theorem d_M_aimed_72 : decode b_M_aimed 72 = .ok (.iconst 0, 1) := by decide +kernel
theorem d_M_aimed_73 : decode b_M_aimed 73 = .ok (.ireturn, 1) := by decide +kernel
theorem d_M_walk_0 : decode b_M_walk 0 = .ok (.aload_n 0, 1) := by decide +kernel
theorem d_M_walk_1 : decode b_M_walk 1 = .ok (.iconst 0, 1) := by decide +kernel
theorem d_M_walk_2 : decode b_M_walk 2 = .ok (.putfield 102, 3) := by decide +kernel
theorem d_M_walk_5 : decode b_M_walk 5 = .ok (.iconst 0, 1) := by decide +kernel
theorem d_M_walk_6 : decode b_M_walk 6 = .ok (.istore 5, 2) := by decide +kernel
theorem d_M_walk_8 : decode b_M_walk 8 = .ok (.iload 5, 2) := by decide +kernel
theorem d_M_walk_10 : decode b_M_walk 10 = .ok (.iload_n 3, 1) := by decide +kernel
theorem d_M_walk_11 : decode b_M_walk 11 = .ok (.if_icmp .ge 46, 3) := by decide +kernel
theorem d_M_walk_14 : decode b_M_walk 14 = .ok (.aload_n 0, 1) := by decide +kernel
theorem d_M_walk_15 : decode b_M_walk 15 = .ok (.aload_n 0, 1) := by decide +kernel
theorem d_M_walk_16 : decode b_M_walk 16 = .ok (.iload_n 1, 1) := by decide +kernel
theorem d_M_walk_17 : decode b_M_walk 17 = .ok (.invokevirtual 105, 3) := by decide +kernel
theorem d_M_walk_20 : decode b_M_walk 20 = .ok (.ifCond .eq 17, 3) := by decide +kernel
theorem d_M_walk_23 : decode b_M_walk 23 = .ok (.aload_n 0, 1) := by decide +kernel
theorem d_M_walk_24 : decode b_M_walk 24 = .ok (.iload_n 1, 1) := by decide +kernel
theorem d_M_walk_25 : decode b_M_walk 25 = .ok (.iload_n 2, 1) := by decide +kernel
theorem d_M_walk_26 : decode b_M_walk 26 = .ok (.iload 5, 2) := by decide +kernel
theorem d_M_walk_28 : decode b_M_walk 28 = .ok (.iadd, 1) := by decide +kernel
theorem d_M_walk_29 : decode b_M_walk 29 = .ok (.iload 4, 2) := by decide +kernel
theorem d_M_walk_31 : decode b_M_walk 31 = .ok (.invokevirtual 108, 3) := by decide +kernel
theorem d_M_walk_34 : decode b_M_walk 34 = .ok (.goto 4, 3) := by decide +kernel
theorem d_M_walk_37 : decode b_M_walk 37 = .ok (.iconst 1, 1) := by decide +kernel
theorem d_M_walk_38 : decode b_M_walk 38 = .ok (.putfield 102, 3) := by decide +kernel
theorem d_M_walk_41 : decode b_M_walk 41 = .ok (.aload_n 0, 1) := by decide +kernel
theorem d_M_walk_42 : decode b_M_walk 42 = .ok (.getfield 102, 3) := by decide +kernel
theorem d_M_walk_45 : decode b_M_walk 45 = .ok (.ifCond .eq 6, 3) := by decide +kernel
theorem d_M_walk_48 : decode b_M_walk 48 = .ok (.iload 5, 2) := by decide +kernel
theorem d_M_walk_50 : decode b_M_walk 50 = .ok (.ireturn, 1) := by decide +kernel
theorem d_M_walk_51 : decode b_M_walk 51 = .ok (.iinc 5 1, 3) := by decide +kernel
theorem d_M_walk_54 : decode b_M_walk 54 = .ok (.goto (-46), 3) := by decide +kernel
theorem d_M_walk_57 : decode b_M_walk 57 = .ok (.iload_n 3, 1) := by decide +kernel
theorem d_M_walk_58 : decode b_M_walk 58 = .ok (.ireturn, 1) := by decide +kernel
theorem d_M_number_0 : decode b_M_number 0 = .ok (.iconst 0, 1) := by decide +kernel
theorem d_M_number_1 : decode b_M_number 1 = .ok (.istore 4, 2) := by decide +kernel
theorem d_M_number_3 : decode b_M_number 3 = .ok (.iconst 0, 1) := by decide +kernel
theorem d_M_number_4 : decode b_M_number 4 = .ok (.istore 5, 2) := by decide +kernel
theorem d_M_number_6 : decode b_M_number 6 = .ok (.iload 5, 2) := by decide +kernel
theorem d_M_number_8 : decode b_M_number 8 = .ok (.iload_n 3, 1) := by decide +kernel
theorem d_M_number_9 : decode b_M_number 9 = .ok (.if_icmp .ge 29, 3) := by decide +kernel
theorem d_M_number_12 : decode b_M_number 12 = .ok (.iload 4, 2) := by decide +kernel
theorem d_M_number_14 : decode b_M_number 14 = .ok (.aload_n 0, 1) := by decide +kernel
theorem d_M_number_15 : decode b_M_number 15 = .ok (.iload_n 1, 1) := by decide +kernel
theorem d_M_number_16 : decode b_M_number 16 = .ok (.iload_n 2, 1) := by decide +kernel
theorem d_M_number_17 : decode b_M_number 17 = .ok (.iload 5, 2) := by decide +kernel
theorem d_M_number_19 : decode b_M_number 19 = .ok (.iadd, 1) := by decide +kernel
theorem d_M_number_20 : decode b_M_number 20 = .ok (.invokevirtual 112, 3) := by decide +kernel
theorem d_M_number_23 : decode b_M_number 23 = .ok (.bipush 8, 2) := by decide +kernel
theorem d_M_number_25 : decode b_M_number 25 = .ok (.iload 5, 2) := by decide +kernel
theorem d_M_number_27 : decode b_M_number 27 = .ok (.imul, 1) := by decide +kernel
theorem d_M_number_28 : decode b_M_number 28 = .ok (.ishl, 1) := by decide +kernel
theorem d_M_number_29 : decode b_M_number 29 = .ok (.ior, 1) := by decide +kernel
theorem d_M_number_30 : decode b_M_number 30 = .ok (.istore 4, 2) := by decide +kernel
theorem d_M_number_32 : decode b_M_number 32 = .ok (.iinc 5 1, 3) := by decide +kernel
theorem d_M_number_35 : decode b_M_number 35 = .ok (.goto (-29), 3) := by decide +kernel
theorem d_M_number_38 : decode b_M_number 38 = .ok (.iload 4, 2) := by decide +kernel
theorem d_M_number_40 : decode b_M_number 40 = .ok (.ireturn, 1) := by decide +kernel
theorem d_M_came_0 : decode b_M_came 0 = .ok (.iload_n 3, 1) := by decide +kernel
theorem d_M_came_1 : decode b_M_came 1 = .ok (.ifCond .le 12, 3) := by decide +kernel
theorem d_M_came_4 : decode b_M_came 4 = .ok (.aload_n 0, 1) := by decide +kernel
theorem d_M_came_5 : decode b_M_came 5 = .ok (.iconst 5, 1) := by decide +kernel
theorem d_M_came_6 : decode b_M_came 6 = .ok (.iload_n 1, 1) := by decide +kernel
theorem d_M_came_7 : decode b_M_came 7 = .ok (.iload_n 2, 1) := by decide +kernel
theorem d_M_came_8 : decode b_M_came 8 = .ok (.iload_n 3, 1) := by decide +kernel
theorem d_M_came_9 : decode b_M_came 9 = .ok (.iconst 0, 1) := by decide +kernel
theorem d_M_came_10 : decode b_M_came 10 = .ok (.invokevirtual 82, 3) := by decide +kernel
theorem d_M_came_13 : decode b_M_came 13 = .ok (.return_, 1) := by decide +kernel
theorem d_M_make_0 : decode b_M_make 0 = .ok (.aload_n 0, 1) := by decide +kernel
theorem d_M_make_1 : decode b_M_make 1 = .ok (.invokevirtual 115, 3) := by decide +kernel
theorem d_M_make_4 : decode b_M_make 4 = .ok (.istore_n 1, 1) := by decide +kernel
theorem d_M_make_5 : decode b_M_make 5 = .ok (.iload_n 1, 1) := by decide +kernel
theorem d_M_make_6 : decode b_M_make 6 = .ok (.iconst (-1), 1) := by decide +kernel
theorem d_M_make_7 : decode b_M_make 7 = .ok (.if_icmp .eq 10, 3) := by decide +kernel
theorem d_M_make_10 : decode b_M_make 10 = .ok (.aload_n 0, 1) := by decide +kernel
theorem d_M_make_11 : decode b_M_make 11 = .ok (.invokevirtual 67, 3) := by decide +kernel
theorem d_M_make_14 : decode b_M_make 14 = .ok (.ifCond .ne 5, 3) := by decide +kernel
theorem d_M_make_17 : decode b_M_make 17 = .ok (.iconst (-1), 1) := by decide +kernel
theorem d_M_make_18 : decode b_M_make 18 = .ok (.ireturn, 1) := by decide +kernel
theorem d_M_make_19 : decode b_M_make 19 = .ok (.aload_n 0, 1) := by decide +kernel
theorem d_M_make_20 : decode b_M_make 20 = .ok (.getfield 7, 3) := by decide +kernel
theorem d_M_make_23 : decode b_M_make 23 = .ok (.iload_n 1, 1) := by decide +kernel
theorem d_M_make_24 : decode b_M_make 24 = .ok (.iconst 1, 1) := by decide +kernel
theorem d_M_make_25 : decode b_M_make 25 = .ok (.bastore, 1) := by decide +kernel
theorem d_M_make_26 : decode b_M_make 26 = .ok (.aload_n 0, 1) := by decide +kernel
theorem d_M_make_27 : decode b_M_make 27 = .ok (.getfield 13, 3) := by decide +kernel
theorem d_M_make_30 : decode b_M_make 30 = .ok (.iload_n 1, 1) := by decide +kernel
theorem d_M_make_31 : decode b_M_make 31 = .ok (.iconst 0, 1) := by decide +kernel
theorem d_M_make_32 : decode b_M_make 32 = .ok (.iastore, 1) := by decide +kernel
theorem d_M_make_33 : decode b_M_make 33 = .ok (.iload_n 1, 1) := by decide +kernel
theorem d_M_make_34 : decode b_M_make 34 = .ok (.ireturn, 1) := by decide +kernel
theorem d_M_drop_0 : decode b_M_drop 0 = .ok (.aload_n 0, 1) := by decide +kernel
theorem d_M_drop_1 : decode b_M_drop 1 = .ok (.iload_n 1, 1) := by decide +kernel
theorem d_M_drop_2 : decode b_M_drop 2 = .ok (.invokevirtual 105, 3) := by decide +kernel
theorem d_M_drop_5 : decode b_M_drop 5 = .ok (.ifCond .ne 5, 3) := by decide +kernel
theorem d_M_drop_8 : decode b_M_drop 8 = .ok (.iconst 0, 1) := by decide +kernel
theorem d_M_drop_9 : decode b_M_drop 9 = .ok (.ireturn, 1) := by decide +kernel
theorem d_M_drop_10 : decode b_M_drop 10 = .ok (.aload_n 0, 1) := by decide +kernel
theorem d_M_drop_11 : decode b_M_drop 11 = .ok (.iload_n 1, 1) := by decide +kernel
theorem d_M_drop_12 : decode b_M_drop 12 = .ok (.iconst 0, 1) := by decide +kernel
theorem d_M_drop_13 : decode b_M_drop 13 = .ok (.invokevirtual 118, 3) := by decide +kernel
theorem d_M_drop_16 : decode b_M_drop 16 = .ok (.aload_n 0, 1) := by decide +kernel
theorem d_M_drop_17 : decode b_M_drop 17 = .ok (.iload_n 1, 1) := by decide +kernel
theorem d_M_drop_18 : decode b_M_drop 18 = .ok (.invokevirtual 122, 3) := by decide +kernel
theorem d_M_drop_21 : decode b_M_drop 21 = .ok (.aload_n 0, 1) := by decide +kernel
theorem d_M_drop_22 : decode b_M_drop 22 = .ok (.getfield 7, 3) := by decide +kernel
theorem d_M_drop_25 : decode b_M_drop 25 = .ok (.iload_n 1, 1) := by decide +kernel
theorem d_M_drop_26 : decode b_M_drop 26 = .ok (.iconst 0, 1) := by decide +kernel
theorem d_M_drop_27 : decode b_M_drop 27 = .ok (.bastore, 1) := by decide +kernel
theorem d_M_drop_28 : decode b_M_drop 28 = .ok (.iconst 1, 1) := by decide +kernel
theorem d_M_drop_29 : decode b_M_drop 29 = .ok (.ireturn, 1) := by decide +kernel
theorem d_M_fork_0 : decode b_M_fork 0 = .ok (.aload_n 0, 1) := by decide +kernel
theorem d_M_fork_1 : decode b_M_fork 1 = .ok (.iload_n 1, 1) := by decide +kernel
theorem d_M_fork_2 : decode b_M_fork 2 = .ok (.invokevirtual 105, 3) := by decide +kernel
theorem d_M_fork_5 : decode b_M_fork 5 = .ok (.ifCond .ne 5, 3) := by decide +kernel
theorem d_M_fork_8 : decode b_M_fork 8 = .ok (.iconst (-1), 1) := by decide +kernel
theorem d_M_fork_9 : decode b_M_fork 9 = .ok (.ireturn, 1) := by decide +kernel
theorem d_M_fork_10 : decode b_M_fork 10 = .ok (.aload_n 0, 1) := by decide +kernel
theorem d_M_fork_11 : decode b_M_fork 11 = .ok (.invokevirtual 115, 3) := by decide +kernel
theorem d_M_fork_14 : decode b_M_fork 14 = .ok (.istore_n 2, 1) := by decide +kernel
theorem d_M_fork_15 : decode b_M_fork 15 = .ok (.iload_n 2, 1) := by decide +kernel
theorem d_M_fork_16 : decode b_M_fork 16 = .ok (.iconst (-1), 1) := by decide +kernel
theorem d_M_fork_17 : decode b_M_fork 17 = .ok (.if_icmp .eq 17, 3) := by decide +kernel
theorem d_M_fork_20 : decode b_M_fork 20 = .ok (.aload_n 0, 1) := by decide +kernel
theorem d_M_fork_21 : decode b_M_fork 21 = .ok (.invokevirtual 67, 3) := by decide +kernel
theorem d_M_fork_24 : decode b_M_fork 24 = .ok (.iconst 1, 1) := by decide +kernel
theorem d_M_fork_25 : decode b_M_fork 25 = .ok (.aload_n 0, 1) := by decide +kernel
theorem d_M_fork_26 : decode b_M_fork 26 = .ok (.iload_n 1, 1) := by decide +kernel
theorem d_M_fork_27 : decode b_M_fork 27 = .ok (.invokevirtual 126, 3) := by decide +kernel
theorem d_M_fork_30 : decode b_M_fork 30 = .ok (.iadd, 1) := by decide +kernel
theorem d_M_fork_31 : decode b_M_fork 31 = .ok (.if_icmp .ge 5, 3) := by decide +kernel
theorem d_M_fork_34 : decode b_M_fork 34 = .ok (.iconst (-1), 1) := by decide +kernel
theorem d_M_fork_35 : decode b_M_fork 35 = .ok (.ireturn, 1) := by decide +kernel
theorem d_M_fork_36 : decode b_M_fork 36 = .ok (.aload_n 0, 1) := by decide +kernel
theorem d_M_fork_37 : decode b_M_fork 37 = .ok (.getfield 7, 3) := by decide +kernel
theorem d_M_fork_40 : decode b_M_fork 40 = .ok (.iload_n 2, 1) := by decide +kernel
theorem d_M_fork_41 : decode b_M_fork 41 = .ok (.iconst 1, 1) := by decide +kernel
theorem d_M_fork_42 : decode b_M_fork 42 = .ok (.bastore, 1) := by decide +kernel
theorem d_M_fork_43 : decode b_M_fork 43 = .ok (.aload_n 0, 1) := by decide +kernel
theorem d_M_fork_44 : decode b_M_fork 44 = .ok (.getfield 13, 3) := by decide +kernel
theorem d_M_fork_47 : decode b_M_fork 47 = .ok (.iload_n 2, 1) := by decide +kernel
theorem d_M_fork_48 : decode b_M_fork 48 = .ok (.aload_n 0, 1) := by decide +kernel
theorem d_M_fork_49 : decode b_M_fork 49 = .ok (.getfield 13, 3) := by decide +kernel
theorem d_M_fork_52 : decode b_M_fork 52 = .ok (.iload_n 1, 1) := by decide +kernel
theorem d_M_fork_53 : decode b_M_fork 53 = .ok (.iaload, 1) := by decide +kernel
theorem d_M_fork_54 : decode b_M_fork 54 = .ok (.iastore, 1) := by decide +kernel
theorem d_M_fork_55 : decode b_M_fork 55 = .ok (.aload_n 0, 1) := by decide +kernel
theorem d_M_fork_56 : decode b_M_fork 56 = .ok (.getfield 57, 3) := by decide +kernel
theorem d_M_fork_59 : decode b_M_fork 59 = .ok (.istore_n 3, 1) := by decide +kernel
theorem d_M_fork_60 : decode b_M_fork 60 = .ok (.iconst 0, 1) := by decide +kernel
theorem d_M_fork_61 : decode b_M_fork 61 = .ok (.istore 4, 2) := by decide +kernel
theorem d_M_fork_63 : decode b_M_fork 63 = .ok (.iload 4, 2) := by decide +kernel
theorem d_M_fork_65 : decode b_M_fork 65 = .ok (.iload_n 3, 1) := by decide +kernel
theorem d_M_fork_66 : decode b_M_fork 66 = .ok (.if_icmp .ge 46, 3) := by decide +kernel
theorem d_M_fork_69 : decode b_M_fork 69 = .ok (.aload_n 0, 1) := by decide +kernel
theorem d_M_fork_70 : decode b_M_fork 70 = .ok (.getfield 17, 3) := by decide +kernel
theorem d_M_fork_73 : decode b_M_fork 73 = .ok (.iload 4, 2) := by decide +kernel
theorem d_M_fork_75 : decode b_M_fork 75 = .ok (.iaload, 1) := by decide +kernel
theorem d_M_fork_76 : decode b_M_fork 76 = .ok (.iload_n 1, 1) := by decide +kernel
theorem d_M_fork_77 : decode b_M_fork 77 = .ok (.if_icmp .ne 29, 3) := by decide +kernel
theorem d_M_fork_80 : decode b_M_fork 80 = .ok (.aload_n 0, 1) := by decide +kernel
theorem d_M_fork_81 : decode b_M_fork 81 = .ok (.iload_n 2, 1) := by decide +kernel
theorem d_M_fork_82 : decode b_M_fork 82 = .ok (.aload_n 0, 1) := by decide +kernel
theorem d_M_fork_83 : decode b_M_fork 83 = .ok (.getfield 20, 3) := by decide +kernel
theorem d_M_fork_86 : decode b_M_fork 86 = .ok (.iload 4, 2) := by decide +kernel
theorem d_M_fork_88 : decode b_M_fork 88 = .ok (.iaload, 1) := by decide +kernel
theorem d_M_fork_89 : decode b_M_fork 89 = .ok (.aload_n 0, 1) := by decide +kernel
theorem d_M_fork_90 : decode b_M_fork 90 = .ok (.getfield 23, 3) := by decide +kernel
theorem d_M_fork_93 : decode b_M_fork 93 = .ok (.iload 4, 2) := by decide +kernel
theorem d_M_fork_95 : decode b_M_fork 95 = .ok (.iaload, 1) := by decide +kernel
theorem d_M_fork_96 : decode b_M_fork 96 = .ok (.aload_n 0, 1) := by decide +kernel
theorem d_M_fork_97 : decode b_M_fork 97 = .ok (.getfield 26, 3) := by decide +kernel
theorem d_M_fork_100 : decode b_M_fork 100 = .ok (.iload 4, 2) := by decide +kernel
theorem d_M_fork_102 : decode b_M_fork 102 = .ok (.iaload, 1) := by decide +kernel
theorem d_M_fork_103 : decode b_M_fork 103 = .ok (.invokevirtual 78, 3) := by decide +kernel
theorem d_M_fork_106 : decode b_M_fork 106 = .ok (.iinc 4 1, 3) := by decide +kernel
theorem d_M_fork_109 : decode b_M_fork 109 = .ok (.goto (-46), 3) := by decide +kernel
theorem d_M_fork_112 : decode b_M_fork 112 = .ok (.aload_n 0, 1) := by decide +kernel
theorem d_M_fork_113 : decode b_M_fork 113 = .ok (.iconst 1, 1) := by decide +kernel
theorem d_M_fork_114 : decode b_M_fork 114 = .ok (.iload_n 2, 1) := by decide +kernel
theorem d_M_fork_115 : decode b_M_fork 115 = .ok (.iconst 0, 1) := by decide +kernel
theorem d_M_fork_116 : decode b_M_fork 116 = .ok (.iconst 0, 1) := by decide +kernel
theorem d_M_fork_117 : decode b_M_fork 117 = .ok (.iload_n 1, 1) := by decide +kernel
theorem d_M_fork_118 : decode b_M_fork 118 = .ok (.invokevirtual 82, 3) := by decide +kernel
theorem d_M_fork_121 : decode b_M_fork 121 = .ok (.iload_n 2, 1) := by decide +kernel
theorem d_M_fork_122 : decode b_M_fork 122 = .ok (.ireturn, 1) := by decide +kernel
theorem d_M_map_0 : decode b_M_map 0 = .ok (.aload_n 0, 1) := by decide +kernel
theorem d_M_map_1 : decode b_M_map 1 = .ok (.iload_n 1, 1) := by decide +kernel
theorem d_M_map_2 : decode b_M_map 2 = .ok (.invokevirtual 105, 3) := by decide +kernel
theorem d_M_map_5 : decode b_M_map 5 = .ok (.ifCond .eq 21, 3) := by decide +kernel
theorem d_M_map_8 : decode b_M_map 8 = .ok (.iload_n 2, 1) := by decide +kernel
theorem d_M_map_9 : decode b_M_map 9 = .ok (.ifCond .lt 17, 3) := by decide +kernel
theorem d_M_map_12 : decode b_M_map 12 = .ok (.iload_n 2, 1) := by decide +kernel
theorem d_M_map_13 : decode b_M_map 13 = .ok (.ldc 86, 2) := by decide +kernel
theorem d_M_map_15 : decode b_M_map 15 = .ok (.if_icmp .ge 11, 3) := by decide +kernel
theorem d_M_map_18 : decode b_M_map 18 = .ok (.iload_n 2, 1) := by decide +kernel
theorem d_M_map_19 : decode b_M_map 19 = .ok (.sipush 4096, 3) := by decide +kernel
theorem d_M_map_22 : decode b_M_map 22 = .ok (.irem, 1) := by decide +kernel
theorem d_M_map_23 : decode b_M_map 23 = .ok (.ifCond .eq 5, 3) := by decide +kernel
theorem d_M_map_26 : decode b_M_map 26 = .ok (.iconst (-1), 1) := by decide +kernel
theorem d_M_map_27 : decode b_M_map 27 = .ok (.ireturn, 1) := by decide +kernel
theorem d_M_map_28 : decode b_M_map 28 = .ok (.aload_n 0, 1) := by decide +kernel
theorem d_M_map_29 : decode b_M_map 29 = .ok (.iload_n 1, 1) := by decide +kernel
theorem d_M_map_30 : decode b_M_map 30 = .ok (.iload_n 2, 1) := by decide +kernel
theorem d_M_map_31 : decode b_M_map 31 = .ok (.invokevirtual 87, 3) := by decide +kernel
theorem d_M_map_34 : decode b_M_map 34 = .ok (.iconst (-1), 1) := by decide +kernel
theorem d_M_map_35 : decode b_M_map 35 = .ok (.if_icmp .ne 13, 3) := by decide +kernel
theorem d_M_map_38 : decode b_M_map 38 = .ok (.iload_n 3, 1) := by decide +kernel
theorem d_M_map_39 : decode b_M_map 39 = .ok (.ifCond .lt 9, 3) := by decide +kernel
theorem d_M_map_42 : decode b_M_map 42 = .ok (.iload_n 3, 1) := by decide +kernel
theorem d_M_map_43 : decode b_M_map 43 = .ok (.bipush 15, 2) := by decide +kernel
theorem d_M_map_45 : decode b_M_map 45 = .ok (.if_icmp .le 5, 3) := by decide +kernel
theorem d_M_map_48 : decode b_M_map 48 = .ok (.iconst (-1), 1) := by decide +kernel
theorem d_M_map_49 : decode b_M_map 49 = .ok (.ireturn, 1) := by decide +kernel
theorem d_M_map_50 : decode b_M_map 50 = .ok (.aload_n 0, 1) := by decide +kernel
theorem d_M_map_51 : decode b_M_map 51 = .ok (.iload_n 1, 1) := by decide +kernel
theorem d_M_map_52 : decode b_M_map 52 = .ok (.iload_n 2, 1) := by decide +kernel
theorem d_M_map_53 : decode b_M_map 53 = .ok (.sipush 4096, 3) := by decide +kernel
theorem d_M_map_56 : decode b_M_map 56 = .ok (.idiv, 1) := by decide +kernel
theorem d_M_map_57 : decode b_M_map 57 = .ok (.invokevirtual 91, 3) := by decide +kernel
theorem d_M_map_60 : decode b_M_map 60 = .ok (.ifCond .ne 6, 3) := by decide +kernel
theorem d_M_map_63 : decode b_M_map 63 = .ok (.bipush (-2), 2) := by decide +kernel
theorem d_M_map_65 : decode b_M_map 65 = .ok (.ireturn, 1) := by decide +kernel
theorem d_M_map_66 : decode b_M_map 66 = .ok (.aload_n 0, 1) := by decide +kernel
theorem d_M_map_67 : decode b_M_map 67 = .ok (.iload_n 1, 1) := by decide +kernel
theorem d_M_map_68 : decode b_M_map 68 = .ok (.iload_n 2, 1) := by decide +kernel
theorem d_M_map_69 : decode b_M_map 69 = .ok (.sipush 4096, 3) := by decide +kernel
theorem d_M_map_72 : decode b_M_map 72 = .ok (.idiv, 1) := by decide +kernel
theorem d_M_map_73 : decode b_M_map 73 = .ok (.iload_n 3, 1) := by decide +kernel
theorem d_M_map_74 : decode b_M_map 74 = .ok (.invokevirtual 94, 3) := by decide +kernel
theorem d_M_map_77 : decode b_M_map 77 = .ok (.aload_n 0, 1) := by decide +kernel
theorem d_M_map_78 : decode b_M_map 78 = .ok (.getfield 13, 3) := by decide +kernel
theorem d_M_map_81 : decode b_M_map 81 = .ok (.iload_n 1, 1) := by decide +kernel
theorem d_M_map_82 : decode b_M_map 82 = .ok (.iaload, 1) := by decide +kernel
theorem d_M_map_83 : decode b_M_map 83 = .ok (.iload_n 2, 1) := by decide +kernel
theorem d_M_map_84 : decode b_M_map 84 = .ok (.sipush 4096, 3) := by decide +kernel
theorem d_M_map_87 : decode b_M_map 87 = .ok (.iadd, 1) := by decide +kernel
theorem d_M_map_88 : decode b_M_map 88 = .ok (.if_icmp .ge 14, 3) := by decide +kernel
theorem d_M_map_91 : decode b_M_map 91 = .ok (.aload_n 0, 1) := by decide +kernel
theorem d_M_map_92 : decode b_M_map 92 = .ok (.getfield 13, 3) := by decide +kernel
theorem d_M_map_95 : decode b_M_map 95 = .ok (.iload_n 1, 1) := by decide +kernel
theorem d_M_map_96 : decode b_M_map 96 = .ok (.iload_n 2, 1) := by decide +kernel
theorem d_M_map_97 : decode b_M_map 97 = .ok (.sipush 4096, 3) := by decide +kernel
theorem d_M_map_100 : decode b_M_map 100 = .ok (.iadd, 1) := by decide +kernel
theorem d_M_map_101 : decode b_M_map 101 = .ok (.iastore, 1) := by decide +kernel
theorem d_M_map_102 : decode b_M_map 102 = .ok (.iconst 0, 1) := by decide +kernel
theorem d_M_map_103 : decode b_M_map 103 = .ok (.ireturn, 1) := by decide +kernel
theorem d_M_protect_0 : decode b_M_protect 0 = .ok (.aload_n 0, 1) := by decide +kernel
theorem d_M_protect_1 : decode b_M_protect 1 = .ok (.iload_n 1, 1) := by decide +kernel
theorem d_M_protect_2 : decode b_M_protect 2 = .ok (.iload_n 2, 1) := by decide +kernel
theorem d_M_protect_3 : decode b_M_protect 3 = .ok (.invokevirtual 87, 3) := by decide +kernel
theorem d_M_protect_6 : decode b_M_protect 6 = .ok (.istore 4, 2) := by decide +kernel
theorem d_M_protect_8 : decode b_M_protect 8 = .ok (.iload 4, 2) := by decide +kernel
theorem d_M_protect_10 : decode b_M_protect 10 = .ok (.iconst (-1), 1) := by decide +kernel
theorem d_M_protect_11 : decode b_M_protect 11 = .ok (.if_icmp .eq 21, 3) := by decide +kernel
theorem d_M_protect_14 : decode b_M_protect 14 = .ok (.iload_n 2, 1) := by decide +kernel
theorem d_M_protect_15 : decode b_M_protect 15 = .ok (.sipush 4096, 3) := by decide +kernel
theorem d_M_protect_18 : decode b_M_protect 18 = .ok (.irem, 1) := by decide +kernel
theorem d_M_protect_19 : decode b_M_protect 19 = .ok (.ifCond .ne 13, 3) := by decide +kernel
theorem d_M_protect_22 : decode b_M_protect 22 = .ok (.iload_n 3, 1) := by decide +kernel
theorem d_M_protect_23 : decode b_M_protect 23 = .ok (.ifCond .lt 9, 3) := by decide +kernel
theorem d_M_protect_26 : decode b_M_protect 26 = .ok (.iload_n 3, 1) := by decide +kernel
theorem d_M_protect_27 : decode b_M_protect 27 = .ok (.bipush 15, 2) := by decide +kernel
theorem d_M_protect_29 : decode b_M_protect 29 = .ok (.if_icmp .le 5, 3) := by decide +kernel
theorem d_M_protect_32 : decode b_M_protect 32 = .ok (.iconst 0, 1) := by decide +kernel
theorem d_M_protect_33 : decode b_M_protect 33 = .ok (.ireturn, 1) := by decide +kernel
theorem d_M_protect_34 : decode b_M_protect 34 = .ok (.aload_n 0, 1) := by decide +kernel
theorem d_M_protect_35 : decode b_M_protect 35 = .ok (.getfield 23, 3) := by decide +kernel
theorem d_M_protect_38 : decode b_M_protect 38 = .ok (.iload 4, 2) := by decide +kernel
theorem d_M_protect_40 : decode b_M_protect 40 = .ok (.iload_n 3, 1) := by decide +kernel
theorem d_M_protect_41 : decode b_M_protect 41 = .ok (.iastore, 1) := by decide +kernel
theorem d_M_protect_42 : decode b_M_protect 42 = .ok (.iconst 1, 1) := by decide +kernel
theorem d_M_protect_43 : decode b_M_protect 43 = .ok (.ireturn, 1) := by decide +kernel
theorem d_M_grow_0 : decode b_M_grow 0 = .ok (.aload_n 0, 1) := by decide +kernel
theorem d_M_grow_1 : decode b_M_grow 1 = .ok (.iload_n 1, 1) := by decide +kernel
theorem d_M_grow_2 : decode b_M_grow 2 = .ok (.invokevirtual 105, 3) := by decide +kernel
theorem d_M_grow_5 : decode b_M_grow 5 = .ok (.ifCond .ne 5, 3) := by decide +kernel
theorem d_M_grow_8 : decode b_M_grow 8 = .ok (.iconst (-1), 1) := by decide +kernel
theorem d_M_grow_9 : decode b_M_grow 9 = .ok (.ireturn, 1) := by decide +kernel
theorem d_M_grow_10 : decode b_M_grow 10 = .ok (.aload_n 0, 1) := by decide +kernel
theorem d_M_grow_11 : decode b_M_grow 11 = .ok (.getfield 13, 3) := by decide +kernel
theorem d_M_grow_14 : decode b_M_grow 14 = .ok (.iload_n 1, 1) := by decide +kernel
theorem d_M_grow_15 : decode b_M_grow 15 = .ok (.iaload, 1) := by decide +kernel
theorem d_M_grow_16 : decode b_M_grow 16 = .ok (.istore_n 3, 1) := by decide +kernel
theorem d_M_grow_17 : decode b_M_grow 17 = .ok (.iload_n 3, 1) := by decide +kernel
theorem d_M_grow_18 : decode b_M_grow 18 = .ok (.i2l, 1) := by decide +kernel
theorem d_M_grow_19 : decode b_M_grow 19 = .ok (.iload_n 2, 1) := by decide +kernel
theorem d_M_grow_20 : decode b_M_grow 20 = .ok (.i2l, 1) := by decide +kernel
theorem d_M_grow_21 : decode b_M_grow 21 = .ok (.ladd, 1) := by decide +kernel
theorem d_M_grow_22 : decode b_M_grow 22 = .ok (.lstore 4, 2) := by decide +kernel
theorem d_M_grow_24 : decode b_M_grow 24 = .ok (.lload 4, 2) := by decide +kernel
theorem d_M_grow_26 : decode b_M_grow 26 = .ok (.lconst 0, 1) := by decide +kernel
theorem d_M_grow_27 : decode b_M_grow 27 = .ok (.lcmp, 1) := by decide +kernel
theorem d_M_grow_28 : decode b_M_grow 28 = .ok (.ifCond .lt 12, 3) := by decide +kernel
theorem d_M_grow_31 : decode b_M_grow 31 = .ok (.lload 4, 2) := by decide +kernel
theorem d_M_grow_33 : decode b_M_grow 33 = .ok (.ldc2_w 129, 3) := by decide +kernel
theorem d_M_grow_36 : decode b_M_grow 36 = .ok (.lcmp, 1) := by decide +kernel
theorem d_M_grow_37 : decode b_M_grow 37 = .ok (.ifCond .le 5, 3) := by decide +kernel
theorem d_M_grow_40 : decode b_M_grow 40 = .ok (.iconst (-1), 1) := by decide +kernel
theorem d_M_grow_41 : decode b_M_grow 41 = .ok (.ireturn, 1) := by decide +kernel
theorem d_M_grow_42 : decode b_M_grow 42 = .ok (.aload_n 0, 1) := by decide +kernel
theorem d_M_grow_43 : decode b_M_grow 43 = .ok (.getfield 13, 3) := by decide +kernel
theorem d_M_grow_46 : decode b_M_grow 46 = .ok (.iload_n 1, 1) := by decide +kernel
theorem d_M_grow_47 : decode b_M_grow 47 = .ok (.lload 4, 2) := by decide +kernel
theorem d_M_grow_49 : decode b_M_grow 49 = .ok (.l2i, 1) := by decide +kernel
theorem d_M_grow_50 : decode b_M_grow 50 = .ok (.iastore, 1) := by decide +kernel
theorem d_M_grow_51 : decode b_M_grow 51 = .ok (.aload_n 0, 1) := by decide +kernel
theorem d_M_grow_52 : decode b_M_grow 52 = .ok (.iload_n 1, 1) := by decide +kernel
theorem d_M_grow_53 : decode b_M_grow 53 = .ok (.aload_n 0, 1) := by decide +kernel
theorem d_M_grow_54 : decode b_M_grow 54 = .ok (.getfield 13, 3) := by decide +kernel
theorem d_M_grow_57 : decode b_M_grow 57 = .ok (.iload_n 1, 1) := by decide +kernel
theorem d_M_grow_58 : decode b_M_grow 58 = .ok (.iaload, 1) := by decide +kernel
theorem d_M_grow_59 : decode b_M_grow 59 = .ok (.invokevirtual 118, 3) := by decide +kernel
theorem d_M_grow_62 : decode b_M_grow 62 = .ok (.iload_n 3, 1) := by decide +kernel
theorem d_M_grow_63 : decode b_M_grow 63 = .ok (.ireturn, 1) := by decide +kernel
theorem d_M_size_0 : decode b_M_size 0 = .ok (.aload_n 0, 1) := by decide +kernel
theorem d_M_size_1 : decode b_M_size 1 = .ok (.iload_n 1, 1) := by decide +kernel
theorem d_M_size_2 : decode b_M_size 2 = .ok (.invokevirtual 105, 3) := by decide +kernel
theorem d_M_size_5 : decode b_M_size 5 = .ok (.ifCond .eq 12, 3) := by decide +kernel
theorem d_M_size_8 : decode b_M_size 8 = .ok (.aload_n 0, 1) := by decide +kernel
theorem d_M_size_9 : decode b_M_size 9 = .ok (.getfield 13, 3) := by decide +kernel
theorem d_M_size_12 : decode b_M_size 12 = .ok (.iload_n 1, 1) := by decide +kernel
theorem d_M_size_13 : decode b_M_size 13 = .ok (.iaload, 1) := by decide +kernel
theorem d_M_size_14 : decode b_M_size 14 = .ok (.goto 4, 3) := by decide +kernel
theorem d_M_size_17 : decode b_M_size 17 = .ok (.iconst (-1), 1) := by decide +kernel
theorem d_M_size_18 : decode b_M_size 18 = .ok (.ireturn, 1) := by decide +kernel
theorem d_M_load_0 : decode b_M_load 0 = .ok (.aload_n 0, 1) := by decide +kernel
theorem d_M_load_1 : decode b_M_load 1 = .ok (.iload_n 1, 1) := by decide +kernel
theorem d_M_load_2 : decode b_M_load 2 = .ok (.iload_n 2, 1) := by decide +kernel
theorem d_M_load_3 : decode b_M_load 3 = .ok (.iload_n 3, 1) := by decide +kernel
theorem d_M_load_4 : decode b_M_load 4 = .ok (.iconst 1, 1) := by decide +kernel
theorem d_M_load_5 : decode b_M_load 5 = .ok (.invokevirtual 131, 3) := by decide +kernel
theorem d_M_load_8 : decode b_M_load 8 = .ok (.ifCond .eq 13, 3) := by decide +kernel
theorem d_M_load_11 : decode b_M_load 11 = .ok (.aload_n 0, 1) := by decide +kernel
theorem d_M_load_12 : decode b_M_load 12 = .ok (.iload_n 1, 1) := by decide +kernel
theorem d_M_load_13 : decode b_M_load 13 = .ok (.iload_n 2, 1) := by decide +kernel
theorem d_M_load_14 : decode b_M_load 14 = .ok (.iload_n 3, 1) := by decide +kernel
theorem d_M_load_15 : decode b_M_load 15 = .ok (.invokevirtual 135, 3) := by decide +kernel
theorem d_M_load_18 : decode b_M_load 18 = .ok (.goto 4, 3) := by decide +kernel
theorem d_M_load_21 : decode b_M_load 21 = .ok (.iconst 0, 1) := by decide +kernel
theorem d_M_load_22 : decode b_M_load 22 = .ok (.ireturn, 1) := by decide +kernel
theorem d_M_fetch_0 : decode b_M_fetch 0 = .ok (.aload_n 0, 1) := by decide +kernel
theorem d_M_fetch_1 : decode b_M_fetch 1 = .ok (.iload_n 1, 1) := by decide +kernel
theorem d_M_fetch_2 : decode b_M_fetch 2 = .ok (.iload_n 2, 1) := by decide +kernel
theorem d_M_fetch_3 : decode b_M_fetch 3 = .ok (.iconst 4, 1) := by decide +kernel
theorem d_M_fetch_4 : decode b_M_fetch 4 = .ok (.iconst 4, 1) := by decide +kernel
theorem d_M_fetch_5 : decode b_M_fetch 5 = .ok (.invokevirtual 131, 3) := by decide +kernel
theorem d_M_fetch_8 : decode b_M_fetch 8 = .ok (.ifCond .eq 13, 3) := by decide +kernel
theorem d_M_fetch_11 : decode b_M_fetch 11 = .ok (.aload_n 0, 1) := by decide +kernel
end
section
theorem d_M_fetch_12 : decode b_M_fetch 12 = .ok (.iload_n 1, 1) := by decide +kernel
theorem d_M_fetch_13 : decode b_M_fetch 13 = .ok (.iload_n 2, 1) := by decide +kernel
theorem d_M_fetch_14 : decode b_M_fetch 14 = .ok (.iconst 4, 1) := by decide +kernel
theorem d_M_fetch_15 : decode b_M_fetch 15 = .ok (.invokevirtual 135, 3) := by decide +kernel
theorem d_M_fetch_18 : decode b_M_fetch 18 = .ok (.goto 4, 3) := by decide +kernel
theorem d_M_fetch_21 : decode b_M_fetch 21 = .ok (.iconst 0, 1) := by decide +kernel
theorem d_M_fetch_22 : decode b_M_fetch 22 = .ok (.ireturn, 1) := by decide +kernel
theorem d_M_store_0 : decode b_M_store 0 = .ok (.aload_n 0, 1) := by decide +kernel
theorem d_M_store_1 : decode b_M_store 1 = .ok (.iload_n 1, 1) := by decide +kernel
theorem d_M_store_2 : decode b_M_store 2 = .ok (.iload_n 2, 1) := by decide +kernel
theorem d_M_store_3 : decode b_M_store 3 = .ok (.iload_n 3, 1) := by decide +kernel
theorem d_M_store_4 : decode b_M_store 4 = .ok (.iconst 2, 1) := by decide +kernel
theorem d_M_store_5 : decode b_M_store 5 = .ok (.invokevirtual 131, 3) := by decide +kernel
theorem d_M_store_8 : decode b_M_store 8 = .ok (.ifCond .ne 5, 3) := by decide +kernel
theorem d_M_store_11 : decode b_M_store 11 = .ok (.iconst 0, 1) := by decide +kernel
theorem d_M_store_12 : decode b_M_store 12 = .ok (.ireturn, 1) := by decide +kernel
theorem d_M_store_13 : decode b_M_store 13 = .ok (.aload_n 0, 1) := by decide +kernel
theorem d_M_store_14 : decode b_M_store 14 = .ok (.iconst 3, 1) := by decide +kernel
theorem d_M_store_15 : decode b_M_store 15 = .ok (.iload_n 1, 1) := by decide +kernel
theorem d_M_store_16 : decode b_M_store 16 = .ok (.iload_n 2, 1) := by decide +kernel
theorem d_M_store_17 : decode b_M_store 17 = .ok (.iload_n 3, 1) := by decide +kernel
theorem d_M_store_18 : decode b_M_store 18 = .ok (.iload 4, 2) := by decide +kernel
theorem d_M_store_20 : decode b_M_store 20 = .ok (.invokevirtual 82, 3) := by decide +kernel
theorem d_M_store_23 : decode b_M_store 23 = .ok (.iconst 1, 1) := by decide +kernel
theorem d_M_store_24 : decode b_M_store 24 = .ok (.ireturn, 1) := by decide +kernel
theorem d_M_trap_0 : decode b_M_trap 0 = .ok (.aload_n 0, 1) := by decide +kernel
theorem d_M_trap_1 : decode b_M_trap 1 = .ok (.getfield 102, 3) := by decide +kernel
theorem d_M_trap_4 : decode b_M_trap 4 = .ok (.ireturn, 1) := by decide +kernel
theorem d_M_out_0 : decode b_M_out 0 = .ok (.aload_n 0, 1) := by decide +kernel
theorem d_M_out_1 : decode b_M_out 1 = .ok (.iconst 0, 1) := by decide +kernel
theorem d_M_out_2 : decode b_M_out 2 = .ok (.putfield 102, 3) := by decide +kernel
theorem d_M_out_5 : decode b_M_out 5 = .ok (.iload_n 3, 1) := by decide +kernel
theorem d_M_out_6 : decode b_M_out 6 = .ok (.ifCond .lt 10, 3) := by decide +kernel
theorem d_M_out_9 : decode b_M_out 9 = .ok (.iload_n 3, 1) := by decide +kernel
theorem d_M_out_10 : decode b_M_out 10 = .ok (.sipush 512, 3) := by decide +kernel
theorem d_M_out_13 : decode b_M_out 13 = .ok (.if_icmp .le 5, 3) := by decide +kernel
theorem d_M_out_16 : decode b_M_out 16 = .ok (.iconst (-1), 1) := by decide +kernel
theorem d_M_out_17 : decode b_M_out 17 = .ok (.ireturn, 1) := by decide +kernel
theorem d_M_out_18 : decode b_M_out 18 = .ok (.aload_n 0, 1) := by decide +kernel
theorem d_M_out_19 : decode b_M_out 19 = .ok (.iload_n 1, 1) := by decide +kernel
theorem d_M_out_20 : decode b_M_out 20 = .ok (.iload_n 2, 1) := by decide +kernel
theorem d_M_out_21 : decode b_M_out 21 = .ok (.iload_n 3, 1) := by decide +kernel
theorem d_M_out_22 : decode b_M_out 22 = .ok (.iconst 2, 1) := by decide +kernel
theorem d_M_out_23 : decode b_M_out 23 = .ok (.invokevirtual 138, 3) := by decide +kernel
theorem d_M_out_26 : decode b_M_out 26 = .ok (.istore 4, 2) := by decide +kernel
theorem d_M_out_28 : decode b_M_out 28 = .ok (.iload 4, 2) := by decide +kernel
theorem d_M_out_30 : decode b_M_out 30 = .ok (.ifCond .le 13, 3) := by decide +kernel
theorem d_M_out_33 : decode b_M_out 33 = .ok (.aload_n 0, 1) := by decide +kernel
theorem d_M_out_34 : decode b_M_out 34 = .ok (.iconst 4, 1) := by decide +kernel
theorem d_M_out_35 : decode b_M_out 35 = .ok (.iload_n 1, 1) := by decide +kernel
theorem d_M_out_36 : decode b_M_out 36 = .ok (.iload_n 2, 1) := by decide +kernel
theorem d_M_out_37 : decode b_M_out 37 = .ok (.iload 4, 2) := by decide +kernel
theorem d_M_out_39 : decode b_M_out 39 = .ok (.iconst 0, 1) := by decide +kernel
theorem d_M_out_40 : decode b_M_out 40 = .ok (.invokevirtual 82, 3) := by decide +kernel
theorem d_M_out_43 : decode b_M_out 43 = .ok (.iload 4, 2) := by decide +kernel
theorem d_M_out_45 : decode b_M_out 45 = .ok (.ireturn, 1) := by decide +kernel
theorem d_M_in_0 : decode b_M_in 0 = .ok (.aload_n 0, 1) := by decide +kernel
theorem d_M_in_1 : decode b_M_in 1 = .ok (.iconst 0, 1) := by decide +kernel
theorem d_M_in_2 : decode b_M_in 2 = .ok (.putfield 102, 3) := by decide +kernel
theorem d_M_in_5 : decode b_M_in 5 = .ok (.iload_n 3, 1) := by decide +kernel
theorem d_M_in_6 : decode b_M_in 6 = .ok (.ifCond .lt 10, 3) := by decide +kernel
theorem d_M_in_9 : decode b_M_in 9 = .ok (.iload_n 3, 1) := by decide +kernel
theorem d_M_in_10 : decode b_M_in 10 = .ok (.sipush 512, 3) := by decide +kernel
theorem d_M_in_13 : decode b_M_in 13 = .ok (.if_icmp .le 5, 3) := by decide +kernel
theorem d_M_in_16 : decode b_M_in 16 = .ok (.iconst (-1), 1) := by decide +kernel
theorem d_M_in_17 : decode b_M_in 17 = .ok (.ireturn, 1) := by decide +kernel
theorem d_M_in_18 : decode b_M_in 18 = .ok (.aload_n 0, 1) := by decide +kernel
theorem d_M_in_19 : decode b_M_in 19 = .ok (.iload_n 1, 1) := by decide +kernel
theorem d_M_in_20 : decode b_M_in 20 = .ok (.iload_n 2, 1) := by decide +kernel
theorem d_M_in_21 : decode b_M_in 21 = .ok (.iload_n 3, 1) := by decide +kernel
theorem d_M_in_22 : decode b_M_in 22 = .ok (.iconst 1, 1) := by decide +kernel
theorem d_M_in_23 : decode b_M_in 23 = .ok (.invokevirtual 138, 3) := by decide +kernel
theorem d_M_in_26 : decode b_M_in 26 = .ok (.istore 4, 2) := by decide +kernel
theorem d_M_in_28 : decode b_M_in 28 = .ok (.aload_n 0, 1) := by decide +kernel
theorem d_M_in_29 : decode b_M_in 29 = .ok (.iload_n 1, 1) := by decide +kernel
theorem d_M_in_30 : decode b_M_in 30 = .ok (.iload_n 2, 1) := by decide +kernel
theorem d_M_in_31 : decode b_M_in 31 = .ok (.iload 4, 2) := by decide +kernel
theorem d_M_in_33 : decode b_M_in 33 = .ok (.invokevirtual 142, 3) := by decide +kernel
theorem d_M_in_36 : decode b_M_in 36 = .ok (.iload 4, 2) := by decide +kernel
theorem d_M_in_38 : decode b_M_in 38 = .ok (.ireturn, 1) := by decide +kernel
theorem d_M_text_0 : decode b_M_text 0 = .ok (.aload_n 0, 1) := by decide +kernel
theorem d_M_text_1 : decode b_M_text 1 = .ok (.iconst 0, 1) := by decide +kernel
theorem d_M_text_2 : decode b_M_text 2 = .ok (.putfield 102, 3) := by decide +kernel
theorem d_M_text_5 : decode b_M_text 5 = .ok (.iload_n 3, 1) := by decide +kernel
theorem d_M_text_6 : decode b_M_text 6 = .ok (.iconst 1, 1) := by decide +kernel
theorem d_M_text_7 : decode b_M_text 7 = .ok (.if_icmp .lt 10, 3) := by decide +kernel
theorem d_M_text_10 : decode b_M_text 10 = .ok (.iload_n 3, 1) := by decide +kernel
theorem d_M_text_11 : decode b_M_text 11 = .ok (.sipush 512, 3) := by decide +kernel
theorem d_M_text_14 : decode b_M_text 14 = .ok (.if_icmp .le 5, 3) := by decide +kernel
theorem d_M_text_17 : decode b_M_text 17 = .ok (.iconst (-1), 1) := by decide +kernel
theorem d_M_text_18 : decode b_M_text 18 = .ok (.ireturn, 1) := by decide +kernel
theorem d_M_text_19 : decode b_M_text 19 = .ok (.iconst 0, 1) := by decide +kernel
theorem d_M_text_20 : decode b_M_text 20 = .ok (.istore 4, 2) := by decide +kernel
theorem d_M_text_22 : decode b_M_text 22 = .ok (.iload 4, 2) := by decide +kernel
theorem d_M_text_24 : decode b_M_text 24 = .ok (.iload_n 3, 1) := by decide +kernel
theorem d_M_text_25 : decode b_M_text 25 = .ok (.if_icmp .ge 77, 3) := by decide +kernel
theorem d_M_text_28 : decode b_M_text 28 = .ok (.aload_n 0, 1) := by decide +kernel
theorem d_M_text_29 : decode b_M_text 29 = .ok (.aload_n 0, 1) := by decide +kernel
theorem d_M_text_30 : decode b_M_text 30 = .ok (.iload_n 1, 1) := by decide +kernel
theorem d_M_text_31 : decode b_M_text 31 = .ok (.invokevirtual 105, 3) := by decide +kernel
theorem d_M_text_34 : decode b_M_text 34 = .ok (.ifCond .eq 16, 3) := by decide +kernel
theorem d_M_text_37 : decode b_M_text 37 = .ok (.aload_n 0, 1) := by decide +kernel
theorem d_M_text_38 : decode b_M_text 38 = .ok (.iload_n 1, 1) := by decide +kernel
theorem d_M_text_39 : decode b_M_text 39 = .ok (.iload_n 2, 1) := by decide +kernel
theorem d_M_text_40 : decode b_M_text 40 = .ok (.iload 4, 2) := by decide +kernel
theorem d_M_text_42 : decode b_M_text 42 = .ok (.iadd, 1) := by decide +kernel
theorem d_M_text_43 : decode b_M_text 43 = .ok (.iconst 1, 1) := by decide +kernel
theorem d_M_text_44 : decode b_M_text 44 = .ok (.invokevirtual 108, 3) := by decide +kernel
theorem d_M_text_47 : decode b_M_text 47 = .ok (.goto 4, 3) := by decide +kernel
theorem d_M_text_50 : decode b_M_text 50 = .ok (.iconst 1, 1) := by decide +kernel
theorem d_M_text_51 : decode b_M_text 51 = .ok (.putfield 102, 3) := by decide +kernel
theorem d_M_text_54 : decode b_M_text 54 = .ok (.aload_n 0, 1) := by decide +kernel
theorem d_M_text_55 : decode b_M_text 55 = .ok (.getfield 102, 3) := by decide +kernel
theorem d_M_text_58 : decode b_M_text 58 = .ok (.ifCond .eq 13, 3) := by decide +kernel
theorem d_M_text_61 : decode b_M_text 61 = .ok (.aload_n 0, 1) := by decide +kernel
theorem d_M_text_62 : decode b_M_text 62 = .ok (.iload_n 1, 1) := by decide +kernel
theorem d_M_text_63 : decode b_M_text 63 = .ok (.iload_n 2, 1) := by decide +kernel
theorem d_M_text_64 : decode b_M_text 64 = .ok (.iload 4, 2) := by decide +kernel
theorem d_M_text_66 : decode b_M_text 66 = .ok (.invokevirtual 142, 3) := by decide +kernel
theorem d_M_text_69 : decode b_M_text 69 = .ok (.iconst (-1), 1) := by decide +kernel
theorem d_M_text_70 : decode b_M_text 70 = .ok (.ireturn, 1) := by decide +kernel
theorem d_M_text_71 : decode b_M_text 71 = .ok (.aload_n 0, 1) := by decide +kernel
theorem d_M_text_72 : decode b_M_text 72 = .ok (.iload_n 1, 1) := by decide +kernel
theorem d_M_text_73 : decode b_M_text 73 = .ok (.iload_n 2, 1) := by decide +kernel
theorem d_M_text_74 : decode b_M_text 74 = .ok (.iload 4, 2) := by decide +kernel
theorem d_M_text_76 : decode b_M_text 76 = .ok (.iadd, 1) := by decide +kernel
theorem d_M_text_77 : decode b_M_text 77 = .ok (.invokevirtual 112, 3) := by decide +kernel
theorem d_M_text_80 : decode b_M_text 80 = .ok (.ifCond .ne 16, 3) := by decide +kernel
theorem d_M_text_83 : decode b_M_text 83 = .ok (.aload_n 0, 1) := by decide +kernel
theorem d_M_text_84 : decode b_M_text 84 = .ok (.iload_n 1, 1) := by decide +kernel
theorem d_M_text_85 : decode b_M_text 85 = .ok (.iload_n 2, 1) := by decide +kernel
theorem d_M_text_86 : decode b_M_text 86 = .ok (.iload 4, 2) := by decide +kernel
theorem d_M_text_88 : decode b_M_text 88 = .ok (.iconst 1, 1) := by decide +kernel
theorem d_M_text_89 : decode b_M_text 89 = .ok (.iadd, 1) := by decide +kernel
theorem d_M_text_90 : decode b_M_text 90 = .ok (.invokevirtual 142, 3) := by decide +kernel
theorem d_M_text_93 : decode b_M_text 93 = .ok (.iload 4, 2) := by decide +kernel
theorem d_M_text_95 : decode b_M_text 95 = .ok (.ireturn, 1) := by decide +kernel
theorem d_M_text_96 : decode b_M_text 96 = .ok (.iinc 4 1, 3) := by decide +kernel
theorem d_M_text_99 : decode b_M_text 99 = .ok (.goto (-77), 3) := by decide +kernel
theorem d_M_text_102 : decode b_M_text 102 = .ok (.aload_n 0, 1) := by decide +kernel
theorem d_M_text_103 : decode b_M_text 103 = .ok (.iload_n 1, 1) := by decide +kernel
theorem d_M_text_104 : decode b_M_text 104 = .ok (.iload_n 2, 1) := by decide +kernel
theorem d_M_text_105 : decode b_M_text 105 = .ok (.iload_n 3, 1) := by decide +kernel
theorem d_M_text_106 : decode b_M_text 106 = .ok (.invokevirtual 142, 3) := by decide +kernel
theorem d_M_text_109 : decode b_M_text 109 = .ok (.iconst (-1), 1) := by decide +kernel
theorem d_M_text_110 : decode b_M_text 110 = .ok (.ireturn, 1) := by decide +kernel
theorem d_M_put_0 : decode b_M_put 0 = .ok (.iload_n 1, 1) := by decide +kernel
theorem d_M_put_1 : decode b_M_put 1 = .ok (.ifCond .lt 21, 3) := by decide +kernel
theorem d_M_put_4 : decode b_M_put 4 = .ok (.iload_n 1, 1) := by decide +kernel
theorem d_M_put_5 : decode b_M_put 5 = .ok (.sipush 511, 3) := by decide +kernel
theorem d_M_put_8 : decode b_M_put 8 = .ok (.if_icmp .gt 14, 3) := by decide +kernel
theorem d_M_put_11 : decode b_M_put 11 = .ok (.iload_n 2, 1) := by decide +kernel
theorem d_M_put_12 : decode b_M_put 12 = .ok (.ifCond .lt 10, 3) := by decide +kernel
theorem d_M_put_15 : decode b_M_put 15 = .ok (.iload_n 2, 1) := by decide +kernel
theorem d_M_put_16 : decode b_M_put 16 = .ok (.sipush 255, 3) := by decide +kernel
theorem d_M_put_19 : decode b_M_put 19 = .ok (.if_icmp .le 5, 3) := by decide +kernel
theorem d_M_put_22 : decode b_M_put 22 = .ok (.iconst 0, 1) := by decide +kernel
theorem d_M_put_23 : decode b_M_put 23 = .ok (.ireturn, 1) := by decide +kernel
theorem d_M_put_24 : decode b_M_put 24 = .ok (.aload_n 0, 1) := by decide +kernel
theorem d_M_put_25 : decode b_M_put 25 = .ok (.bipush 6, 2) := by decide +kernel
theorem d_M_put_27 : decode b_M_put 27 = .ok (.iconst (-1), 1) := by decide +kernel
theorem d_M_put_28 : decode b_M_put 28 = .ok (.iload_n 1, 1) := by decide +kernel
theorem d_M_put_29 : decode b_M_put 29 = .ok (.iconst 1, 1) := by decide +kernel
theorem d_M_put_30 : decode b_M_put 30 = .ok (.iload_n 2, 1) := by decide +kernel
theorem d_M_put_31 : decode b_M_put 31 = .ok (.invokevirtual 82, 3) := by decide +kernel
theorem d_M_put_34 : decode b_M_put 34 = .ok (.iconst 1, 1) := by decide +kernel
theorem d_M_put_35 : decode b_M_put 35 = .ok (.ireturn, 1) := by decide +kernel
theorem d_M_at_0 : decode b_M_at 0 = .ok (.iload_n 1, 1) := by decide +kernel
theorem d_M_at_1 : decode b_M_at 1 = .ok (.ifCond .lt 10, 3) := by decide +kernel
theorem d_M_at_4 : decode b_M_at 4 = .ok (.iload_n 1, 1) := by decide +kernel
theorem d_M_at_5 : decode b_M_at 5 = .ok (.sipush 511, 3) := by decide +kernel
theorem d_M_at_8 : decode b_M_at 8 = .ok (.if_icmp .le 7, 3) := by decide +kernel
theorem d_M_at_11 : decode b_M_at 11 = .ok (.iconst (-1), 1) := by decide +kernel
theorem d_M_at_12 : decode b_M_at 12 = .ok (.goto 9, 3) := by decide +kernel
theorem d_M_at_15 : decode b_M_at 15 = .ok (.aload_n 0, 1) := by decide +kernel
theorem d_M_at_16 : decode b_M_at 16 = .ok (.iconst (-1), 1) := by decide +kernel
theorem d_M_at_17 : decode b_M_at 17 = .ok (.iload_n 1, 1) := by decide +kernel
theorem d_M_at_18 : decode b_M_at 18 = .ok (.invokevirtual 112, 3) := by decide +kernel
theorem d_M_at_21 : decode b_M_at 21 = .ok (.ireturn, 1) := by decide +kernel
theorem d_M_free_0 : decode b_M_free 0 = .ok (.aload_n 0, 1) := by decide +kernel
theorem d_M_free_1 : decode b_M_free 1 = .ok (.invokevirtual 67, 3) := by decide +kernel
theorem d_M_free_4 : decode b_M_free 4 = .ok (.ireturn, 1) := by decide +kernel
theorem d_M_flags_0 : decode b_M_flags 0 = .ok (.aload_n 0, 1) := by decide +kernel
theorem d_M_flags_1 : decode b_M_flags 1 = .ok (.iload_n 1, 1) := by decide +kernel
theorem d_M_flags_2 : decode b_M_flags 2 = .ok (.iload_n 2, 1) := by decide +kernel
theorem d_M_flags_3 : decode b_M_flags 3 = .ok (.invokevirtual 87, 3) := by decide +kernel
theorem d_M_flags_6 : decode b_M_flags 6 = .ok (.istore_n 3, 1) := by decide +kernel
theorem d_M_flags_7 : decode b_M_flags 7 = .ok (.iload_n 3, 1) := by decide +kernel
theorem d_M_flags_8 : decode b_M_flags 8 = .ok (.iconst (-1), 1) := by decide +kernel
theorem d_M_flags_9 : decode b_M_flags 9 = .ok (.if_icmp .ne 7, 3) := by decide +kernel
theorem d_M_flags_12 : decode b_M_flags 12 = .ok (.iconst (-1), 1) := by decide +kernel
theorem d_M_flags_13 : decode b_M_flags 13 = .ok (.goto 9, 3) := by decide +kernel
theorem d_M_flags_16 : decode b_M_flags 16 = .ok (.aload_n 0, 1) := by decide +kernel
theorem d_M_flags_17 : decode b_M_flags 17 = .ok (.getfield 23, 3) := by decide +kernel
theorem d_M_flags_20 : decode b_M_flags 20 = .ok (.iload_n 3, 1) := by decide +kernel
theorem d_M_flags_21 : decode b_M_flags 21 = .ok (.iaload, 1) := by decide +kernel
theorem d_M_flags_22 : decode b_M_flags 22 = .ok (.ireturn, 1) := by decide +kernel
theorem d_M_owners_0 : decode b_M_owners 0 = .ok (.aload_n 0, 1) := by decide +kernel
theorem d_M_owners_1 : decode b_M_owners 1 = .ok (.iload_n 1, 1) := by decide +kernel
theorem d_M_owners_2 : decode b_M_owners 2 = .ok (.iload_n 2, 1) := by decide +kernel
theorem d_M_owners_3 : decode b_M_owners 3 = .ok (.invokevirtual 87, 3) := by decide +kernel
theorem d_M_owners_6 : decode b_M_owners 6 = .ok (.istore_n 3, 1) := by decide +kernel
theorem d_M_owners_7 : decode b_M_owners 7 = .ok (.iload_n 3, 1) := by decide +kernel
theorem d_M_owners_8 : decode b_M_owners 8 = .ok (.iconst (-1), 1) := by decide +kernel
theorem d_M_owners_9 : decode b_M_owners 9 = .ok (.if_icmp .ne 7, 3) := by decide +kernel
theorem d_M_owners_12 : decode b_M_owners 12 = .ok (.iconst 0, 1) := by decide +kernel
theorem d_M_owners_13 : decode b_M_owners 13 = .ok (.goto 13, 3) := by decide +kernel
theorem d_M_owners_16 : decode b_M_owners 16 = .ok (.aload_n 0, 1) := by decide +kernel
theorem d_M_owners_17 : decode b_M_owners 17 = .ok (.aload_n 0, 1) := by decide +kernel
theorem d_M_owners_18 : decode b_M_owners 18 = .ok (.getfield 26, 3) := by decide +kernel
theorem d_M_owners_21 : decode b_M_owners 21 = .ok (.iload_n 3, 1) := by decide +kernel
theorem d_M_owners_22 : decode b_M_owners 22 = .ok (.iaload, 1) := by decide +kernel
theorem d_M_owners_23 : decode b_M_owners 23 = .ok (.invokevirtual 98, 3) := by decide +kernel
theorem d_M_owners_26 : decode b_M_owners 26 = .ok (.ireturn, 1) := by decide +kernel
theorem d_F_init_0 : decode b_F_init 0 = .ok (.aload_n 0, 1) := by decide +kernel
theorem d_F_init_1 : decode b_F_init 1 = .ok (.invokespecial 3, 3) := by decide +kernel
theorem d_F_init_4 : decode b_F_init 4 = .ok (.aload_n 0, 1) := by decide +kernel
theorem d_F_init_5 : decode b_F_init 5 = .ok (.iload_n 1, 1) := by decide +kernel
theorem d_F_init_6 : decode b_F_init 6 = .ok (.sipush 1024, 3) := by decide +kernel
theorem d_F_init_9 : decode b_F_init 9 = .ok (.multianewarray 9 2, 4) := by decide +kernel
theorem d_F_init_13 : decode b_F_init 13 = .ok (.putfield 11, 3) := by decide +kernel
theorem d_F_init_16 : decode b_F_init 16 = .ok (.aload_n 0, 1) := by decide +kernel
theorem d_F_init_17 : decode b_F_init 17 = .ok (.iload_n 1, 1) := by decide +kernel
theorem d_F_init_18 : decode b_F_init 18 = .ok (.newarray .int, 2) := by decide +kernel
theorem d_F_init_20 : decode b_F_init 20 = .ok (.putfield 16, 3) := by decide +kernel
theorem d_F_init_23 : decode b_F_init 23 = .ok (.aload_n 0, 1) := by decide +kernel
theorem d_F_init_24 : decode b_F_init 24 = .ok (.iload_n 1, 1) := by decide +kernel
theorem d_F_init_25 : decode b_F_init 25 = .ok (.putfield 20, 3) := by decide +kernel
theorem d_F_init_28 : decode b_F_init 28 = .ok (.return_, 1) := by decide +kernel
theorem d_F_spare_0 : decode b_F_spare 0 = .ok (.aload_n 0, 1) := by decide +kernel
theorem d_F_spare_1 : decode b_F_spare 1 = .ok (.getfield 20, 3) := by decide +kernel
theorem d_F_spare_4 : decode b_F_spare 4 = .ok (.ireturn, 1) := by decide +kernel
theorem d_F_take_0 : decode b_F_take 0 = .ok (.iconst 0, 1) := by decide +kernel
theorem d_F_take_1 : decode b_F_take 1 = .ok (.istore_n 1, 1) := by decide +kernel
theorem d_F_take_2 : decode b_F_take 2 = .ok (.iload_n 1, 1) := by decide +kernel
theorem d_F_take_3 : decode b_F_take 3 = .ok (.aload_n 0, 1) := by decide +kernel
theorem d_F_take_4 : decode b_F_take 4 = .ok (.getfield 16, 3) := by decide +kernel
theorem d_F_take_7 : decode b_F_take 7 = .ok (.arraylength, 1) := by decide +kernel
theorem d_F_take_8 : decode b_F_take 8 = .ok (.if_icmp .ge 47, 3) := by decide +kernel
theorem d_F_take_11 : decode b_F_take 11 = .ok (.aload_n 0, 1) := by decide +kernel
theorem d_F_take_12 : decode b_F_take 12 = .ok (.getfield 16, 3) := by decide +kernel
theorem d_F_take_15 : decode b_F_take 15 = .ok (.iload_n 1, 1) := by decide +kernel
theorem d_F_take_16 : decode b_F_take 16 = .ok (.iaload, 1) := by decide +kernel
theorem d_F_take_17 : decode b_F_take 17 = .ok (.ifCond .ne 32, 3) := by decide +kernel
theorem d_F_take_20 : decode b_F_take 20 = .ok (.aload_n 0, 1) := by decide +kernel
theorem d_F_take_21 : decode b_F_take 21 = .ok (.getfield 16, 3) := by decide +kernel
theorem d_F_take_24 : decode b_F_take 24 = .ok (.iload_n 1, 1) := by decide +kernel
theorem d_F_take_25 : decode b_F_take 25 = .ok (.iconst 1, 1) := by decide +kernel
theorem d_F_take_26 : decode b_F_take 26 = .ok (.iastore, 1) := by decide +kernel
theorem d_F_take_27 : decode b_F_take 27 = .ok (.aload_n 0, 1) := by decide +kernel
theorem d_F_take_28 : decode b_F_take 28 = .ok (.dup, 1) := by decide +kernel
theorem d_F_take_29 : decode b_F_take 29 = .ok (.getfield 20, 3) := by decide +kernel
theorem d_F_take_32 : decode b_F_take 32 = .ok (.iconst 1, 1) := by decide +kernel
theorem d_F_take_33 : decode b_F_take 33 = .ok (.isub, 1) := by decide +kernel
theorem d_F_take_34 : decode b_F_take 34 = .ok (.putfield 20, 3) := by decide +kernel
theorem d_F_take_37 : decode b_F_take 37 = .ok (.aload_n 0, 1) := by decide +kernel
theorem d_F_take_38 : decode b_F_take 38 = .ok (.getfield 11, 3) := by decide +kernel
theorem d_F_take_41 : decode b_F_take 41 = .ok (.iload_n 1, 1) := by decide +kernel
theorem d_F_take_42 : decode b_F_take 42 = .ok (.aaload, 1) := by decide +kernel
theorem d_F_take_43 : decode b_F_take 43 = .ok (.iconst 0, 1) := by decide +kernel
theorem d_F_take_44 : decode b_F_take 44 = .ok (.invokestatic 24, 3) := by decide +kernel
theorem d_F_take_47 : decode b_F_take 47 = .ok (.iload_n 1, 1) := by decide +kernel
theorem d_F_take_48 : decode b_F_take 48 = .ok (.ireturn, 1) := by decide +kernel
theorem d_F_take_49 : decode b_F_take 49 = .ok (.iinc 1 1, 3) := by decide +kernel
theorem d_F_take_52 : decode b_F_take 52 = .ok (.goto (-50), 3) := by decide +kernel
theorem d_F_take_55 : decode b_F_take 55 = .ok (.iconst (-1), 1) := by decide +kernel
theorem d_F_take_56 : decode b_F_take 56 = .ok (.ireturn, 1) := by decide +kernel
theorem d_F_hold_0 : decode b_F_hold 0 = .ok (.aload_n 0, 1) := by decide +kernel
theorem d_F_hold_1 : decode b_F_hold 1 = .ok (.iload_n 1, 1) := by decide +kernel
theorem d_F_hold_2 : decode b_F_hold 2 = .ok (.invokevirtual 30, 3) := by decide +kernel
theorem d_F_hold_5 : decode b_F_hold 5 = .ok (.ifCond .eq 13, 3) := by decide +kernel
theorem d_F_hold_8 : decode b_F_hold 8 = .ok (.aload_n 0, 1) := by decide +kernel
theorem d_F_hold_9 : decode b_F_hold 9 = .ok (.getfield 16, 3) := by decide +kernel
theorem d_F_hold_12 : decode b_F_hold 12 = .ok (.iload_n 1, 1) := by decide +kernel
theorem d_F_hold_13 : decode b_F_hold 13 = .ok (.dup2, 1) := by decide +kernel
theorem d_F_hold_14 : decode b_F_hold 14 = .ok (.iaload, 1) := by decide +kernel
theorem d_F_hold_15 : decode b_F_hold 15 = .ok (.iconst 1, 1) := by decide +kernel
theorem d_F_hold_16 : decode b_F_hold 16 = .ok (.iadd, 1) := by decide +kernel
theorem d_F_hold_17 : decode b_F_hold 17 = .ok (.iastore, 1) := by decide +kernel
theorem d_F_hold_18 : decode b_F_hold 18 = .ok (.return_, 1) := by decide +kernel
theorem d_F_release_0 : decode b_F_release 0 = .ok (.aload_n 0, 1) := by decide +kernel
theorem d_F_release_1 : decode b_F_release 1 = .ok (.iload_n 1, 1) := by decide +kernel
theorem d_F_release_2 : decode b_F_release 2 = .ok (.invokevirtual 30, 3) := by decide +kernel
theorem d_F_release_5 : decode b_F_release 5 = .ok (.ifCond .eq 41, 3) := by decide +kernel
theorem d_F_release_8 : decode b_F_release 8 = .ok (.aload_n 0, 1) := by decide +kernel
theorem d_F_release_9 : decode b_F_release 9 = .ok (.getfield 16, 3) := by decide +kernel
theorem d_F_release_12 : decode b_F_release 12 = .ok (.iload_n 1, 1) := by decide +kernel
theorem d_F_release_13 : decode b_F_release 13 = .ok (.iaload, 1) := by decide +kernel
theorem d_F_release_14 : decode b_F_release 14 = .ok (.ifCond .le 32, 3) := by decide +kernel
theorem d_F_release_17 : decode b_F_release 17 = .ok (.aload_n 0, 1) := by decide +kernel
theorem d_F_release_18 : decode b_F_release 18 = .ok (.getfield 16, 3) := by decide +kernel
theorem d_F_release_21 : decode b_F_release 21 = .ok (.iload_n 1, 1) := by decide +kernel
theorem d_F_release_22 : decode b_F_release 22 = .ok (.dup2, 1) := by decide +kernel
theorem d_F_release_23 : decode b_F_release 23 = .ok (.iaload, 1) := by decide +kernel
theorem d_F_release_24 : decode b_F_release 24 = .ok (.iconst 1, 1) := by decide +kernel
theorem d_F_release_25 : decode b_F_release 25 = .ok (.isub, 1) := by decide +kernel
theorem d_F_release_26 : decode b_F_release 26 = .ok (.iastore, 1) := by decide +kernel
theorem d_F_release_27 : decode b_F_release 27 = .ok (.aload_n 0, 1) := by decide +kernel
theorem d_F_release_28 : decode b_F_release 28 = .ok (.getfield 16, 3) := by decide +kernel
theorem d_F_release_31 : decode b_F_release 31 = .ok (.iload_n 1, 1) := by decide +kernel
theorem d_F_release_32 : decode b_F_release 32 = .ok (.iaload, 1) := by decide +kernel
theorem d_F_release_33 : decode b_F_release 33 = .ok (.ifCond .ne 13, 3) := by decide +kernel
theorem d_F_release_36 : decode b_F_release 36 = .ok (.aload_n 0, 1) := by decide +kernel
theorem d_F_release_37 : decode b_F_release 37 = .ok (.dup, 1) := by decide +kernel
theorem d_F_release_38 : decode b_F_release 38 = .ok (.getfield 20, 3) := by decide +kernel
theorem d_F_release_41 : decode b_F_release 41 = .ok (.iconst 1, 1) := by decide +kernel
theorem d_F_release_42 : decode b_F_release 42 = .ok (.iadd, 1) := by decide +kernel
theorem d_F_release_43 : decode b_F_release 43 = .ok (.putfield 20, 3) := by decide +kernel
theorem d_F_release_46 : decode b_F_release 46 = .ok (.return_, 1) := by decide +kernel
theorem d_F_holders_0 : decode b_F_holders 0 = .ok (.aload_n 0, 1) := by decide +kernel
theorem d_F_holders_1 : decode b_F_holders 1 = .ok (.iload_n 1, 1) := by decide +kernel
theorem d_F_holders_2 : decode b_F_holders 2 = .ok (.invokevirtual 30, 3) := by decide +kernel
theorem d_F_holders_5 : decode b_F_holders 5 = .ok (.ifCond .eq 12, 3) := by decide +kernel
theorem d_F_holders_8 : decode b_F_holders 8 = .ok (.aload_n 0, 1) := by decide +kernel
theorem d_F_holders_9 : decode b_F_holders 9 = .ok (.getfield 16, 3) := by decide +kernel
theorem d_F_holders_12 : decode b_F_holders 12 = .ok (.iload_n 1, 1) := by decide +kernel
theorem d_F_holders_13 : decode b_F_holders 13 = .ok (.iaload, 1) := by decide +kernel
theorem d_F_holders_14 : decode b_F_holders 14 = .ok (.goto 4, 3) := by decide +kernel
theorem d_F_holders_17 : decode b_F_holders 17 = .ok (.iconst 0, 1) := by decide +kernel
theorem d_F_holders_18 : decode b_F_holders 18 = .ok (.ireturn, 1) := by decide +kernel
theorem d_F_word_0 : decode b_F_word 0 = .ok (.iload_n 1, 1) := by decide +kernel
theorem d_F_word_1 : decode b_F_word 1 = .ok (.ifCond .lt 34, 3) := by decide +kernel
theorem d_F_word_4 : decode b_F_word 4 = .ok (.iload_n 1, 1) := by decide +kernel
theorem d_F_word_5 : decode b_F_word 5 = .ok (.aload_n 0, 1) := by decide +kernel
theorem d_F_word_6 : decode b_F_word 6 = .ok (.getfield 11, 3) := by decide +kernel
theorem d_F_word_9 : decode b_F_word 9 = .ok (.arraylength, 1) := by decide +kernel
theorem d_F_word_10 : decode b_F_word 10 = .ok (.if_icmp .ge 25, 3) := by decide +kernel
theorem d_F_word_13 : decode b_F_word 13 = .ok (.iload_n 2, 1) := by decide +kernel
theorem d_F_word_14 : decode b_F_word 14 = .ok (.ifCond .lt 21, 3) := by decide +kernel
theorem d_F_word_17 : decode b_F_word 17 = .ok (.iload_n 2, 1) := by decide +kernel
theorem d_F_word_18 : decode b_F_word 18 = .ok (.sipush 1024, 3) := by decide +kernel
theorem d_F_word_21 : decode b_F_word 21 = .ok (.if_icmp .ge 14, 3) := by decide +kernel
theorem d_F_word_24 : decode b_F_word 24 = .ok (.aload_n 0, 1) := by decide +kernel
theorem d_F_word_25 : decode b_F_word 25 = .ok (.getfield 11, 3) := by decide +kernel
theorem d_F_word_28 : decode b_F_word 28 = .ok (.iload_n 1, 1) := by decide +kernel
theorem d_F_word_29 : decode b_F_word 29 = .ok (.aaload, 1) := by decide +kernel
theorem d_F_word_30 : decode b_F_word 30 = .ok (.iload_n 2, 1) := by decide +kernel
theorem d_F_word_31 : decode b_F_word 31 = .ok (.iaload, 1) := by decide +kernel
theorem d_F_word_32 : decode b_F_word 32 = .ok (.goto 4, 3) := by decide +kernel
theorem d_F_word_35 : decode b_F_word 35 = .ok (.iconst 0, 1) := by decide +kernel
theorem d_F_word_36 : decode b_F_word 36 = .ok (.ireturn, 1) := by decide +kernel
theorem d_F_setWord_0 : decode b_F_setWord 0 = .ok (.iload_n 1, 1) := by decide +kernel
theorem d_F_setWord_1 : decode b_F_setWord 1 = .ok (.ifCond .lt 32, 3) := by decide +kernel
theorem d_F_setWord_4 : decode b_F_setWord 4 = .ok (.iload_n 1, 1) := by decide +kernel
theorem d_F_setWord_5 : decode b_F_setWord 5 = .ok (.aload_n 0, 1) := by decide +kernel
theorem d_F_setWord_6 : decode b_F_setWord 6 = .ok (.getfield 11, 3) := by decide +kernel
theorem d_F_setWord_9 : decode b_F_setWord 9 = .ok (.arraylength, 1) := by decide +kernel
theorem d_F_setWord_10 : decode b_F_setWord 10 = .ok (.if_icmp .ge 23, 3) := by decide +kernel
theorem d_F_setWord_13 : decode b_F_setWord 13 = .ok (.iload_n 2, 1) := by decide +kernel
theorem d_F_setWord_14 : decode b_F_setWord 14 = .ok (.ifCond .lt 19, 3) := by decide +kernel
theorem d_F_setWord_17 : decode b_F_setWord 17 = .ok (.iload_n 2, 1) := by decide +kernel
theorem d_F_setWord_18 : decode b_F_setWord 18 = .ok (.sipush 1024, 3) := by decide +kernel
theorem d_F_setWord_21 : decode b_F_setWord 21 = .ok (.if_icmp .ge 12, 3) := by decide +kernel
theorem d_F_setWord_24 : decode b_F_setWord 24 = .ok (.aload_n 0, 1) := by decide +kernel
theorem d_F_setWord_25 : decode b_F_setWord 25 = .ok (.getfield 11, 3) := by decide +kernel
theorem d_F_setWord_28 : decode b_F_setWord 28 = .ok (.iload_n 1, 1) := by decide +kernel
theorem d_F_setWord_29 : decode b_F_setWord 29 = .ok (.aaload, 1) := by decide +kernel
theorem d_F_setWord_30 : decode b_F_setWord 30 = .ok (.iload_n 2, 1) := by decide +kernel
theorem d_F_setWord_31 : decode b_F_setWord 31 = .ok (.iload_n 3, 1) := by decide +kernel
theorem d_F_setWord_32 : decode b_F_setWord 32 = .ok (.iastore, 1) := by decide +kernel
theorem d_F_setWord_33 : decode b_F_setWord 33 = .ok (.return_, 1) := by decide +kernel
theorem d_F_copyWords_0 : decode b_F_copyWords 0 = .ok (.aload_n 0, 1) := by decide +kernel
theorem d_F_copyWords_1 : decode b_F_copyWords 1 = .ok (.iload_n 1, 1) := by decide +kernel
theorem d_F_copyWords_2 : decode b_F_copyWords 2 = .ok (.invokevirtual 30, 3) := by decide +kernel
theorem d_F_copyWords_5 : decode b_F_copyWords 5 = .ok (.ifCond .eq 31, 3) := by decide +kernel
theorem d_F_copyWords_8 : decode b_F_copyWords 8 = .ok (.aload_n 0, 1) := by decide +kernel
theorem d_F_copyWords_9 : decode b_F_copyWords 9 = .ok (.iload_n 2, 1) := by decide +kernel
theorem d_F_copyWords_10 : decode b_F_copyWords 10 = .ok (.invokevirtual 30, 3) := by decide +kernel
theorem d_F_copyWords_13 : decode b_F_copyWords 13 = .ok (.ifCond .eq 23, 3) := by decide +kernel
theorem d_F_copyWords_16 : decode b_F_copyWords 16 = .ok (.aload_n 0, 1) := by decide +kernel
theorem d_F_copyWords_17 : decode b_F_copyWords 17 = .ok (.getfield 11, 3) := by decide +kernel
theorem d_F_copyWords_20 : decode b_F_copyWords 20 = .ok (.iload_n 1, 1) := by decide +kernel
theorem d_F_copyWords_21 : decode b_F_copyWords 21 = .ok (.aaload, 1) := by decide +kernel
theorem d_F_copyWords_22 : decode b_F_copyWords 22 = .ok (.iconst 0, 1) := by decide +kernel
theorem d_F_copyWords_23 : decode b_F_copyWords 23 = .ok (.aload_n 0, 1) := by decide +kernel
theorem d_F_copyWords_24 : decode b_F_copyWords 24 = .ok (.getfield 11, 3) := by decide +kernel
theorem d_F_copyWords_27 : decode b_F_copyWords 27 = .ok (.iload_n 2, 1) := by decide +kernel
theorem d_F_copyWords_28 : decode b_F_copyWords 28 = .ok (.aaload, 1) := by decide +kernel
theorem d_F_copyWords_29 : decode b_F_copyWords 29 = .ok (.iconst 0, 1) := by decide +kernel
theorem d_F_copyWords_30 : decode b_F_copyWords 30 = .ok (.sipush 1024, 3) := by decide +kernel
theorem d_F_copyWords_33 : decode b_F_copyWords 33 = .ok (.invokestatic 34, 3) := by decide +kernel
theorem d_F_copyWords_36 : decode b_F_copyWords 36 = .ok (.return_, 1) := by decide +kernel
theorem d_F_read_0 : decode b_F_read 0 = .ok (.aload_n 0, 1) := by decide +kernel
theorem d_F_read_1 : decode b_F_read 1 = .ok (.iload_n 1, 1) := by decide +kernel
theorem d_F_read_2 : decode b_F_read 2 = .ok (.iload_n 2, 1) := by decide +kernel
theorem d_F_read_3 : decode b_F_read 3 = .ok (.invokestatic 40, 3) := by decide +kernel
theorem d_F_read_6 : decode b_F_read 6 = .ok (.invokevirtual 44, 3) := by decide +kernel
theorem d_F_read_9 : decode b_F_read 9 = .ok (.iload_n 2, 1) := by decide +kernel
theorem d_F_read_10 : decode b_F_read 10 = .ok (.invokestatic 48, 3) := by decide +kernel
theorem d_F_read_13 : decode b_F_read 13 = .ok (.iushr, 1) := by decide +kernel
theorem d_F_read_14 : decode b_F_read 14 = .ok (.iload_n 3, 1) := by decide +kernel
theorem d_F_read_15 : decode b_F_read 15 = .ok (.invokestatic 51, 3) := by decide +kernel
theorem d_F_read_18 : decode b_F_read 18 = .ok (.iand, 1) := by decide +kernel
theorem d_F_read_19 : decode b_F_read 19 = .ok (.ireturn, 1) := by decide +kernel
theorem d_F_write_0 : decode b_F_write 0 = .ok (.aload_n 0, 1) := by decide +kernel
theorem d_F_write_1 : decode b_F_write 1 = .ok (.iload_n 1, 1) := by decide +kernel
theorem d_F_write_2 : decode b_F_write 2 = .ok (.iload_n 2, 1) := by decide +kernel
theorem d_F_write_3 : decode b_F_write 3 = .ok (.invokestatic 40, 3) := by decide +kernel
theorem d_F_write_6 : decode b_F_write 6 = .ok (.invokevirtual 44, 3) := by decide +kernel
theorem d_F_write_9 : decode b_F_write 9 = .ok (.iload_n 3, 1) := by decide +kernel
theorem d_F_write_10 : decode b_F_write 10 = .ok (.invokestatic 51, 3) := by decide +kernel
theorem d_F_write_13 : decode b_F_write 13 = .ok (.iload_n 2, 1) := by decide +kernel
theorem d_F_write_14 : decode b_F_write 14 = .ok (.invokestatic 48, 3) := by decide +kernel
theorem d_F_write_17 : decode b_F_write 17 = .ok (.ishl, 1) := by decide +kernel
theorem d_F_write_18 : decode b_F_write 18 = .ok (.iconst (-1), 1) := by decide +kernel
theorem d_F_write_19 : decode b_F_write 19 = .ok (.ixor, 1) := by decide +kernel
theorem d_F_write_20 : decode b_F_write 20 = .ok (.iand, 1) := by decide +kernel
theorem d_F_write_21 : decode b_F_write 21 = .ok (.istore 5, 2) := by decide +kernel
theorem d_F_write_23 : decode b_F_write 23 = .ok (.aload_n 0, 1) := by decide +kernel
theorem d_F_write_24 : decode b_F_write 24 = .ok (.iload_n 1, 1) := by decide +kernel
theorem d_F_write_25 : decode b_F_write 25 = .ok (.iload_n 2, 1) := by decide +kernel
theorem d_F_write_26 : decode b_F_write 26 = .ok (.invokestatic 40, 3) := by decide +kernel
theorem d_F_write_29 : decode b_F_write 29 = .ok (.iload 5, 2) := by decide +kernel
theorem d_F_write_31 : decode b_F_write 31 = .ok (.iload 4, 2) := by decide +kernel
theorem d_F_write_33 : decode b_F_write 33 = .ok (.iload_n 3, 1) := by decide +kernel
theorem d_F_write_34 : decode b_F_write 34 = .ok (.invokestatic 51, 3) := by decide +kernel
theorem d_F_write_37 : decode b_F_write 37 = .ok (.iand, 1) := by decide +kernel
theorem d_F_write_38 : decode b_F_write 38 = .ok (.iload_n 2, 1) := by decide +kernel
theorem d_F_write_39 : decode b_F_write 39 = .ok (.invokestatic 48, 3) := by decide +kernel
theorem d_F_write_42 : decode b_F_write 42 = .ok (.ishl, 1) := by decide +kernel
theorem d_F_write_43 : decode b_F_write 43 = .ok (.ior, 1) := by decide +kernel
theorem d_F_write_44 : decode b_F_write 44 = .ok (.invokevirtual 54, 3) := by decide +kernel
theorem d_F_write_47 : decode b_F_write 47 = .ok (.return_, 1) := by decide +kernel
theorem d_F_isFrame_0 : decode b_F_isFrame 0 = .ok (.iload_n 1, 1) := by decide +kernel
theorem d_F_isFrame_1 : decode b_F_isFrame 1 = .ok (.ifCond .lt 16, 3) := by decide +kernel
theorem d_F_isFrame_4 : decode b_F_isFrame 4 = .ok (.iload_n 1, 1) := by decide +kernel
theorem d_F_isFrame_5 : decode b_F_isFrame 5 = .ok (.aload_n 0, 1) := by decide +kernel
theorem d_F_isFrame_6 : decode b_F_isFrame 6 = .ok (.getfield 16, 3) := by decide +kernel
theorem d_F_isFrame_9 : decode b_F_isFrame 9 = .ok (.arraylength, 1) := by decide +kernel
theorem d_F_isFrame_10 : decode b_F_isFrame 10 = .ok (.if_icmp .ge 7, 3) := by decide +kernel
theorem d_F_isFrame_13 : decode b_F_isFrame 13 = .ok (.iconst 1, 1) := by decide +kernel
theorem d_F_isFrame_14 : decode b_F_isFrame 14 = .ok (.goto 4, 3) := by decide +kernel
theorem d_F_isFrame_17 : decode b_F_isFrame 17 = .ok (.iconst 0, 1) := by decide +kernel
theorem d_F_isFrame_18 : decode b_F_isFrame 18 = .ok (.ireturn, 1) := by decide +kernel
theorem d_F_wordOf_0 : decode b_F_wordOf 0 = .ok (.iload_n 0, 1) := by decide +kernel
theorem d_F_wordOf_1 : decode b_F_wordOf 1 = .ok (.sipush 4095, 3) := by decide +kernel
theorem d_F_wordOf_4 : decode b_F_wordOf 4 = .ok (.iand, 1) := by decide +kernel
theorem d_F_wordOf_5 : decode b_F_wordOf 5 = .ok (.iconst 2, 1) := by decide +kernel
theorem d_F_wordOf_6 : decode b_F_wordOf 6 = .ok (.iushr, 1) := by decide +kernel
theorem d_F_wordOf_7 : decode b_F_wordOf 7 = .ok (.ireturn, 1) := by decide +kernel
theorem d_F_bitOf_0 : decode b_F_bitOf 0 = .ok (.iload_n 0, 1) := by decide +kernel
theorem d_F_bitOf_1 : decode b_F_bitOf 1 = .ok (.iconst 3, 1) := by decide +kernel
theorem d_F_bitOf_2 : decode b_F_bitOf 2 = .ok (.iand, 1) := by decide +kernel
theorem d_F_bitOf_3 : decode b_F_bitOf 3 = .ok (.bipush 8, 2) := by decide +kernel
theorem d_F_bitOf_5 : decode b_F_bitOf 5 = .ok (.imul, 1) := by decide +kernel
theorem d_F_bitOf_6 : decode b_F_bitOf 6 = .ok (.ireturn, 1) := by decide +kernel
theorem d_F_mask_0 : decode b_F_mask 0 = .ok (.iconst (-1), 1) := by decide +kernel
theorem d_F_mask_1 : decode b_F_mask 1 = .ok (.bipush 32, 2) := by decide +kernel
theorem d_F_mask_3 : decode b_F_mask 3 = .ok (.bipush 8, 2) := by decide +kernel
theorem d_F_mask_5 : decode b_F_mask 5 = .ok (.iload_n 0, 1) := by decide +kernel
end
section
theorem d_F_mask_6 : decode b_F_mask 6 = .ok (.imul, 1) := by decide +kernel
theorem d_F_mask_7 : decode b_F_mask 7 = .ok (.isub, 1) := by decide +kernel
theorem d_F_mask_8 : decode b_F_mask 8 = .ok (.iushr, 1) := by decide +kernel
theorem d_F_mask_9 : decode b_F_mask 9 = .ok (.ireturn, 1) := by decide +kernel
theorem d_S_init_0 : decode b_S_init 0 = .ok (.aload_n 0, 1) := by decide +kernel
theorem d_S_init_1 : decode b_S_init 1 = .ok (.invokespecial 3, 3) := by decide +kernel
theorem d_S_init_4 : decode b_S_init 4 = .ok (.aload_n 0, 1) := by decide +kernel
theorem d_S_init_5 : decode b_S_init 5 = .ok (.aload_n 1, 1) := by decide +kernel
theorem d_S_init_6 : decode b_S_init 6 = .ok (.putfield 9, 3) := by decide +kernel
theorem d_S_init_9 : decode b_S_init 9 = .ok (.aload_n 0, 1) := by decide +kernel
theorem d_S_init_10 : decode b_S_init 10 = .ok (.iconst (-1), 1) := by decide +kernel
theorem d_S_init_11 : decode b_S_init 11 = .ok (.putfield 15, 3) := by decide +kernel
theorem d_S_init_14 : decode b_S_init 14 = .ok (.return_, 1) := by decide +kernel
theorem d_S_isOpen_0 : decode b_S_isOpen 0 = .ok (.aload_n 0, 1) := by decide +kernel
theorem d_S_isOpen_1 : decode b_S_isOpen 1 = .ok (.getfield 15, 3) := by decide +kernel
theorem d_S_isOpen_4 : decode b_S_isOpen 4 = .ok (.iconst (-1), 1) := by decide +kernel
theorem d_S_isOpen_5 : decode b_S_isOpen 5 = .ok (.if_icmp .eq 7, 3) := by decide +kernel
theorem d_S_isOpen_8 : decode b_S_isOpen 8 = .ok (.iconst 1, 1) := by decide +kernel
theorem d_S_isOpen_9 : decode b_S_isOpen 9 = .ok (.goto 4, 3) := by decide +kernel
theorem d_S_isOpen_12 : decode b_S_isOpen 12 = .ok (.iconst 0, 1) := by decide +kernel
theorem d_S_isOpen_13 : decode b_S_isOpen 13 = .ok (.ireturn, 1) := by decide +kernel
theorem d_S_length_0 : decode b_S_length 0 = .ok (.aload_n 0, 1) := by decide +kernel
theorem d_S_length_1 : decode b_S_length 1 = .ok (.getfield 19, 3) := by decide +kernel
theorem d_S_length_4 : decode b_S_length 4 = .ok (.ireturn, 1) := by decide +kernel
theorem d_S_open_0 : decode b_S_open 0 = .ok (.aload_n 0, 1) := by decide +kernel
theorem d_S_open_1 : decode b_S_open 1 = .ok (.aload_n 0, 1) := by decide +kernel
theorem d_S_open_2 : decode b_S_open 2 = .ok (.getfield 9, 3) := by decide +kernel
theorem d_S_open_5 : decode b_S_open 5 = .ok (.invokevirtual 22, 3) := by decide +kernel
theorem d_S_open_8 : decode b_S_open 8 = .ok (.putfield 15, 3) := by decide +kernel
theorem d_S_open_11 : decode b_S_open 11 = .ok (.aload_n 0, 1) := by decide +kernel
theorem d_S_open_12 : decode b_S_open 12 = .ok (.iload_n 1, 1) := by decide +kernel
theorem d_S_open_13 : decode b_S_open 13 = .ok (.putfield 19, 3) := by decide +kernel
theorem d_S_open_16 : decode b_S_open 16 = .ok (.return_, 1) := by decide +kernel
theorem d_S_close_0 : decode b_S_close 0 = .ok (.aload_n 0, 1) := by decide +kernel
theorem d_S_close_1 : decode b_S_close 1 = .ok (.iconst 0, 1) := by decide +kernel
theorem d_S_close_2 : decode b_S_close 2 = .ok (.invokevirtual 28, 3) := by decide +kernel
theorem d_S_close_5 : decode b_S_close 5 = .ok (.iconst 0, 1) := by decide +kernel
theorem d_S_close_6 : decode b_S_close 6 = .ok (.istore_n 1, 1) := by decide +kernel
theorem d_S_close_7 : decode b_S_close 7 = .ok (.iload_n 1, 1) := by decide +kernel
theorem d_S_close_8 : decode b_S_close 8 = .ok (.sipush 256, 3) := by decide +kernel
theorem d_S_close_11 : decode b_S_close 11 = .ok (.if_icmp .ge 21, 3) := by decide +kernel
theorem d_S_close_14 : decode b_S_close 14 = .ok (.aload_n 0, 1) := by decide +kernel
theorem d_S_close_15 : decode b_S_close 15 = .ok (.getfield 9, 3) := by decide +kernel
theorem d_S_close_18 : decode b_S_close 18 = .ok (.aload_n 0, 1) := by decide +kernel
theorem d_S_close_19 : decode b_S_close 19 = .ok (.iload_n 1, 1) := by decide +kernel
theorem d_S_close_20 : decode b_S_close 20 = .ok (.invokevirtual 32, 3) := by decide +kernel
theorem d_S_close_23 : decode b_S_close 23 = .ok (.invokevirtual 36, 3) := by decide +kernel
theorem d_S_close_26 : decode b_S_close 26 = .ok (.iinc 1 1, 3) := by decide +kernel
theorem d_S_close_29 : decode b_S_close 29 = .ok (.goto (-22), 3) := by decide +kernel
theorem d_S_close_32 : decode b_S_close 32 = .ok (.aload_n 0, 1) := by decide +kernel
theorem d_S_close_33 : decode b_S_close 33 = .ok (.getfield 9, 3) := by decide +kernel
theorem d_S_close_36 : decode b_S_close 36 = .ok (.aload_n 0, 1) := by decide +kernel
theorem d_S_close_37 : decode b_S_close 37 = .ok (.getfield 15, 3) := by decide +kernel
theorem d_S_close_40 : decode b_S_close 40 = .ok (.invokevirtual 36, 3) := by decide +kernel
theorem d_S_close_43 : decode b_S_close 43 = .ok (.aload_n 0, 1) := by decide +kernel
theorem d_S_close_44 : decode b_S_close 44 = .ok (.iconst (-1), 1) := by decide +kernel
theorem d_S_close_45 : decode b_S_close 45 = .ok (.putfield 15, 3) := by decide +kernel
theorem d_S_close_48 : decode b_S_close 48 = .ok (.return_, 1) := by decide +kernel
theorem d_S_openAsCopy_0 : decode b_S_openAsCopy 0 = .ok (.aload_n 0, 1) := by decide +kernel
theorem d_S_openAsCopy_1 : decode b_S_openAsCopy 1 = .ok (.aload_n 1, 1) := by decide +kernel
theorem d_S_openAsCopy_2 : decode b_S_openAsCopy 2 = .ok (.getfield 19, 3) := by decide +kernel
theorem d_S_openAsCopy_5 : decode b_S_openAsCopy 5 = .ok (.invokevirtual 39, 3) := by decide +kernel
theorem d_S_openAsCopy_8 : decode b_S_openAsCopy 8 = .ok (.iconst 0, 1) := by decide +kernel
theorem d_S_openAsCopy_9 : decode b_S_openAsCopy 9 = .ok (.istore_n 2, 1) := by decide +kernel
theorem d_S_openAsCopy_10 : decode b_S_openAsCopy 10 = .ok (.iload_n 2, 1) := by decide +kernel
theorem d_S_openAsCopy_11 : decode b_S_openAsCopy 11 = .ok (.sipush 256, 3) := by decide +kernel
theorem d_S_openAsCopy_14 : decode b_S_openAsCopy 14 = .ok (.if_icmp .ge 23, 3) := by decide +kernel
theorem d_S_openAsCopy_17 : decode b_S_openAsCopy 17 = .ok (.aload_n 1, 1) := by decide +kernel
theorem d_S_openAsCopy_18 : decode b_S_openAsCopy 18 = .ok (.iload_n 2, 1) := by decide +kernel
theorem d_S_openAsCopy_19 : decode b_S_openAsCopy 19 = .ok (.invokevirtual 42, 3) := by decide +kernel
theorem d_S_openAsCopy_22 : decode b_S_openAsCopy 22 = .ok (.ifCond .eq 9, 3) := by decide +kernel
theorem d_S_openAsCopy_25 : decode b_S_openAsCopy 25 = .ok (.aload_n 0, 1) := by decide +kernel
theorem d_S_openAsCopy_26 : decode b_S_openAsCopy 26 = .ok (.aload_n 1, 1) := by decide +kernel
theorem d_S_openAsCopy_27 : decode b_S_openAsCopy 27 = .ok (.iload_n 2, 1) := by decide +kernel
theorem d_S_openAsCopy_28 : decode b_S_openAsCopy 28 = .ok (.invokevirtual 46, 3) := by decide +kernel
theorem d_S_openAsCopy_31 : decode b_S_openAsCopy 31 = .ok (.iinc 2 1, 3) := by decide +kernel
theorem d_S_openAsCopy_34 : decode b_S_openAsCopy 34 = .ok (.goto (-24), 3) := by decide +kernel
theorem d_S_openAsCopy_37 : decode b_S_openAsCopy 37 = .ok (.return_, 1) := by decide +kernel
theorem d_S_framesOfCopy_0 : decode b_S_framesOfCopy 0 = .ok (.iconst 1, 1) := by decide +kernel
theorem d_S_framesOfCopy_1 : decode b_S_framesOfCopy 1 = .ok (.istore_n 1, 1) := by decide +kernel
theorem d_S_framesOfCopy_2 : decode b_S_framesOfCopy 2 = .ok (.iconst 0, 1) := by decide +kernel
theorem d_S_framesOfCopy_3 : decode b_S_framesOfCopy 3 = .ok (.istore_n 2, 1) := by decide +kernel
theorem d_S_framesOfCopy_4 : decode b_S_framesOfCopy 4 = .ok (.iload_n 2, 1) := by decide +kernel
theorem d_S_framesOfCopy_5 : decode b_S_framesOfCopy 5 = .ok (.sipush 256, 3) := by decide +kernel
theorem d_S_framesOfCopy_8 : decode b_S_framesOfCopy 8 = .ok (.if_icmp .ge 20, 3) := by decide +kernel
theorem d_S_framesOfCopy_11 : decode b_S_framesOfCopy 11 = .ok (.aload_n 0, 1) := by decide +kernel
theorem d_S_framesOfCopy_12 : decode b_S_framesOfCopy 12 = .ok (.iload_n 2, 1) := by decide +kernel
theorem d_S_framesOfCopy_13 : decode b_S_framesOfCopy 13 = .ok (.invokevirtual 42, 3) := by decide +kernel
theorem d_S_framesOfCopy_16 : decode b_S_framesOfCopy 16 = .ok (.ifCond .eq 6, 3) := by decide +kernel
theorem d_S_framesOfCopy_19 : decode b_S_framesOfCopy 19 = .ok (.iinc 1 1, 3) := by decide +kernel
theorem d_S_framesOfCopy_22 : decode b_S_framesOfCopy 22 = .ok (.iinc 2 1, 3) := by decide +kernel
theorem d_S_framesOfCopy_25 : decode b_S_framesOfCopy 25 = .ok (.goto (-21), 3) := by decide +kernel
theorem d_S_framesOfCopy_28 : decode b_S_framesOfCopy 28 = .ok (.iload_n 1, 1) := by decide +kernel
theorem d_S_framesOfCopy_29 : decode b_S_framesOfCopy 29 = .ok (.ireturn, 1) := by decide +kernel
theorem d_S_reach_0 : decode b_S_reach 0 = .ok (.aload_n 0, 1) := by decide +kernel
theorem d_S_reach_1 : decode b_S_reach 1 = .ok (.aload_n 0, 1) := by decide +kernel
theorem d_S_reach_2 : decode b_S_reach 2 = .ok (.getfield 19, 3) := by decide +kernel
theorem d_S_reach_5 : decode b_S_reach 5 = .ok (.iload_n 1, 1) := by decide +kernel
theorem d_S_reach_6 : decode b_S_reach 6 = .ok (.invokestatic 50, 3) := by decide +kernel
theorem d_S_reach_9 : decode b_S_reach 9 = .ok (.putfield 19, 3) := by decide +kernel
theorem d_S_reach_12 : decode b_S_reach 12 = .ok (.return_, 1) := by decide +kernel
theorem d_S_resize_0 : decode b_S_resize 0 = .ok (.iload_n 1, 1) := by decide +kernel
theorem d_S_resize_1 : decode b_S_resize 1 = .ok (.aload_n 0, 1) := by decide +kernel
theorem d_S_resize_2 : decode b_S_resize 2 = .ok (.getfield 19, 3) := by decide +kernel
theorem d_S_resize_5 : decode b_S_resize 5 = .ok (.if_icmp .ge 17, 3) := by decide +kernel
theorem d_S_resize_8 : decode b_S_resize 8 = .ok (.aload_n 0, 1) := by decide +kernel
theorem d_S_resize_9 : decode b_S_resize 9 = .ok (.iload_n 1, 1) := by decide +kernel
theorem d_S_resize_10 : decode b_S_resize 10 = .ok (.sipush 4096, 3) := by decide +kernel
theorem d_S_resize_13 : decode b_S_resize 13 = .ok (.iadd, 1) := by decide +kernel
theorem d_S_resize_14 : decode b_S_resize 14 = .ok (.iconst 1, 1) := by decide +kernel
theorem d_S_resize_15 : decode b_S_resize 15 = .ok (.isub, 1) := by decide +kernel
theorem d_S_resize_16 : decode b_S_resize 16 = .ok (.bipush 12, 2) := by decide +kernel
theorem d_S_resize_18 : decode b_S_resize 18 = .ok (.iushr, 1) := by decide +kernel
theorem d_S_resize_19 : decode b_S_resize 19 = .ok (.invokevirtual 28, 3) := by decide +kernel
theorem d_S_resize_22 : decode b_S_resize 22 = .ok (.aload_n 0, 1) := by decide +kernel
theorem d_S_resize_23 : decode b_S_resize 23 = .ok (.iload_n 1, 1) := by decide +kernel
theorem d_S_resize_24 : decode b_S_resize 24 = .ok (.putfield 19, 3) := by decide +kernel
theorem d_S_resize_27 : decode b_S_resize 27 = .ok (.return_, 1) := by decide +kernel
theorem d_S_entryAt_0 : decode b_S_entryAt 0 = .ok (.aload_n 0, 1) := by decide +kernel
theorem d_S_entryAt_1 : decode b_S_entryAt 1 = .ok (.getfield 9, 3) := by decide +kernel
theorem d_S_entryAt_4 : decode b_S_entryAt 4 = .ok (.aload_n 0, 1) := by decide +kernel
theorem d_S_entryAt_5 : decode b_S_entryAt 5 = .ok (.iload_n 1, 1) := by decide +kernel
theorem d_S_entryAt_6 : decode b_S_entryAt 6 = .ok (.bipush 22, 2) := by decide +kernel
theorem d_S_entryAt_8 : decode b_S_entryAt 8 = .ok (.iushr, 1) := by decide +kernel
theorem d_S_entryAt_9 : decode b_S_entryAt 9 = .ok (.invokevirtual 32, 3) := by decide +kernel
theorem d_S_entryAt_12 : decode b_S_entryAt 12 = .ok (.iload_n 1, 1) := by decide +kernel
theorem d_S_entryAt_13 : decode b_S_entryAt 13 = .ok (.invokestatic 56, 3) := by decide +kernel
theorem d_S_entryAt_16 : decode b_S_entryAt 16 = .ok (.invokevirtual 59, 3) := by decide +kernel
theorem d_S_entryAt_19 : decode b_S_entryAt 19 = .ok (.ireturn, 1) := by decide +kernel
theorem d_S_setEntry_0 : decode b_S_setEntry 0 = .ok (.aload_n 0, 1) := by decide +kernel
theorem d_S_setEntry_1 : decode b_S_setEntry 1 = .ok (.getfield 9, 3) := by decide +kernel
theorem d_S_setEntry_4 : decode b_S_setEntry 4 = .ok (.aload_n 0, 1) := by decide +kernel
theorem d_S_setEntry_5 : decode b_S_setEntry 5 = .ok (.iload_n 1, 1) := by decide +kernel
theorem d_S_setEntry_6 : decode b_S_setEntry 6 = .ok (.bipush 22, 2) := by decide +kernel
theorem d_S_setEntry_8 : decode b_S_setEntry 8 = .ok (.iushr, 1) := by decide +kernel
theorem d_S_setEntry_9 : decode b_S_setEntry 9 = .ok (.invokevirtual 32, 3) := by decide +kernel
theorem d_S_setEntry_12 : decode b_S_setEntry 12 = .ok (.iload_n 1, 1) := by decide +kernel
theorem d_S_setEntry_13 : decode b_S_setEntry 13 = .ok (.invokestatic 56, 3) := by decide +kernel
theorem d_S_setEntry_16 : decode b_S_setEntry 16 = .ok (.iload_n 2, 1) := by decide +kernel
theorem d_S_setEntry_17 : decode b_S_setEntry 17 = .ok (.invokevirtual 62, 3) := by decide +kernel
theorem d_S_setEntry_20 : decode b_S_setEntry 20 = .ok (.return_, 1) := by decide +kernel
theorem d_S_addPage_0 : decode b_S_addPage 0 = .ok (.iload_n 1, 1) := by decide +kernel
theorem d_S_addPage_1 : decode b_S_addPage 1 = .ok (.bipush 22, 2) := by decide +kernel
theorem d_S_addPage_3 : decode b_S_addPage 3 = .ok (.iushr, 1) := by decide +kernel
theorem d_S_addPage_4 : decode b_S_addPage 4 = .ok (.istore_n 3, 1) := by decide +kernel
theorem d_S_addPage_5 : decode b_S_addPage 5 = .ok (.aload_n 0, 1) := by decide +kernel
theorem d_S_addPage_6 : decode b_S_addPage 6 = .ok (.iload_n 3, 1) := by decide +kernel
theorem d_S_addPage_7 : decode b_S_addPage 7 = .ok (.invokevirtual 32, 3) := by decide +kernel
theorem d_S_addPage_10 : decode b_S_addPage 10 = .ok (.istore 4, 2) := by decide +kernel
theorem d_S_addPage_12 : decode b_S_addPage 12 = .ok (.aload_n 0, 1) := by decide +kernel
theorem d_S_addPage_13 : decode b_S_addPage 13 = .ok (.getfield 9, 3) := by decide +kernel
theorem d_S_addPage_16 : decode b_S_addPage 16 = .ok (.invokevirtual 66, 3) := by decide +kernel
theorem d_S_addPage_19 : decode b_S_addPage 19 = .ok (.iload 4, 2) := by decide +kernel
theorem d_S_addPage_21 : decode b_S_addPage 21 = .ok (.iconst (-1), 1) := by decide +kernel
theorem d_S_addPage_22 : decode b_S_addPage 22 = .ok (.if_icmp .ne 7, 3) := by decide +kernel
theorem d_S_addPage_25 : decode b_S_addPage 25 = .ok (.iconst 2, 1) := by decide +kernel
theorem d_S_addPage_26 : decode b_S_addPage 26 = .ok (.goto 4, 3) := by decide +kernel
theorem d_S_addPage_29 : decode b_S_addPage 29 = .ok (.iconst 1, 1) := by decide +kernel
theorem d_S_addPage_30 : decode b_S_addPage 30 = .ok (.if_icmp .ge 5, 3) := by decide +kernel
theorem d_S_addPage_33 : decode b_S_addPage 33 = .ok (.iconst (-1), 1) := by decide +kernel
theorem d_S_addPage_34 : decode b_S_addPage 34 = .ok (.ireturn, 1) := by decide +kernel
theorem d_S_addPage_35 : decode b_S_addPage 35 = .ok (.iload 4, 2) := by decide +kernel
theorem d_S_addPage_37 : decode b_S_addPage 37 = .ok (.iconst (-1), 1) := by decide +kernel
theorem d_S_addPage_38 : decode b_S_addPage 38 = .ok (.if_icmp .ne 10, 3) := by decide +kernel
theorem d_S_addPage_41 : decode b_S_addPage 41 = .ok (.aload_n 0, 1) := by decide +kernel
theorem d_S_addPage_42 : decode b_S_addPage 42 = .ok (.iload_n 3, 1) := by decide +kernel
theorem d_S_addPage_43 : decode b_S_addPage 43 = .ok (.invokevirtual 69, 3) := by decide +kernel
theorem d_S_addPage_46 : decode b_S_addPage 46 = .ok (.istore 4, 2) := by decide +kernel
theorem d_S_addPage_48 : decode b_S_addPage 48 = .ok (.aload_n 0, 1) := by decide +kernel
theorem d_S_addPage_49 : decode b_S_addPage 49 = .ok (.getfield 9, 3) := by decide +kernel
theorem d_S_addPage_52 : decode b_S_addPage 52 = .ok (.invokevirtual 22, 3) := by decide +kernel
theorem d_S_addPage_55 : decode b_S_addPage 55 = .ok (.istore 5, 2) := by decide +kernel
theorem d_S_addPage_57 : decode b_S_addPage 57 = .ok (.aload_n 0, 1) := by decide +kernel
theorem d_S_addPage_58 : decode b_S_addPage 58 = .ok (.getfield 9, 3) := by decide +kernel
theorem d_S_addPage_61 : decode b_S_addPage 61 = .ok (.iload 4, 2) := by decide +kernel
theorem d_S_addPage_63 : decode b_S_addPage 63 = .ok (.iload_n 1, 1) := by decide +kernel
theorem d_S_addPage_64 : decode b_S_addPage 64 = .ok (.invokestatic 56, 3) := by decide +kernel
theorem d_S_addPage_67 : decode b_S_addPage 67 = .ok (.iload 5, 2) := by decide +kernel
theorem d_S_addPage_69 : decode b_S_addPage 69 = .ok (.iload_n 2, 1) := by decide +kernel
theorem d_S_addPage_70 : decode b_S_addPage 70 = .ok (.invokestatic 72, 3) := by decide +kernel
theorem d_S_addPage_73 : decode b_S_addPage 73 = .ok (.invokevirtual 62, 3) := by decide +kernel
theorem d_S_addPage_76 : decode b_S_addPage 76 = .ok (.iload 5, 2) := by decide +kernel
theorem d_S_addPage_78 : decode b_S_addPage 78 = .ok (.ireturn, 1) := by decide +kernel
theorem d_S_partPage_0 : decode b_S_partPage 0 = .ok (.aload_n 0, 1) := by decide +kernel
theorem d_S_partPage_1 : decode b_S_partPage 1 = .ok (.getfield 9, 3) := by decide +kernel
theorem d_S_partPage_4 : decode b_S_partPage 4 = .ok (.invokevirtual 22, 3) := by decide +kernel
theorem d_S_partPage_7 : decode b_S_partPage 7 = .ok (.istore_n 2, 1) := by decide +kernel
theorem d_S_partPage_8 : decode b_S_partPage 8 = .ok (.iload_n 2, 1) := by decide +kernel
theorem d_S_partPage_9 : decode b_S_partPage 9 = .ok (.iconst (-1), 1) := by decide +kernel
theorem d_S_partPage_10 : decode b_S_partPage 10 = .ok (.if_icmp .ne 5, 3) := by decide +kernel
theorem d_S_partPage_13 : decode b_S_partPage 13 = .ok (.iconst (-1), 1) := by decide +kernel
theorem d_S_partPage_14 : decode b_S_partPage 14 = .ok (.ireturn, 1) := by decide +kernel
theorem d_S_partPage_15 : decode b_S_partPage 15 = .ok (.aload_n 0, 1) := by decide +kernel
theorem d_S_partPage_16 : decode b_S_partPage 16 = .ok (.iload_n 1, 1) := by decide +kernel
theorem d_S_partPage_17 : decode b_S_partPage 17 = .ok (.invokevirtual 75, 3) := by decide +kernel
theorem d_S_partPage_20 : decode b_S_partPage 20 = .ok (.istore_n 3, 1) := by decide +kernel
theorem d_S_partPage_21 : decode b_S_partPage 21 = .ok (.aload_n 0, 1) := by decide +kernel
theorem d_S_partPage_22 : decode b_S_partPage 22 = .ok (.getfield 9, 3) := by decide +kernel
theorem d_S_partPage_25 : decode b_S_partPage 25 = .ok (.iload_n 3, 1) := by decide +kernel
theorem d_S_partPage_26 : decode b_S_partPage 26 = .ok (.invokestatic 78, 3) := by decide +kernel
theorem d_S_partPage_29 : decode b_S_partPage 29 = .ok (.iload_n 2, 1) := by decide +kernel
theorem d_S_partPage_30 : decode b_S_partPage 30 = .ok (.invokevirtual 81, 3) := by decide +kernel
theorem d_S_partPage_33 : decode b_S_partPage 33 = .ok (.aload_n 0, 1) := by decide +kernel
theorem d_S_partPage_34 : decode b_S_partPage 34 = .ok (.getfield 9, 3) := by decide +kernel
theorem d_S_partPage_37 : decode b_S_partPage 37 = .ok (.iload_n 3, 1) := by decide +kernel
theorem d_S_partPage_38 : decode b_S_partPage 38 = .ok (.invokestatic 78, 3) := by decide +kernel
theorem d_S_partPage_41 : decode b_S_partPage 41 = .ok (.invokevirtual 36, 3) := by decide +kernel
theorem d_S_partPage_44 : decode b_S_partPage 44 = .ok (.aload_n 0, 1) := by decide +kernel
theorem d_S_partPage_45 : decode b_S_partPage 45 = .ok (.iload_n 1, 1) := by decide +kernel
theorem d_S_partPage_46 : decode b_S_partPage 46 = .ok (.iload_n 2, 1) := by decide +kernel
theorem d_S_partPage_47 : decode b_S_partPage 47 = .ok (.iload_n 3, 1) := by decide +kernel
theorem d_S_partPage_48 : decode b_S_partPage 48 = .ok (.invokestatic 85, 3) := by decide +kernel
theorem d_S_partPage_51 : decode b_S_partPage 51 = .ok (.invokestatic 72, 3) := by decide +kernel
theorem d_S_partPage_54 : decode b_S_partPage 54 = .ok (.invokevirtual 88, 3) := by decide +kernel
theorem d_S_partPage_57 : decode b_S_partPage 57 = .ok (.iload_n 2, 1) := by decide +kernel
theorem d_S_partPage_58 : decode b_S_partPage 58 = .ok (.ireturn, 1) := by decide +kernel
theorem d_S_removePagesFrom_0 : decode b_S_removePagesFrom 0 = .ok (.iload_n 1, 1) := by decide +kernel
theorem d_S_removePagesFrom_1 : decode b_S_removePagesFrom 1 = .ok (.sipush 1024, 3) := by decide +kernel
theorem d_S_removePagesFrom_4 : decode b_S_removePagesFrom 4 = .ok (.idiv, 1) := by decide +kernel
theorem d_S_removePagesFrom_5 : decode b_S_removePagesFrom 5 = .ok (.istore_n 2, 1) := by decide +kernel
theorem d_S_removePagesFrom_6 : decode b_S_removePagesFrom 6 = .ok (.iload_n 2, 1) := by decide +kernel
theorem d_S_removePagesFrom_7 : decode b_S_removePagesFrom 7 = .ok (.istore_n 3, 1) := by decide +kernel
theorem d_S_removePagesFrom_8 : decode b_S_removePagesFrom 8 = .ok (.iload_n 3, 1) := by decide +kernel
theorem d_S_removePagesFrom_9 : decode b_S_removePagesFrom 9 = .ok (.sipush 256, 3) := by decide +kernel
theorem d_S_removePagesFrom_12 : decode b_S_removePagesFrom 12 = .ok (.if_icmp .ge 89, 3) := by decide +kernel
theorem d_S_removePagesFrom_15 : decode b_S_removePagesFrom 15 = .ok (.aload_n 0, 1) := by decide +kernel
theorem d_S_removePagesFrom_16 : decode b_S_removePagesFrom 16 = .ok (.iload_n 3, 1) := by decide +kernel
theorem d_S_removePagesFrom_17 : decode b_S_removePagesFrom 17 = .ok (.invokevirtual 32, 3) := by decide +kernel
theorem d_S_removePagesFrom_20 : decode b_S_removePagesFrom 20 = .ok (.istore 4, 2) := by decide +kernel
theorem d_S_removePagesFrom_22 : decode b_S_removePagesFrom 22 = .ok (.iload_n 3, 1) := by decide +kernel
theorem d_S_removePagesFrom_23 : decode b_S_removePagesFrom 23 = .ok (.iload_n 2, 1) := by decide +kernel
theorem d_S_removePagesFrom_24 : decode b_S_removePagesFrom 24 = .ok (.if_icmp .ne 11, 3) := by decide +kernel
theorem d_S_removePagesFrom_27 : decode b_S_removePagesFrom 27 = .ok (.iload_n 1, 1) := by decide +kernel
theorem d_S_removePagesFrom_28 : decode b_S_removePagesFrom 28 = .ok (.sipush 1024, 3) := by decide +kernel
theorem d_S_removePagesFrom_31 : decode b_S_removePagesFrom 31 = .ok (.irem, 1) := by decide +kernel
theorem d_S_removePagesFrom_32 : decode b_S_removePagesFrom 32 = .ok (.goto 4, 3) := by decide +kernel
theorem d_S_removePagesFrom_35 : decode b_S_removePagesFrom 35 = .ok (.iconst 0, 1) := by decide +kernel
theorem d_S_removePagesFrom_36 : decode b_S_removePagesFrom 36 = .ok (.istore 5, 2) := by decide +kernel
theorem d_S_removePagesFrom_38 : decode b_S_removePagesFrom 38 = .ok (.iload 5, 2) := by decide +kernel
theorem d_S_removePagesFrom_40 : decode b_S_removePagesFrom 40 = .ok (.istore 6, 2) := by decide +kernel
theorem d_S_removePagesFrom_42 : decode b_S_removePagesFrom 42 = .ok (.iload 4, 2) := by decide +kernel
theorem d_S_removePagesFrom_44 : decode b_S_removePagesFrom 44 = .ok (.iconst (-1), 1) := by decide +kernel
theorem d_S_removePagesFrom_45 : decode b_S_removePagesFrom 45 = .ok (.if_icmp .eq 50, 3) := by decide +kernel
theorem d_S_removePagesFrom_48 : decode b_S_removePagesFrom 48 = .ok (.iload 6, 2) := by decide +kernel
theorem d_S_removePagesFrom_50 : decode b_S_removePagesFrom 50 = .ok (.sipush 1024, 3) := by decide +kernel
theorem d_S_removePagesFrom_53 : decode b_S_removePagesFrom 53 = .ok (.if_icmp .ge 42, 3) := by decide +kernel
theorem d_S_removePagesFrom_56 : decode b_S_removePagesFrom 56 = .ok (.aload_n 0, 1) := by decide +kernel
theorem d_S_removePagesFrom_57 : decode b_S_removePagesFrom 57 = .ok (.getfield 9, 3) := by decide +kernel
theorem d_S_removePagesFrom_60 : decode b_S_removePagesFrom 60 = .ok (.aload_n 0, 1) := by decide +kernel
theorem d_S_removePagesFrom_61 : decode b_S_removePagesFrom 61 = .ok (.getfield 9, 3) := by decide +kernel
theorem d_S_removePagesFrom_64 : decode b_S_removePagesFrom 64 = .ok (.iload 4, 2) := by decide +kernel
theorem d_S_removePagesFrom_66 : decode b_S_removePagesFrom 66 = .ok (.iload 6, 2) := by decide +kernel
theorem d_S_removePagesFrom_68 : decode b_S_removePagesFrom 68 = .ok (.invokevirtual 59, 3) := by decide +kernel
theorem d_S_removePagesFrom_71 : decode b_S_removePagesFrom 71 = .ok (.invokestatic 78, 3) := by decide +kernel
theorem d_S_removePagesFrom_74 : decode b_S_removePagesFrom 74 = .ok (.invokevirtual 36, 3) := by decide +kernel
theorem d_S_removePagesFrom_77 : decode b_S_removePagesFrom 77 = .ok (.aload_n 0, 1) := by decide +kernel
theorem d_S_removePagesFrom_78 : decode b_S_removePagesFrom 78 = .ok (.getfield 9, 3) := by decide +kernel
theorem d_S_removePagesFrom_81 : decode b_S_removePagesFrom 81 = .ok (.iload 4, 2) := by decide +kernel
theorem d_S_removePagesFrom_83 : decode b_S_removePagesFrom 83 = .ok (.iload 6, 2) := by decide +kernel
theorem d_S_removePagesFrom_85 : decode b_S_removePagesFrom 85 = .ok (.iconst 0, 1) := by decide +kernel
theorem d_S_removePagesFrom_86 : decode b_S_removePagesFrom 86 = .ok (.invokevirtual 62, 3) := by decide +kernel
theorem d_S_removePagesFrom_89 : decode b_S_removePagesFrom 89 = .ok (.iinc 6 1, 3) := by decide +kernel
theorem d_S_removePagesFrom_92 : decode b_S_removePagesFrom 92 = .ok (.goto (-50), 3) := by decide +kernel
theorem d_S_removePagesFrom_95 : decode b_S_removePagesFrom 95 = .ok (.iinc 3 1, 3) := by decide +kernel
theorem d_S_removePagesFrom_98 : decode b_S_removePagesFrom 98 = .ok (.goto (-90), 3) := by decide +kernel
theorem d_S_removePagesFrom_101 : decode b_S_removePagesFrom 101 = .ok (.return_, 1) := by decide +kernel
theorem d_S_shareRegion_0 : decode b_S_shareRegion 0 = .ok (.aload_n 0, 1) := by decide +kernel
theorem d_S_shareRegion_1 : decode b_S_shareRegion 1 = .ok (.iload_n 2, 1) := by decide +kernel
theorem d_S_shareRegion_2 : decode b_S_shareRegion 2 = .ok (.invokevirtual 69, 3) := by decide +kernel
theorem d_S_shareRegion_5 : decode b_S_shareRegion 5 = .ok (.istore_n 3, 1) := by decide +kernel
theorem d_S_shareRegion_6 : decode b_S_shareRegion 6 = .ok (.aload_n 0, 1) := by decide +kernel
theorem d_S_shareRegion_7 : decode b_S_shareRegion 7 = .ok (.getfield 9, 3) := by decide +kernel
theorem d_S_shareRegion_10 : decode b_S_shareRegion 10 = .ok (.aload_n 1, 1) := by decide +kernel
theorem d_S_shareRegion_11 : decode b_S_shareRegion 11 = .ok (.iload_n 2, 1) := by decide +kernel
theorem d_S_shareRegion_12 : decode b_S_shareRegion 12 = .ok (.invokevirtual 32, 3) := by decide +kernel
theorem d_S_shareRegion_15 : decode b_S_shareRegion 15 = .ok (.iload_n 3, 1) := by decide +kernel
theorem d_S_shareRegion_16 : decode b_S_shareRegion 16 = .ok (.invokevirtual 81, 3) := by decide +kernel
theorem d_S_shareRegion_19 : decode b_S_shareRegion 19 = .ok (.iconst 0, 1) := by decide +kernel
theorem d_S_shareRegion_20 : decode b_S_shareRegion 20 = .ok (.istore 4, 2) := by decide +kernel
theorem d_S_shareRegion_22 : decode b_S_shareRegion 22 = .ok (.iload 4, 2) := by decide +kernel
theorem d_S_shareRegion_24 : decode b_S_shareRegion 24 = .ok (.sipush 1024, 3) := by decide +kernel
theorem d_S_shareRegion_27 : decode b_S_shareRegion 27 = .ok (.if_icmp .ge 29, 3) := by decide +kernel
theorem d_S_shareRegion_30 : decode b_S_shareRegion 30 = .ok (.aload_n 0, 1) := by decide +kernel
theorem d_S_shareRegion_31 : decode b_S_shareRegion 31 = .ok (.getfield 9, 3) := by decide +kernel
theorem d_S_shareRegion_34 : decode b_S_shareRegion 34 = .ok (.aload_n 0, 1) := by decide +kernel
theorem d_S_shareRegion_35 : decode b_S_shareRegion 35 = .ok (.getfield 9, 3) := by decide +kernel
theorem d_S_shareRegion_38 : decode b_S_shareRegion 38 = .ok (.iload_n 3, 1) := by decide +kernel
theorem d_S_shareRegion_39 : decode b_S_shareRegion 39 = .ok (.iload 4, 2) := by decide +kernel
theorem d_S_shareRegion_41 : decode b_S_shareRegion 41 = .ok (.invokevirtual 59, 3) := by decide +kernel
theorem d_S_shareRegion_44 : decode b_S_shareRegion 44 = .ok (.invokestatic 78, 3) := by decide +kernel
theorem d_S_shareRegion_47 : decode b_S_shareRegion 47 = .ok (.invokevirtual 91, 3) := by decide +kernel
theorem d_S_shareRegion_50 : decode b_S_shareRegion 50 = .ok (.iinc 4 1, 3) := by decide +kernel
theorem d_S_shareRegion_53 : decode b_S_shareRegion 53 = .ok (.goto (-31), 3) := by decide +kernel
theorem d_S_shareRegion_56 : decode b_S_shareRegion 56 = .ok (.return_, 1) := by decide +kernel
theorem d_S_addTable_0 : decode b_S_addTable 0 = .ok (.aload_n 0, 1) := by decide +kernel
theorem d_S_addTable_1 : decode b_S_addTable 1 = .ok (.getfield 9, 3) := by decide +kernel
theorem d_S_addTable_4 : decode b_S_addTable 4 = .ok (.invokevirtual 22, 3) := by decide +kernel
theorem d_S_addTable_7 : decode b_S_addTable 7 = .ok (.istore_n 2, 1) := by decide +kernel
theorem d_S_addTable_8 : decode b_S_addTable 8 = .ok (.aload_n 0, 1) := by decide +kernel
theorem d_S_addTable_9 : decode b_S_addTable 9 = .ok (.getfield 9, 3) := by decide +kernel
theorem d_S_addTable_12 : decode b_S_addTable 12 = .ok (.aload_n 0, 1) := by decide +kernel
theorem d_S_addTable_13 : decode b_S_addTable 13 = .ok (.getfield 15, 3) := by decide +kernel
theorem d_S_addTable_16 : decode b_S_addTable 16 = .ok (.iload_n 1, 1) := by decide +kernel
theorem d_S_addTable_17 : decode b_S_addTable 17 = .ok (.iload_n 2, 1) := by decide +kernel
theorem d_S_addTable_18 : decode b_S_addTable 18 = .ok (.iconst 0, 1) := by decide +kernel
theorem d_S_addTable_19 : decode b_S_addTable 19 = .ok (.invokestatic 72, 3) := by decide +kernel
theorem d_S_addTable_22 : decode b_S_addTable 22 = .ok (.invokevirtual 62, 3) := by decide +kernel
theorem d_S_addTable_25 : decode b_S_addTable 25 = .ok (.iload_n 2, 1) := by decide +kernel
theorem d_S_addTable_26 : decode b_S_addTable 26 = .ok (.ireturn, 1) := by decide +kernel
theorem d_S_hasPageIn_0 : decode b_S_hasPageIn 0 = .ok (.aload_n 0, 1) := by decide +kernel
theorem d_S_hasPageIn_1 : decode b_S_hasPageIn 1 = .ok (.iload_n 1, 1) := by decide +kernel
theorem d_S_hasPageIn_2 : decode b_S_hasPageIn 2 = .ok (.invokevirtual 32, 3) := by decide +kernel
theorem d_S_hasPageIn_5 : decode b_S_hasPageIn 5 = .ok (.istore_n 2, 1) := by decide +kernel
theorem d_S_hasPageIn_6 : decode b_S_hasPageIn 6 = .ok (.iconst 0, 1) := by decide +kernel
theorem d_S_hasPageIn_7 : decode b_S_hasPageIn 7 = .ok (.istore_n 3, 1) := by decide +kernel
theorem d_S_hasPageIn_8 : decode b_S_hasPageIn 8 = .ok (.iload_n 2, 1) := by decide +kernel
theorem d_S_hasPageIn_9 : decode b_S_hasPageIn 9 = .ok (.iconst (-1), 1) := by decide +kernel
theorem d_S_hasPageIn_10 : decode b_S_hasPageIn 10 = .ok (.if_icmp .eq 30, 3) := by decide +kernel
theorem d_S_hasPageIn_13 : decode b_S_hasPageIn 13 = .ok (.iload_n 3, 1) := by decide +kernel
theorem d_S_hasPageIn_14 : decode b_S_hasPageIn 14 = .ok (.sipush 1024, 3) := by decide +kernel
theorem d_S_hasPageIn_17 : decode b_S_hasPageIn 17 = .ok (.if_icmp .ge 23, 3) := by decide +kernel
theorem d_S_hasPageIn_20 : decode b_S_hasPageIn 20 = .ok (.aload_n 0, 1) := by decide +kernel
theorem d_S_hasPageIn_21 : decode b_S_hasPageIn 21 = .ok (.getfield 9, 3) := by decide +kernel
theorem d_S_hasPageIn_24 : decode b_S_hasPageIn 24 = .ok (.iload_n 2, 1) := by decide +kernel
theorem d_S_hasPageIn_25 : decode b_S_hasPageIn 25 = .ok (.iload_n 3, 1) := by decide +kernel
theorem d_S_hasPageIn_26 : decode b_S_hasPageIn 26 = .ok (.invokevirtual 59, 3) := by decide +kernel
theorem d_S_hasPageIn_29 : decode b_S_hasPageIn 29 = .ok (.ifCond .eq 5, 3) := by decide +kernel
theorem d_S_hasPageIn_32 : decode b_S_hasPageIn 32 = .ok (.iconst 1, 1) := by decide +kernel
theorem d_S_hasPageIn_33 : decode b_S_hasPageIn 33 = .ok (.ireturn, 1) := by decide +kernel
theorem d_S_hasPageIn_34 : decode b_S_hasPageIn 34 = .ok (.iinc 3 1, 3) := by decide +kernel
theorem d_S_hasPageIn_37 : decode b_S_hasPageIn 37 = .ok (.goto (-29), 3) := by decide +kernel
theorem d_S_hasPageIn_40 : decode b_S_hasPageIn 40 = .ok (.iconst 0, 1) := by decide +kernel
theorem d_S_hasPageIn_41 : decode b_S_hasPageIn 41 = .ok (.ireturn, 1) := by decide +kernel
theorem d_S_tableOf_0 : decode b_S_tableOf 0 = .ok (.aload_n 0, 1) := by decide +kernel
theorem d_S_tableOf_1 : decode b_S_tableOf 1 = .ok (.getfield 9, 3) := by decide +kernel
theorem d_S_tableOf_4 : decode b_S_tableOf 4 = .ok (.aload_n 0, 1) := by decide +kernel
theorem d_S_tableOf_5 : decode b_S_tableOf 5 = .ok (.getfield 15, 3) := by decide +kernel
theorem d_S_tableOf_8 : decode b_S_tableOf 8 = .ok (.iload_n 1, 1) := by decide +kernel
theorem d_S_tableOf_9 : decode b_S_tableOf 9 = .ok (.invokevirtual 59, 3) := by decide +kernel
theorem d_S_tableOf_12 : decode b_S_tableOf 12 = .ok (.invokestatic 78, 3) := by decide +kernel
theorem d_S_tableOf_15 : decode b_S_tableOf 15 = .ok (.ireturn, 1) := by decide +kernel
theorem d_S_slotOf_0 : decode b_S_slotOf 0 = .ok (.iload_n 0, 1) := by decide +kernel
theorem d_S_slotOf_1 : decode b_S_slotOf 1 = .ok (.bipush 12, 2) := by decide +kernel
theorem d_S_slotOf_3 : decode b_S_slotOf 3 = .ok (.iushr, 1) := by decide +kernel
theorem d_S_slotOf_4 : decode b_S_slotOf 4 = .ok (.sipush 1023, 3) := by decide +kernel
theorem d_S_slotOf_7 : decode b_S_slotOf 7 = .ok (.iand, 1) := by decide +kernel
theorem d_S_slotOf_8 : decode b_S_slotOf 8 = .ok (.ireturn, 1) := by decide +kernel
theorem d_L_cell_0 : decode b_L_cell 0 = .ok (.iload_n 1, 1) := by decide +kernel
theorem d_L_cell_1 : decode b_L_cell 1 = .ok (.aload_n 0, 1) := by decide +kernel
theorem d_L_cell_2 : decode b_L_cell 2 = .ok (.arraylength, 1) := by decide +kernel
theorem d_L_cell_3 : decode b_L_cell 3 = .ok (.if_icmp .ge 9, 3) := by decide +kernel
theorem d_L_cell_6 : decode b_L_cell 6 = .ok (.aload_n 0, 1) := by decide +kernel
theorem d_L_cell_7 : decode b_L_cell 7 = .ok (.iload_n 1, 1) := by decide +kernel
theorem d_L_cell_8 : decode b_L_cell 8 = .ok (.iaload, 1) := by decide +kernel
theorem d_L_cell_9 : decode b_L_cell 9 = .ok (.goto 4, 3) := by decide +kernel
theorem d_L_cell_12 : decode b_L_cell 12 = .ok (.iconst 0, 1) := by decide +kernel
theorem d_L_cell_13 : decode b_L_cell 13 = .ok (.ireturn, 1) := by decide +kernel
theorem d_A_fill_0 : decode b_A_fill 0 = .ok (.iconst 0, 1) := by decide +kernel
theorem d_A_fill_1 : decode b_A_fill 1 = .ok (.istore_n 2, 1) := by decide +kernel
theorem d_A_fill_2 : decode b_A_fill 2 = .ok (.aload_n 0, 1) := by decide +kernel
theorem d_A_fill_3 : decode b_A_fill 3 = .ok (.arraylength, 1) := by decide +kernel
theorem d_A_fill_4 : decode b_A_fill 4 = .ok (.istore_n 3, 1) := by decide +kernel
theorem d_A_fill_5 : decode b_A_fill 5 = .ok (.iload_n 2, 1) := by decide +kernel
theorem d_A_fill_6 : decode b_A_fill 6 = .ok (.iload_n 3, 1) := by decide +kernel
theorem d_A_fill_7 : decode b_A_fill 7 = .ok (.if_icmp .ge 13, 3) := by decide +kernel
theorem d_A_fill_10 : decode b_A_fill 10 = .ok (.aload_n 0, 1) := by decide +kernel
theorem d_A_fill_11 : decode b_A_fill 11 = .ok (.iload_n 2, 1) := by decide +kernel
theorem d_A_fill_12 : decode b_A_fill 12 = .ok (.iload_n 1, 1) := by decide +kernel
theorem d_A_fill_13 : decode b_A_fill 13 = .ok (.iastore, 1) := by decide +kernel
theorem d_A_fill_14 : decode b_A_fill 14 = .ok (.iinc 2 1, 3) := by decide +kernel
theorem d_A_fill_17 : decode b_A_fill 17 = .ok (.goto (-12), 3) := by decide +kernel
theorem d_A_fill_20 : decode b_A_fill 20 = .ok (.return_, 1) := by decide +kernel
end
section
/-! the words of the tables that the methods need -/
def TG : List Cond := ([.fieldLink "PageVault" 29 "PageVault" "spaces" "[LPageVault$Space;",
  .fieldLink "PageVault$Space" 15 "PageVault$Space" "root" "I",
  .code y_S_isOpen b_S_isOpen 1 (some .boolean),
  .initialized "PageVault$Space",
  .methodLink "PageVault" 131 y_S_isOpen,
  .instanceMethod y_S_isOpen,
  .selects "PageVault$Space" y_S_isOpen y_S_isOpen,
  .code y_V_leastUnused b_V_leastUnused 2 (some .int),
  .initialized "PageVault",
  .methodLink "PageVault" 40 y_V_leastUnused,
  .instanceMethod y_V_leastUnused,
  .selects "PageVault" y_V_leastUnused y_V_leastUnused,
  .fieldLink "PageVault" 23 "PageVault" "frames" "LPageVault$Frames;",
  .fieldLink "PageVault$Frames" 20 "PageVault$Frames" "spare" "I",
  .code y_F_spare b_F_spare 1 (some .int),
  .initialized "PageVault$Frames",
  .methodLink "PageVault" 44 y_F_spare,
  .instanceMethod y_F_spare,
  .selects "PageVault$Frames" y_F_spare y_F_spare,
  .fieldLink "PageVault$Space" 9 "PageVault$Space" "frames" "LPageVault$Frames;",
  .fieldLink "PageVault$Frames" 16 "PageVault$Frames" "holders" "[I",
  .fieldLink "PageVault$Frames" 11 "PageVault$Frames" "words" "[[I",
  .code y_A_fill b_A_fill 4 none,
  .initialized "java/util/Arrays",
  .methodLink "PageVault$Frames" 24 y_A_fill,
  .static y_A_fill,
  .code y_F_take b_F_take 2 (some .int),
  .methodLink "PageVault$Space" 22 y_F_take,
  .instanceMethod y_F_take,
  .selects "PageVault$Frames" y_F_take y_F_take,
  .fieldLink "PageVault$Space" 19 "PageVault$Space" "length" "I",
  .code y_S_open b_S_open 2 none,
  .methodLink "PageVault" 47 y_S_open,
  .instanceMethod y_S_open,
  .selects "PageVault$Space" y_S_open y_S_open,
  .code y_V_find b_V_find 2 (some (.object "PageVault$Space")),
  .methodLink "PageVault" 50 y_V_find,
  .instanceMethod y_V_find,
  .selects "PageVault" y_V_find y_V_find,
  .code y_F_isFrame b_F_isFrame 2 (some .boolean),
  .methodLink "PageVault$Frames" 30 y_F_isFrame,
  .instanceMethod y_F_isFrame,
  .selects "PageVault$Frames" y_F_isFrame y_F_isFrame,
  .code y_F_release b_F_release 2 none,
  .methodLink "PageVault$Space" 36 y_F_release,
  .instanceMethod y_F_release,
  .selects "PageVault$Frames" y_F_release y_F_release,
  .code y_F_word b_F_word 3 (some .int),
  .methodLink "PageVault$Space" 59 y_F_word,
  .instanceMethod y_F_word,
  .selects "PageVault$Frames" y_F_word y_F_word,
  .code y_V_frameOf b_V_frameOf 1 (some .int),
  .static y_V_frameOf,
  .code y_S_tableOf b_S_tableOf 2 (some .int),
  .methodLink "PageVault$Space" 32 y_S_tableOf,
  .instanceMethod y_S_tableOf,
  .selects "PageVault$Space" y_S_tableOf y_S_tableOf,
  .code y_F_setWord b_F_setWord 4 none,
  .methodLink "PageVault$Space" 62 y_F_setWord,
  .instanceMethod y_F_setWord,
  .selects "PageVault$Frames" y_F_setWord y_F_setWord,
  .code y_S_removePagesFrom b_S_removePagesFrom 7 none,
  .methodLink "PageVault$Space" 28 y_S_removePagesFrom,
  .instanceMethod y_S_removePagesFrom,
  .selects "PageVault$Space" y_S_removePagesFrom y_S_removePagesFrom,
  .code y_S_close b_S_close 2 none,
  .methodLink "PageVault" 54 y_S_close,
  .instanceMethod y_S_close,
  .selects "PageVault$Space" y_S_close y_S_close,
  .code y_S_hasPageIn b_S_hasPageIn 4 (some .boolean),
  .methodLink "PageVault$Space" 42 y_S_hasPageIn,
  .instanceMethod y_S_hasPageIn,
  .selects "PageVault$Space" y_S_hasPageIn y_S_hasPageIn,
  .code y_S_framesOfCopy b_S_framesOfCopy 3 (some .int),
  .methodLink "PageVault" 57 y_S_framesOfCopy,
  .instanceMethod y_S_framesOfCopy,
  .selects "PageVault$Space" y_S_framesOfCopy y_S_framesOfCopy,
  .code y_F_hold b_F_hold 2 none,
  .methodLink "PageVault$Space" 91 y_F_hold,
  .instanceMethod y_F_hold,
  .selects "PageVault$Frames" y_F_hold y_F_hold,
  .code y_V_entryOf b_V_entryOf 2 (some .int),
  .static y_V_entryOf,
  .code y_S_addTable b_S_addTable 3 (some .int),
  .methodLink "PageVault$Space" 69 y_S_addTable,
  .instanceMethod y_S_addTable,
  .selects "PageVault$Space" y_S_addTable y_S_addTable,
  .methodLink "PageVault$Frames" 34 arraycopyName,
  .native arraycopyName,
  .static arraycopyName,
  .initialized "java/lang/System",
  .code y_F_copyWords b_F_copyWords 3 none,
  .methodLink "PageVault$Space" 81 y_F_copyWords,
  .instanceMethod y_F_copyWords,
  .selects "PageVault$Frames" y_F_copyWords y_F_copyWords,
  .code y_S_shareRegion b_S_shareRegion 5 none,
  .methodLink "PageVault$Space" 46 y_S_shareRegion,
  .instanceMethod y_S_shareRegion,
  .selects "PageVault$Space" y_S_shareRegion y_S_shareRegion,
  .methodLink "PageVault$Space" 39 y_S_open,
  .code y_S_openAsCopy b_S_openAsCopy 3 none,
  .methodLink "PageVault" 60 y_S_openAsCopy,
  .instanceMethod y_S_openAsCopy,
  .selects "PageVault$Space" y_S_openAsCopy y_S_openAsCopy,
  .constant "PageVault" 158 1073741824,
  .code y_V_isUsers b_V_isUsers 1 (some .boolean),
  .methodLink "PageVault" 135 y_V_isUsers,
  .static y_V_isUsers,
  .code y_V_beginsPage b_V_beginsPage 1 (some .boolean),
  .methodLink "PageVault" 64 y_V_beginsPage,
  .static y_V_beginsPage,
  .code y_V_areFlags b_V_areFlags 1 (some .boolean),
  .methodLink "PageVault" 68 y_V_areFlags,
  .static y_V_areFlags,
  .code y_S_slotOf b_S_slotOf 1 (some .int),
  .methodLink "PageVault$Space" 56 y_S_slotOf,
  .static y_S_slotOf,
  .code y_S_entryAt b_S_entryAt 2 (some .int),
  .methodLink "PageVault" 71 y_S_entryAt,
  .instanceMethod y_S_entryAt,
  .selects "PageVault$Space" y_S_entryAt y_S_entryAt,
  .methodLink "PageVault$Space" 66 y_F_spare,
  .code y_S_addPage b_S_addPage 6 (some .int),
  .methodLink "PageVault" 75 y_S_addPage,
  .instanceMethod y_S_addPage,
  .selects "PageVault$Space" y_S_addPage y_S_addPage,
  .methodLink "PageVault$Space" 50 Lib.Math.max.name,
  .static Lib.Math.max.name,
  .initialized "java/lang/Math",
  .code Lib.Math.max.name Lib.Math.max.code 2 (some .int),
  .code y_S_reach b_S_reach 2 none,
  .methodLink "PageVault" 78 y_S_reach,
  .instanceMethod y_S_reach,
  .selects "PageVault$Space" y_S_reach y_S_reach,
  .methodLink "PageVault" 81 y_V_frameOf,
  .methodLink "PageVault" 84 y_V_entryOf,
  .code y_S_setEntry b_S_setEntry 3 none,
  .methodLink "PageVault" 87 y_S_setEntry,
  .instanceMethod y_S_setEntry,
  .selects "PageVault$Space" y_S_setEntry y_S_setEntry,
  .code y_S_length b_S_length 1 (some .int),
  .methodLink "PageVault" 91 y_S_length,
  .instanceMethod y_S_length,
  .selects "PageVault$Space" y_S_length y_S_length,
  .constantLong "PageVault" 94 1073741824,
  .code y_S_resize b_S_resize 2 none,
  .methodLink "PageVault" 96 y_S_resize,
  .instanceMethod y_S_resize,
  .selects "PageVault$Space" y_S_resize y_S_resize,
  .fieldLink "PageVault" 103 "PageVault" "latestTrap" "I",
  .code y_V_isStraight b_V_isStraight 2 (some .boolean),
  .methodLink "PageVault" 107 y_V_isStraight,
  .static y_V_isStraight,
  .code y_V_trapped b_V_trapped 2 (some .int),
  .methodLink "PageVault" 111 y_V_trapped,
  .instanceMethod y_V_trapped,
  .selects "PageVault" y_V_trapped y_V_trapped,
  .code y_V_touch b_V_touch 6 (some .int),
  .methodLink "PageVault" 138 y_V_touch,
  .instanceMethod y_V_touch,
  .selects "PageVault" y_V_touch y_V_touch,
  .code y_F_wordOf b_F_wordOf 1 (some .int),
  .methodLink "PageVault$Frames" 40 y_F_wordOf,
  .static y_F_wordOf,
  .methodLink "PageVault$Frames" 44 y_F_word,
  .code y_F_bitOf b_F_bitOf 1 (some .int),
  .methodLink "PageVault$Frames" 48 y_F_bitOf,
  .static y_F_bitOf,
  .code y_F_mask b_F_mask 1 (some .int),
  .methodLink "PageVault$Frames" 51 y_F_mask,
  .static y_F_mask,
  .code y_F_read b_F_read 4 (some .int),
  .methodLink "PageVault" 142 y_F_read,
  .instanceMethod y_F_read,
  .selects "PageVault$Frames" y_F_read y_F_read,
  .code y_F_holders b_F_holders 2 (some .int),
  .methodLink "PageVault" 128 y_F_holders,
  .instanceMethod y_F_holders,
  .selects "PageVault$Frames" y_F_holders y_F_holders,
  .methodLink "PageVault$Space" 75 y_S_entryAt,
  .code y_V_flagsOf b_V_flagsOf 1 (some .int),
  .static y_V_flagsOf,
  .methodLink "PageVault$Space" 88 y_S_setEntry,
  .code y_S_partPage b_S_partPage 4 (some .int),
  .methodLink "PageVault" 152 y_S_partPage,
  .instanceMethod y_S_partPage,
  .selects "PageVault$Space" y_S_partPage y_S_partPage,
  .code y_V_frameOrFull b_V_frameOrFull 2 (some .int),
  .methodLink "PageVault" 155 y_V_frameOrFull,
  .instanceMethod y_V_frameOrFull,
  .selects "PageVault" y_V_frameOrFull y_V_frameOrFull,
  .code y_V_touchAbsent b_V_touchAbsent 4 (some .int),
  .methodLink "PageVault" 149 y_V_touchAbsent,
  .instanceMethod y_V_touchAbsent,
  .selects "PageVault" y_V_touchAbsent y_V_touchAbsent,
  .code y_V_number b_V_number 6 (some .int),
  .methodLink "PageVault" 99 y_V_number,
  .instanceMethod y_V_number,
  .selects "PageVault" y_V_number y_V_number,
  .methodLink "PageVault$Frames" 54 y_F_setWord,
  .code y_F_write b_F_write 6 none,
  .methodLink "PageVault" 146 y_F_write,
  .instanceMethod y_F_write,
  .selects "PageVault$Frames" y_F_write y_F_write,
  .code y_V_write b_V_write 6 (some .boolean),
  .methodLink "PageVault" 114 y_V_write,
  .instanceMethod y_V_write,
  .selects "PageVault" y_V_write y_V_write,
  .fieldLink "PageVault" 36 "PageVault" "buffer" "[I",
  .code y_V_readByte b_V_readByte 4 (some .int),
  .methodLink "PageVault" 118 y_V_readByte,
  .instanceMethod y_V_readByte,
  .selects "PageVault" y_V_readByte y_V_readByte,
  .code y_V_entryIn b_V_entryIn 4 (some .int),
  .methodLink "PageVault" 122 y_V_entryIn,
  .instanceMethod y_V_entryIn,
  .selects "PageVault" y_V_entryIn y_V_entryIn,
  .methodLink "PageVault" 125 y_V_flagsOf,
  .laysFinal "PageVault" "PageVault" "frames" "LPageVault$Frames;",
  .laysFinal "PageVault" "PageVault" "spaces" "[LPageVault$Space;",
  .laysFinal "PageVault" "PageVault" "buffer" "[I",
  .lays "PageVault" "PageVault" "latestTrap" "I",
  .laysFinal "PageVault$Frames" "PageVault$Frames" "words" "[[I",
  .laysFinal "PageVault$Frames" "PageVault$Frames" "holders" "[I",
  .lays "PageVault$Frames" "PageVault$Frames" "spare" "I",
  .laysFinal "PageVault$Space" "PageVault$Space" "frames" "LPageVault$Frames;",
  .lays "PageVault$Space" "PageVault$Space" "root" "I",
  .lays "PageVault$Space" "PageVault$Space" "length" "I",
  .lays "PageVaultModel" "PageVaultModel" "frames" "I",
  .lays "PageVaultModel" "PageVaultModel" "lastTrap" "I",
  .laysFinal "PageVaultModel" "PageVaultModel" "alive" "[Z",
  .laysFinal "PageVaultModel" "PageVaultModel" "ends" "[I",
  .laysFinal "PageVaultModel" "PageVaultModel" "pageSpace" "[I",
  .laysFinal "PageVaultModel" "PageVaultModel" "pageNumber" "[I",
  .laysFinal "PageVaultModel" "PageVaultModel" "pageFlags" "[I",
  .laysFinal "PageVaultModel" "PageVaultModel" "pageKin" "[I",
  .lays "PageVaultModel" "PageVaultModel" "pages" "I",
  .lays "PageVaultModel" "PageVaultModel" "kins" "I",
  .laysFinal "PageVaultModel" "PageVaultModel" "regionSpace" "[I",
  .laysFinal "PageVaultModel" "PageVaultModel" "regionNumber" "[I",
  .lays "PageVaultModel" "PageVaultModel" "regions" "I",
  .laysFinal "PageVaultModel" "PageVaultModel" "deed" "[I",
  .laysFinal "PageVaultModel" "PageVaultModel" "who" "[I",
  .laysFinal "PageVaultModel" "PageVaultModel" "where" "[I",
  .laysFinal "PageVaultModel" "PageVaultModel" "much" "[I",
  .laysFinal "PageVaultModel" "PageVaultModel" "what" "[I",
  .lays "PageVaultModel" "PageVaultModel" "deeds" "I"] : List Cond)
theorem tg_0 : (.fieldLink "PageVault" 29 "PageVault" "spaces" "[LPageVault$Space;" : Cond) ∈ TG := List.mem_of_getElem? (i := 0) rfl
theorem tg_1 : (.fieldLink "PageVault$Space" 15 "PageVault$Space" "root" "I" : Cond) ∈ TG := List.mem_of_getElem? (i := 1) rfl
theorem tg_2 : (.code y_S_isOpen b_S_isOpen 1 (some .boolean) : Cond) ∈ TG := List.mem_of_getElem? (i := 2) rfl
theorem tg_3 : (.initialized "PageVault$Space" : Cond) ∈ TG := List.mem_of_getElem? (i := 3) rfl
theorem tg_4 : (.methodLink "PageVault" 131 y_S_isOpen : Cond) ∈ TG := List.mem_of_getElem? (i := 4) rfl
theorem tg_5 : (.instanceMethod y_S_isOpen : Cond) ∈ TG := List.mem_of_getElem? (i := 5) rfl
theorem tg_6 : (.selects "PageVault$Space" y_S_isOpen y_S_isOpen : Cond) ∈ TG := List.mem_of_getElem? (i := 6) rfl
theorem tg_7 : (.code y_V_leastUnused b_V_leastUnused 2 (some .int) : Cond) ∈ TG := List.mem_of_getElem? (i := 7) rfl
theorem tg_8 : (.initialized "PageVault" : Cond) ∈ TG := List.mem_of_getElem? (i := 8) rfl
theorem tg_9 : (.methodLink "PageVault" 40 y_V_leastUnused : Cond) ∈ TG := List.mem_of_getElem? (i := 9) rfl
theorem tg_10 : (.instanceMethod y_V_leastUnused : Cond) ∈ TG := List.mem_of_getElem? (i := 10) rfl
theorem tg_11 : (.selects "PageVault" y_V_leastUnused y_V_leastUnused : Cond) ∈ TG := List.mem_of_getElem? (i := 11) rfl
theorem tg_12 : (.fieldLink "PageVault" 23 "PageVault" "frames" "LPageVault$Frames;" : Cond) ∈ TG := List.mem_of_getElem? (i := 12) rfl
theorem tg_13 : (.fieldLink "PageVault$Frames" 20 "PageVault$Frames" "spare" "I" : Cond) ∈ TG := List.mem_of_getElem? (i := 13) rfl
theorem tg_14 : (.code y_F_spare b_F_spare 1 (some .int) : Cond) ∈ TG := List.mem_of_getElem? (i := 14) rfl
theorem tg_15 : (.initialized "PageVault$Frames" : Cond) ∈ TG := List.mem_of_getElem? (i := 15) rfl
theorem tg_16 : (.methodLink "PageVault" 44 y_F_spare : Cond) ∈ TG := List.mem_of_getElem? (i := 16) rfl
theorem tg_17 : (.instanceMethod y_F_spare : Cond) ∈ TG := List.mem_of_getElem? (i := 17) rfl
theorem tg_18 : (.selects "PageVault$Frames" y_F_spare y_F_spare : Cond) ∈ TG := List.mem_of_getElem? (i := 18) rfl
theorem tg_19 : (.fieldLink "PageVault$Space" 9 "PageVault$Space" "frames" "LPageVault$Frames;" : Cond) ∈ TG := List.mem_of_getElem? (i := 19) rfl
theorem tg_20 : (.fieldLink "PageVault$Frames" 16 "PageVault$Frames" "holders" "[I" : Cond) ∈ TG := List.mem_of_getElem? (i := 20) rfl
theorem tg_21 : (.fieldLink "PageVault$Frames" 11 "PageVault$Frames" "words" "[[I" : Cond) ∈ TG := List.mem_of_getElem? (i := 21) rfl
theorem tg_22 : (.code y_A_fill b_A_fill 4 none : Cond) ∈ TG := List.mem_of_getElem? (i := 22) rfl
theorem tg_23 : (.initialized "java/util/Arrays" : Cond) ∈ TG := List.mem_of_getElem? (i := 23) rfl
theorem tg_24 : (.methodLink "PageVault$Frames" 24 y_A_fill : Cond) ∈ TG := List.mem_of_getElem? (i := 24) rfl
theorem tg_25 : (.static y_A_fill : Cond) ∈ TG := List.mem_of_getElem? (i := 25) rfl
theorem tg_26 : (.code y_F_take b_F_take 2 (some .int) : Cond) ∈ TG := List.mem_of_getElem? (i := 26) rfl
theorem tg_27 : (.methodLink "PageVault$Space" 22 y_F_take : Cond) ∈ TG := List.mem_of_getElem? (i := 27) rfl
theorem tg_28 : (.instanceMethod y_F_take : Cond) ∈ TG := List.mem_of_getElem? (i := 28) rfl
theorem tg_29 : (.selects "PageVault$Frames" y_F_take y_F_take : Cond) ∈ TG := List.mem_of_getElem? (i := 29) rfl
theorem tg_30 : (.fieldLink "PageVault$Space" 19 "PageVault$Space" "length" "I" : Cond) ∈ TG := List.mem_of_getElem? (i := 30) rfl
theorem tg_31 : (.code y_S_open b_S_open 2 none : Cond) ∈ TG := List.mem_of_getElem? (i := 31) rfl
theorem tg_32 : (.methodLink "PageVault" 47 y_S_open : Cond) ∈ TG := List.mem_of_getElem? (i := 32) rfl
theorem tg_33 : (.instanceMethod y_S_open : Cond) ∈ TG := List.mem_of_getElem? (i := 33) rfl
theorem tg_34 : (.selects "PageVault$Space" y_S_open y_S_open : Cond) ∈ TG := List.mem_of_getElem? (i := 34) rfl
theorem tg_35 : (.code y_V_find b_V_find 2 (some (.object "PageVault$Space")) : Cond) ∈ TG := List.mem_of_getElem? (i := 35) rfl
theorem tg_36 : (.methodLink "PageVault" 50 y_V_find : Cond) ∈ TG := List.mem_of_getElem? (i := 36) rfl
theorem tg_37 : (.instanceMethod y_V_find : Cond) ∈ TG := List.mem_of_getElem? (i := 37) rfl
theorem tg_38 : (.selects "PageVault" y_V_find y_V_find : Cond) ∈ TG := List.mem_of_getElem? (i := 38) rfl
theorem tg_39 : (.code y_F_isFrame b_F_isFrame 2 (some .boolean) : Cond) ∈ TG := List.mem_of_getElem? (i := 39) rfl
theorem tg_40 : (.methodLink "PageVault$Frames" 30 y_F_isFrame : Cond) ∈ TG := List.mem_of_getElem? (i := 40) rfl
theorem tg_41 : (.instanceMethod y_F_isFrame : Cond) ∈ TG := List.mem_of_getElem? (i := 41) rfl
theorem tg_42 : (.selects "PageVault$Frames" y_F_isFrame y_F_isFrame : Cond) ∈ TG := List.mem_of_getElem? (i := 42) rfl
theorem tg_43 : (.code y_F_release b_F_release 2 none : Cond) ∈ TG := List.mem_of_getElem? (i := 43) rfl
theorem tg_44 : (.methodLink "PageVault$Space" 36 y_F_release : Cond) ∈ TG := List.mem_of_getElem? (i := 44) rfl
theorem tg_45 : (.instanceMethod y_F_release : Cond) ∈ TG := List.mem_of_getElem? (i := 45) rfl
theorem tg_46 : (.selects "PageVault$Frames" y_F_release y_F_release : Cond) ∈ TG := List.mem_of_getElem? (i := 46) rfl
theorem tg_47 : (.code y_F_word b_F_word 3 (some .int) : Cond) ∈ TG := List.mem_of_getElem? (i := 47) rfl
theorem tg_48 : (.methodLink "PageVault$Space" 59 y_F_word : Cond) ∈ TG := List.mem_of_getElem? (i := 48) rfl
theorem tg_49 : (.instanceMethod y_F_word : Cond) ∈ TG := List.mem_of_getElem? (i := 49) rfl
theorem tg_50 : (.selects "PageVault$Frames" y_F_word y_F_word : Cond) ∈ TG := List.mem_of_getElem? (i := 50) rfl
theorem tg_51 : (.code y_V_frameOf b_V_frameOf 1 (some .int) : Cond) ∈ TG := List.mem_of_getElem? (i := 51) rfl
theorem tg_52 : (.static y_V_frameOf : Cond) ∈ TG := List.mem_of_getElem? (i := 52) rfl
theorem tg_53 : (.code y_S_tableOf b_S_tableOf 2 (some .int) : Cond) ∈ TG := List.mem_of_getElem? (i := 53) rfl
theorem tg_54 : (.methodLink "PageVault$Space" 32 y_S_tableOf : Cond) ∈ TG := List.mem_of_getElem? (i := 54) rfl
theorem tg_55 : (.instanceMethod y_S_tableOf : Cond) ∈ TG := List.mem_of_getElem? (i := 55) rfl
theorem tg_56 : (.selects "PageVault$Space" y_S_tableOf y_S_tableOf : Cond) ∈ TG := List.mem_of_getElem? (i := 56) rfl
theorem tg_57 : (.code y_F_setWord b_F_setWord 4 none : Cond) ∈ TG := List.mem_of_getElem? (i := 57) rfl
theorem tg_58 : (.methodLink "PageVault$Space" 62 y_F_setWord : Cond) ∈ TG := List.mem_of_getElem? (i := 58) rfl
theorem tg_59 : (.instanceMethod y_F_setWord : Cond) ∈ TG := List.mem_of_getElem? (i := 59) rfl
theorem tg_60 : (.selects "PageVault$Frames" y_F_setWord y_F_setWord : Cond) ∈ TG := List.mem_of_getElem? (i := 60) rfl
theorem tg_61 : (.code y_S_removePagesFrom b_S_removePagesFrom 7 none : Cond) ∈ TG := List.mem_of_getElem? (i := 61) rfl
theorem tg_62 : (.methodLink "PageVault$Space" 28 y_S_removePagesFrom : Cond) ∈ TG := List.mem_of_getElem? (i := 62) rfl
theorem tg_63 : (.instanceMethod y_S_removePagesFrom : Cond) ∈ TG := List.mem_of_getElem? (i := 63) rfl
theorem tg_64 : (.selects "PageVault$Space" y_S_removePagesFrom y_S_removePagesFrom : Cond) ∈ TG := List.mem_of_getElem? (i := 64) rfl
theorem tg_65 : (.code y_S_close b_S_close 2 none : Cond) ∈ TG := List.mem_of_getElem? (i := 65) rfl
theorem tg_66 : (.methodLink "PageVault" 54 y_S_close : Cond) ∈ TG := List.mem_of_getElem? (i := 66) rfl
theorem tg_67 : (.instanceMethod y_S_close : Cond) ∈ TG := List.mem_of_getElem? (i := 67) rfl
theorem tg_68 : (.selects "PageVault$Space" y_S_close y_S_close : Cond) ∈ TG := List.mem_of_getElem? (i := 68) rfl
theorem tg_69 : (.code y_S_hasPageIn b_S_hasPageIn 4 (some .boolean) : Cond) ∈ TG := List.mem_of_getElem? (i := 69) rfl
theorem tg_70 : (.methodLink "PageVault$Space" 42 y_S_hasPageIn : Cond) ∈ TG := List.mem_of_getElem? (i := 70) rfl
theorem tg_71 : (.instanceMethod y_S_hasPageIn : Cond) ∈ TG := List.mem_of_getElem? (i := 71) rfl
theorem tg_72 : (.selects "PageVault$Space" y_S_hasPageIn y_S_hasPageIn : Cond) ∈ TG := List.mem_of_getElem? (i := 72) rfl
theorem tg_73 : (.code y_S_framesOfCopy b_S_framesOfCopy 3 (some .int) : Cond) ∈ TG := List.mem_of_getElem? (i := 73) rfl
theorem tg_74 : (.methodLink "PageVault" 57 y_S_framesOfCopy : Cond) ∈ TG := List.mem_of_getElem? (i := 74) rfl
theorem tg_75 : (.instanceMethod y_S_framesOfCopy : Cond) ∈ TG := List.mem_of_getElem? (i := 75) rfl
theorem tg_76 : (.selects "PageVault$Space" y_S_framesOfCopy y_S_framesOfCopy : Cond) ∈ TG := List.mem_of_getElem? (i := 76) rfl
theorem tg_77 : (.code y_F_hold b_F_hold 2 none : Cond) ∈ TG := List.mem_of_getElem? (i := 77) rfl
theorem tg_78 : (.methodLink "PageVault$Space" 91 y_F_hold : Cond) ∈ TG := List.mem_of_getElem? (i := 78) rfl
theorem tg_79 : (.instanceMethod y_F_hold : Cond) ∈ TG := List.mem_of_getElem? (i := 79) rfl
theorem tg_80 : (.selects "PageVault$Frames" y_F_hold y_F_hold : Cond) ∈ TG := List.mem_of_getElem? (i := 80) rfl
theorem tg_81 : (.code y_V_entryOf b_V_entryOf 2 (some .int) : Cond) ∈ TG := List.mem_of_getElem? (i := 81) rfl
theorem tg_82 : (.static y_V_entryOf : Cond) ∈ TG := List.mem_of_getElem? (i := 82) rfl
theorem tg_83 : (.code y_S_addTable b_S_addTable 3 (some .int) : Cond) ∈ TG := List.mem_of_getElem? (i := 83) rfl
theorem tg_84 : (.methodLink "PageVault$Space" 69 y_S_addTable : Cond) ∈ TG := List.mem_of_getElem? (i := 84) rfl
theorem tg_85 : (.instanceMethod y_S_addTable : Cond) ∈ TG := List.mem_of_getElem? (i := 85) rfl
theorem tg_86 : (.selects "PageVault$Space" y_S_addTable y_S_addTable : Cond) ∈ TG := List.mem_of_getElem? (i := 86) rfl
theorem tg_87 : (.methodLink "PageVault$Frames" 34 arraycopyName : Cond) ∈ TG := List.mem_of_getElem? (i := 87) rfl
theorem tg_88 : (.native arraycopyName : Cond) ∈ TG := List.mem_of_getElem? (i := 88) rfl
theorem tg_89 : (.static arraycopyName : Cond) ∈ TG := List.mem_of_getElem? (i := 89) rfl
theorem tg_90 : (.initialized "java/lang/System" : Cond) ∈ TG := List.mem_of_getElem? (i := 90) rfl
theorem tg_91 : (.code y_F_copyWords b_F_copyWords 3 none : Cond) ∈ TG := List.mem_of_getElem? (i := 91) rfl
theorem tg_92 : (.methodLink "PageVault$Space" 81 y_F_copyWords : Cond) ∈ TG := List.mem_of_getElem? (i := 92) rfl
theorem tg_93 : (.instanceMethod y_F_copyWords : Cond) ∈ TG := List.mem_of_getElem? (i := 93) rfl
theorem tg_94 : (.selects "PageVault$Frames" y_F_copyWords y_F_copyWords : Cond) ∈ TG := List.mem_of_getElem? (i := 94) rfl
theorem tg_95 : (.code y_S_shareRegion b_S_shareRegion 5 none : Cond) ∈ TG := List.mem_of_getElem? (i := 95) rfl
theorem tg_96 : (.methodLink "PageVault$Space" 46 y_S_shareRegion : Cond) ∈ TG := List.mem_of_getElem? (i := 96) rfl
theorem tg_97 : (.instanceMethod y_S_shareRegion : Cond) ∈ TG := List.mem_of_getElem? (i := 97) rfl
theorem tg_98 : (.selects "PageVault$Space" y_S_shareRegion y_S_shareRegion : Cond) ∈ TG := List.mem_of_getElem? (i := 98) rfl
theorem tg_99 : (.methodLink "PageVault$Space" 39 y_S_open : Cond) ∈ TG := List.mem_of_getElem? (i := 99) rfl
theorem tg_100 : (.code y_S_openAsCopy b_S_openAsCopy 3 none : Cond) ∈ TG := List.mem_of_getElem? (i := 100) rfl
theorem tg_101 : (.methodLink "PageVault" 60 y_S_openAsCopy : Cond) ∈ TG := List.mem_of_getElem? (i := 101) rfl
theorem tg_102 : (.instanceMethod y_S_openAsCopy : Cond) ∈ TG := List.mem_of_getElem? (i := 102) rfl
theorem tg_103 : (.selects "PageVault$Space" y_S_openAsCopy y_S_openAsCopy : Cond) ∈ TG := List.mem_of_getElem? (i := 103) rfl
theorem tg_104 : (.constant "PageVault" 158 1073741824 : Cond) ∈ TG := List.mem_of_getElem? (i := 104) rfl
theorem tg_105 : (.code y_V_isUsers b_V_isUsers 1 (some .boolean) : Cond) ∈ TG := List.mem_of_getElem? (i := 105) rfl
theorem tg_106 : (.methodLink "PageVault" 135 y_V_isUsers : Cond) ∈ TG := List.mem_of_getElem? (i := 106) rfl
theorem tg_107 : (.static y_V_isUsers : Cond) ∈ TG := List.mem_of_getElem? (i := 107) rfl
theorem tg_108 : (.code y_V_beginsPage b_V_beginsPage 1 (some .boolean) : Cond) ∈ TG := List.mem_of_getElem? (i := 108) rfl
theorem tg_109 : (.methodLink "PageVault" 64 y_V_beginsPage : Cond) ∈ TG := List.mem_of_getElem? (i := 109) rfl
theorem tg_110 : (.static y_V_beginsPage : Cond) ∈ TG := List.mem_of_getElem? (i := 110) rfl
theorem tg_111 : (.code y_V_areFlags b_V_areFlags 1 (some .boolean) : Cond) ∈ TG := List.mem_of_getElem? (i := 111) rfl
theorem tg_112 : (.methodLink "PageVault" 68 y_V_areFlags : Cond) ∈ TG := List.mem_of_getElem? (i := 112) rfl
theorem tg_113 : (.static y_V_areFlags : Cond) ∈ TG := List.mem_of_getElem? (i := 113) rfl
theorem tg_114 : (.code y_S_slotOf b_S_slotOf 1 (some .int) : Cond) ∈ TG := List.mem_of_getElem? (i := 114) rfl
theorem tg_115 : (.methodLink "PageVault$Space" 56 y_S_slotOf : Cond) ∈ TG := List.mem_of_getElem? (i := 115) rfl
theorem tg_116 : (.static y_S_slotOf : Cond) ∈ TG := List.mem_of_getElem? (i := 116) rfl
theorem tg_117 : (.code y_S_entryAt b_S_entryAt 2 (some .int) : Cond) ∈ TG := List.mem_of_getElem? (i := 117) rfl
theorem tg_118 : (.methodLink "PageVault" 71 y_S_entryAt : Cond) ∈ TG := List.mem_of_getElem? (i := 118) rfl
theorem tg_119 : (.instanceMethod y_S_entryAt : Cond) ∈ TG := List.mem_of_getElem? (i := 119) rfl
theorem tg_120 : (.selects "PageVault$Space" y_S_entryAt y_S_entryAt : Cond) ∈ TG := List.mem_of_getElem? (i := 120) rfl
theorem tg_121 : (.methodLink "PageVault$Space" 66 y_F_spare : Cond) ∈ TG := List.mem_of_getElem? (i := 121) rfl
theorem tg_122 : (.code y_S_addPage b_S_addPage 6 (some .int) : Cond) ∈ TG := List.mem_of_getElem? (i := 122) rfl
theorem tg_123 : (.methodLink "PageVault" 75 y_S_addPage : Cond) ∈ TG := List.mem_of_getElem? (i := 123) rfl
theorem tg_124 : (.instanceMethod y_S_addPage : Cond) ∈ TG := List.mem_of_getElem? (i := 124) rfl
theorem tg_125 : (.selects "PageVault$Space" y_S_addPage y_S_addPage : Cond) ∈ TG := List.mem_of_getElem? (i := 125) rfl
theorem tg_126 : (.methodLink "PageVault$Space" 50 Lib.Math.max.name : Cond) ∈ TG := List.mem_of_getElem? (i := 126) rfl
theorem tg_127 : (.static Lib.Math.max.name : Cond) ∈ TG := List.mem_of_getElem? (i := 127) rfl
theorem tg_128 : (.initialized "java/lang/Math" : Cond) ∈ TG := List.mem_of_getElem? (i := 128) rfl
theorem tg_129 : (.code Lib.Math.max.name Lib.Math.max.code 2 (some .int) : Cond) ∈ TG := List.mem_of_getElem? (i := 129) rfl
theorem tg_130 : (.code y_S_reach b_S_reach 2 none : Cond) ∈ TG := List.mem_of_getElem? (i := 130) rfl
theorem tg_131 : (.methodLink "PageVault" 78 y_S_reach : Cond) ∈ TG := List.mem_of_getElem? (i := 131) rfl
theorem tg_132 : (.instanceMethod y_S_reach : Cond) ∈ TG := List.mem_of_getElem? (i := 132) rfl
theorem tg_133 : (.selects "PageVault$Space" y_S_reach y_S_reach : Cond) ∈ TG := List.mem_of_getElem? (i := 133) rfl
theorem tg_134 : (.methodLink "PageVault" 81 y_V_frameOf : Cond) ∈ TG := List.mem_of_getElem? (i := 134) rfl
theorem tg_135 : (.methodLink "PageVault" 84 y_V_entryOf : Cond) ∈ TG := List.mem_of_getElem? (i := 135) rfl
theorem tg_136 : (.code y_S_setEntry b_S_setEntry 3 none : Cond) ∈ TG := List.mem_of_getElem? (i := 136) rfl
theorem tg_137 : (.methodLink "PageVault" 87 y_S_setEntry : Cond) ∈ TG := List.mem_of_getElem? (i := 137) rfl
theorem tg_138 : (.instanceMethod y_S_setEntry : Cond) ∈ TG := List.mem_of_getElem? (i := 138) rfl
theorem tg_139 : (.selects "PageVault$Space" y_S_setEntry y_S_setEntry : Cond) ∈ TG := List.mem_of_getElem? (i := 139) rfl
theorem tg_140 : (.code y_S_length b_S_length 1 (some .int) : Cond) ∈ TG := List.mem_of_getElem? (i := 140) rfl
theorem tg_141 : (.methodLink "PageVault" 91 y_S_length : Cond) ∈ TG := List.mem_of_getElem? (i := 141) rfl
theorem tg_142 : (.instanceMethod y_S_length : Cond) ∈ TG := List.mem_of_getElem? (i := 142) rfl
theorem tg_143 : (.selects "PageVault$Space" y_S_length y_S_length : Cond) ∈ TG := List.mem_of_getElem? (i := 143) rfl
theorem tg_144 : (.constantLong "PageVault" 94 1073741824 : Cond) ∈ TG := List.mem_of_getElem? (i := 144) rfl
theorem tg_145 : (.code y_S_resize b_S_resize 2 none : Cond) ∈ TG := List.mem_of_getElem? (i := 145) rfl
theorem tg_146 : (.methodLink "PageVault" 96 y_S_resize : Cond) ∈ TG := List.mem_of_getElem? (i := 146) rfl
theorem tg_147 : (.instanceMethod y_S_resize : Cond) ∈ TG := List.mem_of_getElem? (i := 147) rfl
theorem tg_148 : (.selects "PageVault$Space" y_S_resize y_S_resize : Cond) ∈ TG := List.mem_of_getElem? (i := 148) rfl
theorem tg_149 : (.fieldLink "PageVault" 103 "PageVault" "latestTrap" "I" : Cond) ∈ TG := List.mem_of_getElem? (i := 149) rfl
theorem tg_150 : (.code y_V_isStraight b_V_isStraight 2 (some .boolean) : Cond) ∈ TG := List.mem_of_getElem? (i := 150) rfl
theorem tg_151 : (.methodLink "PageVault" 107 y_V_isStraight : Cond) ∈ TG := List.mem_of_getElem? (i := 151) rfl
theorem tg_152 : (.static y_V_isStraight : Cond) ∈ TG := List.mem_of_getElem? (i := 152) rfl
theorem tg_153 : (.code y_V_trapped b_V_trapped 2 (some .int) : Cond) ∈ TG := List.mem_of_getElem? (i := 153) rfl
theorem tg_154 : (.methodLink "PageVault" 111 y_V_trapped : Cond) ∈ TG := List.mem_of_getElem? (i := 154) rfl
theorem tg_155 : (.instanceMethod y_V_trapped : Cond) ∈ TG := List.mem_of_getElem? (i := 155) rfl
theorem tg_156 : (.selects "PageVault" y_V_trapped y_V_trapped : Cond) ∈ TG := List.mem_of_getElem? (i := 156) rfl
theorem tg_157 : (.code y_V_touch b_V_touch 6 (some .int) : Cond) ∈ TG := List.mem_of_getElem? (i := 157) rfl
theorem tg_158 : (.methodLink "PageVault" 138 y_V_touch : Cond) ∈ TG := List.mem_of_getElem? (i := 158) rfl
theorem tg_159 : (.instanceMethod y_V_touch : Cond) ∈ TG := List.mem_of_getElem? (i := 159) rfl
theorem tg_160 : (.selects "PageVault" y_V_touch y_V_touch : Cond) ∈ TG := List.mem_of_getElem? (i := 160) rfl
theorem tg_161 : (.code y_F_wordOf b_F_wordOf 1 (some .int) : Cond) ∈ TG := List.mem_of_getElem? (i := 161) rfl
theorem tg_162 : (.methodLink "PageVault$Frames" 40 y_F_wordOf : Cond) ∈ TG := List.mem_of_getElem? (i := 162) rfl
theorem tg_163 : (.static y_F_wordOf : Cond) ∈ TG := List.mem_of_getElem? (i := 163) rfl
theorem tg_164 : (.methodLink "PageVault$Frames" 44 y_F_word : Cond) ∈ TG := List.mem_of_getElem? (i := 164) rfl
theorem tg_165 : (.code y_F_bitOf b_F_bitOf 1 (some .int) : Cond) ∈ TG := List.mem_of_getElem? (i := 165) rfl
theorem tg_166 : (.methodLink "PageVault$Frames" 48 y_F_bitOf : Cond) ∈ TG := List.mem_of_getElem? (i := 166) rfl
theorem tg_167 : (.static y_F_bitOf : Cond) ∈ TG := List.mem_of_getElem? (i := 167) rfl
theorem tg_168 : (.code y_F_mask b_F_mask 1 (some .int) : Cond) ∈ TG := List.mem_of_getElem? (i := 168) rfl
theorem tg_169 : (.methodLink "PageVault$Frames" 51 y_F_mask : Cond) ∈ TG := List.mem_of_getElem? (i := 169) rfl
theorem tg_170 : (.static y_F_mask : Cond) ∈ TG := List.mem_of_getElem? (i := 170) rfl
theorem tg_171 : (.code y_F_read b_F_read 4 (some .int) : Cond) ∈ TG := List.mem_of_getElem? (i := 171) rfl
theorem tg_172 : (.methodLink "PageVault" 142 y_F_read : Cond) ∈ TG := List.mem_of_getElem? (i := 172) rfl
theorem tg_173 : (.instanceMethod y_F_read : Cond) ∈ TG := List.mem_of_getElem? (i := 173) rfl
theorem tg_174 : (.selects "PageVault$Frames" y_F_read y_F_read : Cond) ∈ TG := List.mem_of_getElem? (i := 174) rfl
theorem tg_175 : (.code y_F_holders b_F_holders 2 (some .int) : Cond) ∈ TG := List.mem_of_getElem? (i := 175) rfl
theorem tg_176 : (.methodLink "PageVault" 128 y_F_holders : Cond) ∈ TG := List.mem_of_getElem? (i := 176) rfl
theorem tg_177 : (.instanceMethod y_F_holders : Cond) ∈ TG := List.mem_of_getElem? (i := 177) rfl
theorem tg_178 : (.selects "PageVault$Frames" y_F_holders y_F_holders : Cond) ∈ TG := List.mem_of_getElem? (i := 178) rfl
theorem tg_179 : (.methodLink "PageVault$Space" 75 y_S_entryAt : Cond) ∈ TG := List.mem_of_getElem? (i := 179) rfl
theorem tg_180 : (.code y_V_flagsOf b_V_flagsOf 1 (some .int) : Cond) ∈ TG := List.mem_of_getElem? (i := 180) rfl
theorem tg_181 : (.static y_V_flagsOf : Cond) ∈ TG := List.mem_of_getElem? (i := 181) rfl
theorem tg_182 : (.methodLink "PageVault$Space" 88 y_S_setEntry : Cond) ∈ TG := List.mem_of_getElem? (i := 182) rfl
theorem tg_183 : (.code y_S_partPage b_S_partPage 4 (some .int) : Cond) ∈ TG := List.mem_of_getElem? (i := 183) rfl
theorem tg_184 : (.methodLink "PageVault" 152 y_S_partPage : Cond) ∈ TG := List.mem_of_getElem? (i := 184) rfl
theorem tg_185 : (.instanceMethod y_S_partPage : Cond) ∈ TG := List.mem_of_getElem? (i := 185) rfl
theorem tg_186 : (.selects "PageVault$Space" y_S_partPage y_S_partPage : Cond) ∈ TG := List.mem_of_getElem? (i := 186) rfl
theorem tg_187 : (.code y_V_frameOrFull b_V_frameOrFull 2 (some .int) : Cond) ∈ TG := List.mem_of_getElem? (i := 187) rfl
theorem tg_188 : (.methodLink "PageVault" 155 y_V_frameOrFull : Cond) ∈ TG := List.mem_of_getElem? (i := 188) rfl
theorem tg_189 : (.instanceMethod y_V_frameOrFull : Cond) ∈ TG := List.mem_of_getElem? (i := 189) rfl
theorem tg_190 : (.selects "PageVault" y_V_frameOrFull y_V_frameOrFull : Cond) ∈ TG := List.mem_of_getElem? (i := 190) rfl
theorem tg_191 : (.code y_V_touchAbsent b_V_touchAbsent 4 (some .int) : Cond) ∈ TG := List.mem_of_getElem? (i := 191) rfl
theorem tg_192 : (.methodLink "PageVault" 149 y_V_touchAbsent : Cond) ∈ TG := List.mem_of_getElem? (i := 192) rfl
theorem tg_193 : (.instanceMethod y_V_touchAbsent : Cond) ∈ TG := List.mem_of_getElem? (i := 193) rfl
theorem tg_194 : (.selects "PageVault" y_V_touchAbsent y_V_touchAbsent : Cond) ∈ TG := List.mem_of_getElem? (i := 194) rfl
theorem tg_195 : (.code y_V_number b_V_number 6 (some .int) : Cond) ∈ TG := List.mem_of_getElem? (i := 195) rfl
theorem tg_196 : (.methodLink "PageVault" 99 y_V_number : Cond) ∈ TG := List.mem_of_getElem? (i := 196) rfl
theorem tg_197 : (.instanceMethod y_V_number : Cond) ∈ TG := List.mem_of_getElem? (i := 197) rfl
theorem tg_198 : (.selects "PageVault" y_V_number y_V_number : Cond) ∈ TG := List.mem_of_getElem? (i := 198) rfl
theorem tg_199 : (.methodLink "PageVault$Frames" 54 y_F_setWord : Cond) ∈ TG := List.mem_of_getElem? (i := 199) rfl
theorem tg_200 : (.code y_F_write b_F_write 6 none : Cond) ∈ TG := List.mem_of_getElem? (i := 200) rfl
theorem tg_201 : (.methodLink "PageVault" 146 y_F_write : Cond) ∈ TG := List.mem_of_getElem? (i := 201) rfl
theorem tg_202 : (.instanceMethod y_F_write : Cond) ∈ TG := List.mem_of_getElem? (i := 202) rfl
theorem tg_203 : (.selects "PageVault$Frames" y_F_write y_F_write : Cond) ∈ TG := List.mem_of_getElem? (i := 203) rfl
theorem tg_204 : (.code y_V_write b_V_write 6 (some .boolean) : Cond) ∈ TG := List.mem_of_getElem? (i := 204) rfl
theorem tg_205 : (.methodLink "PageVault" 114 y_V_write : Cond) ∈ TG := List.mem_of_getElem? (i := 205) rfl
theorem tg_206 : (.instanceMethod y_V_write : Cond) ∈ TG := List.mem_of_getElem? (i := 206) rfl
theorem tg_207 : (.selects "PageVault" y_V_write y_V_write : Cond) ∈ TG := List.mem_of_getElem? (i := 207) rfl
theorem tg_208 : (.fieldLink "PageVault" 36 "PageVault" "buffer" "[I" : Cond) ∈ TG := List.mem_of_getElem? (i := 208) rfl
theorem tg_209 : (.code y_V_readByte b_V_readByte 4 (some .int) : Cond) ∈ TG := List.mem_of_getElem? (i := 209) rfl
theorem tg_210 : (.methodLink "PageVault" 118 y_V_readByte : Cond) ∈ TG := List.mem_of_getElem? (i := 210) rfl
theorem tg_211 : (.instanceMethod y_V_readByte : Cond) ∈ TG := List.mem_of_getElem? (i := 211) rfl
theorem tg_212 : (.selects "PageVault" y_V_readByte y_V_readByte : Cond) ∈ TG := List.mem_of_getElem? (i := 212) rfl
theorem tg_213 : (.code y_V_entryIn b_V_entryIn 4 (some .int) : Cond) ∈ TG := List.mem_of_getElem? (i := 213) rfl
theorem tg_214 : (.methodLink "PageVault" 122 y_V_entryIn : Cond) ∈ TG := List.mem_of_getElem? (i := 214) rfl
theorem tg_215 : (.instanceMethod y_V_entryIn : Cond) ∈ TG := List.mem_of_getElem? (i := 215) rfl
theorem tg_216 : (.selects "PageVault" y_V_entryIn y_V_entryIn : Cond) ∈ TG := List.mem_of_getElem? (i := 216) rfl
theorem tg_217 : (.methodLink "PageVault" 125 y_V_flagsOf : Cond) ∈ TG := List.mem_of_getElem? (i := 217) rfl
theorem tg_218 : (.laysFinal "PageVault" "PageVault" "frames" "LPageVault$Frames;" : Cond) ∈ TG := List.mem_of_getElem? (i := 218) rfl
theorem tg_219 : (.laysFinal "PageVault" "PageVault" "spaces" "[LPageVault$Space;" : Cond) ∈ TG := List.mem_of_getElem? (i := 219) rfl
theorem tg_220 : (.laysFinal "PageVault" "PageVault" "buffer" "[I" : Cond) ∈ TG := List.mem_of_getElem? (i := 220) rfl
theorem tg_221 : (.lays "PageVault" "PageVault" "latestTrap" "I" : Cond) ∈ TG := List.mem_of_getElem? (i := 221) rfl
theorem tg_222 : (.laysFinal "PageVault$Frames" "PageVault$Frames" "words" "[[I" : Cond) ∈ TG := List.mem_of_getElem? (i := 222) rfl
theorem tg_223 : (.laysFinal "PageVault$Frames" "PageVault$Frames" "holders" "[I" : Cond) ∈ TG := List.mem_of_getElem? (i := 223) rfl
theorem tg_224 : (.lays "PageVault$Frames" "PageVault$Frames" "spare" "I" : Cond) ∈ TG := List.mem_of_getElem? (i := 224) rfl
theorem tg_225 : (.laysFinal "PageVault$Space" "PageVault$Space" "frames" "LPageVault$Frames;" : Cond) ∈ TG := List.mem_of_getElem? (i := 225) rfl
theorem tg_226 : (.lays "PageVault$Space" "PageVault$Space" "root" "I" : Cond) ∈ TG := List.mem_of_getElem? (i := 226) rfl
theorem tg_227 : (.lays "PageVault$Space" "PageVault$Space" "length" "I" : Cond) ∈ TG := List.mem_of_getElem? (i := 227) rfl
theorem tg_228 : (.lays "PageVaultModel" "PageVaultModel" "frames" "I" : Cond) ∈ TG := List.mem_of_getElem? (i := 228) rfl
theorem tg_229 : (.lays "PageVaultModel" "PageVaultModel" "lastTrap" "I" : Cond) ∈ TG := List.mem_of_getElem? (i := 229) rfl
theorem tg_230 : (.laysFinal "PageVaultModel" "PageVaultModel" "alive" "[Z" : Cond) ∈ TG := List.mem_of_getElem? (i := 230) rfl
theorem tg_231 : (.laysFinal "PageVaultModel" "PageVaultModel" "ends" "[I" : Cond) ∈ TG := List.mem_of_getElem? (i := 231) rfl
theorem tg_232 : (.laysFinal "PageVaultModel" "PageVaultModel" "pageSpace" "[I" : Cond) ∈ TG := List.mem_of_getElem? (i := 232) rfl
theorem tg_233 : (.laysFinal "PageVaultModel" "PageVaultModel" "pageNumber" "[I" : Cond) ∈ TG := List.mem_of_getElem? (i := 233) rfl
theorem tg_234 : (.laysFinal "PageVaultModel" "PageVaultModel" "pageFlags" "[I" : Cond) ∈ TG := List.mem_of_getElem? (i := 234) rfl
theorem tg_235 : (.laysFinal "PageVaultModel" "PageVaultModel" "pageKin" "[I" : Cond) ∈ TG := List.mem_of_getElem? (i := 235) rfl
theorem tg_236 : (.lays "PageVaultModel" "PageVaultModel" "pages" "I" : Cond) ∈ TG := List.mem_of_getElem? (i := 236) rfl
theorem tg_237 : (.lays "PageVaultModel" "PageVaultModel" "kins" "I" : Cond) ∈ TG := List.mem_of_getElem? (i := 237) rfl
theorem tg_238 : (.laysFinal "PageVaultModel" "PageVaultModel" "regionSpace" "[I" : Cond) ∈ TG := List.mem_of_getElem? (i := 238) rfl
theorem tg_239 : (.laysFinal "PageVaultModel" "PageVaultModel" "regionNumber" "[I" : Cond) ∈ TG := List.mem_of_getElem? (i := 239) rfl
theorem tg_240 : (.lays "PageVaultModel" "PageVaultModel" "regions" "I" : Cond) ∈ TG := List.mem_of_getElem? (i := 240) rfl
theorem tg_241 : (.laysFinal "PageVaultModel" "PageVaultModel" "deed" "[I" : Cond) ∈ TG := List.mem_of_getElem? (i := 241) rfl
theorem tg_242 : (.laysFinal "PageVaultModel" "PageVaultModel" "who" "[I" : Cond) ∈ TG := List.mem_of_getElem? (i := 242) rfl
theorem tg_243 : (.laysFinal "PageVaultModel" "PageVaultModel" "where" "[I" : Cond) ∈ TG := List.mem_of_getElem? (i := 243) rfl
theorem tg_244 : (.laysFinal "PageVaultModel" "PageVaultModel" "much" "[I" : Cond) ∈ TG := List.mem_of_getElem? (i := 244) rfl
theorem tg_245 : (.laysFinal "PageVaultModel" "PageVaultModel" "what" "[I" : Cond) ∈ TG := List.mem_of_getElem? (i := 245) rfl
theorem tg_246 : (.lays "PageVaultModel" "PageVaultModel" "deeds" "I" : Cond) ∈ TG := List.mem_of_getElem? (i := 246) rfl
theorem ti_0 : (.fieldLink "PageVault" 29 "PageVault" "spaces" "[LPageVault$Space;" : Cond) ∈ lw_tbl := List.mem_append_right _ (List.mem_append_left _ (List.mem_of_getElem? (i := 59) rfl : (.fieldLink "PageVault" 29 "PageVault" "spaces" "[LPageVault$Space;" : Cond) ∈ tables_1_1))
theorem ti_1 : (.fieldLink "PageVault$Space" 15 "PageVault$Space" "root" "I" : Cond) ∈ lw_tbl := List.mem_append_right _ (List.mem_append_left _ (List.mem_of_getElem? (i := 49) rfl : (.fieldLink "PageVault$Space" 15 "PageVault$Space" "root" "I" : Cond) ∈ tables_1_1))
theorem ti_2 : (.code y_S_isOpen b_S_isOpen 1 (some .boolean) : Cond) ∈ lw_tbl := List.mem_append_right _ (List.mem_append_left _ (List.mem_of_getElem? (i := 82) rfl : (.code y_S_isOpen b_S_isOpen 1 (some .boolean) : Cond) ∈ tables_1_1))
theorem ti_3 : (.initialized "PageVault$Space" : Cond) ∈ lw_tbl := List.mem_append_right _ (List.mem_append_left _ (List.mem_of_getElem? (i := 4) rfl : (.initialized "PageVault$Space" : Cond) ∈ tables_1_1))
theorem ti_4 : (.methodLink "PageVault" 131 y_S_isOpen : Cond) ∈ lw_tbl := List.mem_append_right _ (List.mem_append_left _ (List.mem_of_getElem? (i := 79) rfl : (.methodLink "PageVault" 131 y_S_isOpen : Cond) ∈ tables_1_1))
theorem ti_5 : (.instanceMethod y_S_isOpen : Cond) ∈ lw_tbl := List.mem_append_right _ (List.mem_append_left _ (List.mem_of_getElem? (i := 80) rfl : (.instanceMethod y_S_isOpen : Cond) ∈ tables_1_1))
theorem ti_6 : (.selects "PageVault$Space" y_S_isOpen y_S_isOpen : Cond) ∈ lw_tbl := List.mem_append_right _ (List.mem_append_left _ (List.mem_of_getElem? (i := 81) rfl : (.selects "PageVault$Space" y_S_isOpen y_S_isOpen : Cond) ∈ tables_1_1))
theorem ti_7 : (.code y_V_leastUnused b_V_leastUnused 2 (some .int) : Cond) ∈ lw_tbl := List.mem_append_right _ (List.mem_append_left _ (List.mem_of_getElem? (i := 78) rfl : (.code y_V_leastUnused b_V_leastUnused 2 (some .int) : Cond) ∈ tables_1_1))
theorem ti_8 : (.initialized "PageVault" : Cond) ∈ lw_tbl := List.mem_append_right _ (List.mem_append_left _ (List.mem_of_getElem? (i := 1) rfl : (.initialized "PageVault" : Cond) ∈ tables_1_1))
theorem ti_9 : (.methodLink "PageVault" 40 y_V_leastUnused : Cond) ∈ lw_tbl := List.mem_append_right _ (List.mem_append_left _ (List.mem_of_getElem? (i := 75) rfl : (.methodLink "PageVault" 40 y_V_leastUnused : Cond) ∈ tables_1_1))
theorem ti_10 : (.instanceMethod y_V_leastUnused : Cond) ∈ lw_tbl := List.mem_append_right _ (List.mem_append_left _ (List.mem_of_getElem? (i := 77) rfl : (.instanceMethod y_V_leastUnused : Cond) ∈ tables_1_1))
theorem ti_11 : (.selects "PageVault" y_V_leastUnused y_V_leastUnused : Cond) ∈ lw_tbl := List.mem_append_left _ (List.mem_of_getElem? (i := 0) rfl)
theorem ti_12 : (.fieldLink "PageVault" 23 "PageVault" "frames" "LPageVault$Frames;" : Cond) ∈ lw_tbl := List.mem_append_right _ (List.mem_append_left _ (List.mem_of_getElem? (i := 58) rfl : (.fieldLink "PageVault" 23 "PageVault" "frames" "LPageVault$Frames;" : Cond) ∈ tables_1_1))
theorem ti_13 : (.fieldLink "PageVault$Frames" 20 "PageVault$Frames" "spare" "I" : Cond) ∈ lw_tbl := List.mem_append_right _ (List.mem_append_left _ (List.mem_of_getElem? (i := 32) rfl : (.fieldLink "PageVault$Frames" 20 "PageVault$Frames" "spare" "I" : Cond) ∈ tables_1_1))
theorem ti_14 : (.code y_F_spare b_F_spare 1 (some .int) : Cond) ∈ lw_tbl := List.mem_append_right _ (List.mem_append_left _ (List.mem_of_getElem? (i := 86) rfl : (.code y_F_spare b_F_spare 1 (some .int) : Cond) ∈ tables_1_1))
theorem ti_15 : (.initialized "PageVault$Frames" : Cond) ∈ lw_tbl := List.mem_append_right _ (List.mem_append_left _ (List.mem_of_getElem? (i := 2) rfl : (.initialized "PageVault$Frames" : Cond) ∈ tables_1_1))
theorem ti_16 : (.methodLink "PageVault" 44 y_F_spare : Cond) ∈ lw_tbl := List.mem_append_right _ (List.mem_append_left _ (List.mem_of_getElem? (i := 83) rfl : (.methodLink "PageVault" 44 y_F_spare : Cond) ∈ tables_1_1))
theorem ti_17 : (.instanceMethod y_F_spare : Cond) ∈ lw_tbl := List.mem_append_right _ (List.mem_append_left _ (List.mem_of_getElem? (i := 84) rfl : (.instanceMethod y_F_spare : Cond) ∈ tables_1_1))
theorem ti_18 : (.selects "PageVault$Frames" y_F_spare y_F_spare : Cond) ∈ lw_tbl := List.mem_append_right _ (List.mem_append_left _ (List.mem_of_getElem? (i := 85) rfl : (.selects "PageVault$Frames" y_F_spare y_F_spare : Cond) ∈ tables_1_1))
theorem ti_19 : (.fieldLink "PageVault$Space" 9 "PageVault$Space" "frames" "LPageVault$Frames;" : Cond) ∈ lw_tbl := List.mem_append_right _ (List.mem_append_left _ (List.mem_of_getElem? (i := 48) rfl : (.fieldLink "PageVault$Space" 9 "PageVault$Space" "frames" "LPageVault$Frames;" : Cond) ∈ tables_1_1))
theorem ti_20 : (.fieldLink "PageVault$Frames" 16 "PageVault$Frames" "holders" "[I" : Cond) ∈ lw_tbl := List.mem_append_right _ (List.mem_append_left _ (List.mem_of_getElem? (i := 31) rfl : (.fieldLink "PageVault$Frames" 16 "PageVault$Frames" "holders" "[I" : Cond) ∈ tables_1_1))
theorem ti_21 : (.fieldLink "PageVault$Frames" 11 "PageVault$Frames" "words" "[[I" : Cond) ∈ lw_tbl := List.mem_append_right _ (List.mem_append_left _ (List.mem_of_getElem? (i := 30) rfl : (.fieldLink "PageVault$Frames" 11 "PageVault$Frames" "words" "[[I" : Cond) ∈ tables_1_1))
theorem ti_22 : (.code y_A_fill b_A_fill 4 none : Cond) ∈ lw_tbl := List.mem_append_right _ (List.mem_append_left _ (List.mem_of_getElem? (i := 97) rfl : (.code y_A_fill b_A_fill 4 none : Cond) ∈ tables_1_1))
theorem ti_23 : (.initialized "java/util/Arrays" : Cond) ∈ lw_tbl := List.mem_append_right _ (List.mem_append_left _ (List.mem_of_getElem? (i := 6) rfl : (.initialized "java/util/Arrays" : Cond) ∈ tables_1_1))
theorem ti_24 : (.methodLink "PageVault$Frames" 24 y_A_fill : Cond) ∈ lw_tbl := List.mem_append_right _ (List.mem_append_left _ (List.mem_of_getElem? (i := 95) rfl : (.methodLink "PageVault$Frames" 24 y_A_fill : Cond) ∈ tables_1_1))
theorem ti_25 : (.static y_A_fill : Cond) ∈ lw_tbl := List.mem_append_right _ (List.mem_append_left _ (List.mem_of_getElem? (i := 96) rfl : (.static y_A_fill : Cond) ∈ tables_1_1))
theorem ti_26 : (.code y_F_take b_F_take 2 (some .int) : Cond) ∈ lw_tbl := List.mem_append_right _ (List.mem_append_left _ (List.mem_of_getElem? (i := 94) rfl : (.code y_F_take b_F_take 2 (some .int) : Cond) ∈ tables_1_1))
theorem ti_27 : (.methodLink "PageVault$Space" 22 y_F_take : Cond) ∈ lw_tbl := List.mem_append_right _ (List.mem_append_left _ (List.mem_of_getElem? (i := 91) rfl : (.methodLink "PageVault$Space" 22 y_F_take : Cond) ∈ tables_1_1))
theorem ti_28 : (.instanceMethod y_F_take : Cond) ∈ lw_tbl := List.mem_append_right _ (List.mem_append_left _ (List.mem_of_getElem? (i := 92) rfl : (.instanceMethod y_F_take : Cond) ∈ tables_1_1))
theorem ti_29 : (.selects "PageVault$Frames" y_F_take y_F_take : Cond) ∈ lw_tbl := List.mem_append_right _ (List.mem_append_left _ (List.mem_of_getElem? (i := 93) rfl : (.selects "PageVault$Frames" y_F_take y_F_take : Cond) ∈ tables_1_1))
theorem ti_30 : (.fieldLink "PageVault$Space" 19 "PageVault$Space" "length" "I" : Cond) ∈ lw_tbl := List.mem_append_right _ (List.mem_append_left _ (List.mem_of_getElem? (i := 50) rfl : (.fieldLink "PageVault$Space" 19 "PageVault$Space" "length" "I" : Cond) ∈ tables_1_1))
theorem ti_31 : (.code y_S_open b_S_open 2 none : Cond) ∈ lw_tbl := List.mem_append_right _ (List.mem_append_left _ (List.mem_of_getElem? (i := 90) rfl : (.code y_S_open b_S_open 2 none : Cond) ∈ tables_1_1))
theorem ti_32 : (.methodLink "PageVault" 47 y_S_open : Cond) ∈ lw_tbl := List.mem_append_right _ (List.mem_append_left _ (List.mem_of_getElem? (i := 87) rfl : (.methodLink "PageVault" 47 y_S_open : Cond) ∈ tables_1_1))
theorem ti_33 : (.instanceMethod y_S_open : Cond) ∈ lw_tbl := List.mem_append_right _ (List.mem_append_left _ (List.mem_of_getElem? (i := 88) rfl : (.instanceMethod y_S_open : Cond) ∈ tables_1_1))
theorem ti_34 : (.selects "PageVault$Space" y_S_open y_S_open : Cond) ∈ lw_tbl := List.mem_append_right _ (List.mem_append_left _ (List.mem_of_getElem? (i := 89) rfl : (.selects "PageVault$Space" y_S_open y_S_open : Cond) ∈ tables_1_1))
theorem ti_35 : (.code y_V_find b_V_find 2 (some (.object "PageVault$Space")) : Cond) ∈ lw_tbl := List.mem_append_right _ (List.mem_append_left _ (List.mem_of_getElem? (i := 105) rfl : (.code y_V_find b_V_find 2 (some (.object "PageVault$Space")) : Cond) ∈ tables_1_1))
theorem ti_36 : (.methodLink "PageVault" 50 y_V_find : Cond) ∈ lw_tbl := List.mem_append_right _ (List.mem_append_left _ (List.mem_of_getElem? (i := 102) rfl : (.methodLink "PageVault" 50 y_V_find : Cond) ∈ tables_1_1))
theorem ti_37 : (.instanceMethod y_V_find : Cond) ∈ lw_tbl := List.mem_append_right _ (List.mem_append_left _ (List.mem_of_getElem? (i := 104) rfl : (.instanceMethod y_V_find : Cond) ∈ tables_1_1))
theorem ti_38 : (.selects "PageVault" y_V_find y_V_find : Cond) ∈ lw_tbl := List.mem_append_left _ (List.mem_of_getElem? (i := 1) rfl)
theorem ti_39 : (.code y_F_isFrame b_F_isFrame 2 (some .boolean) : Cond) ∈ lw_tbl := List.mem_append_right _ (List.mem_append_left _ (List.mem_of_getElem? (i := 132) rfl : (.code y_F_isFrame b_F_isFrame 2 (some .boolean) : Cond) ∈ tables_1_1))
theorem ti_40 : (.methodLink "PageVault$Frames" 30 y_F_isFrame : Cond) ∈ lw_tbl := List.mem_append_right _ (List.mem_append_left _ (List.mem_of_getElem? (i := 129) rfl : (.methodLink "PageVault$Frames" 30 y_F_isFrame : Cond) ∈ tables_1_1))
theorem ti_41 : (.instanceMethod y_F_isFrame : Cond) ∈ lw_tbl := List.mem_append_right _ (List.mem_append_left _ (List.mem_of_getElem? (i := 131) rfl : (.instanceMethod y_F_isFrame : Cond) ∈ tables_1_1))
theorem ti_42 : (.selects "PageVault$Frames" y_F_isFrame y_F_isFrame : Cond) ∈ lw_tbl := List.mem_append_left _ (List.mem_of_getElem? (i := 4) rfl)
theorem ti_43 : (.code y_F_release b_F_release 2 none : Cond) ∈ lw_tbl := List.mem_append_right _ (List.mem_append_left _ (List.mem_of_getElem? (i := 128) rfl : (.code y_F_release b_F_release 2 none : Cond) ∈ tables_1_1))
theorem ti_44 : (.methodLink "PageVault$Space" 36 y_F_release : Cond) ∈ lw_tbl := List.mem_append_right _ (List.mem_append_left _ (List.mem_of_getElem? (i := 125) rfl : (.methodLink "PageVault$Space" 36 y_F_release : Cond) ∈ tables_1_1))
theorem ti_45 : (.instanceMethod y_F_release : Cond) ∈ lw_tbl := List.mem_append_right _ (List.mem_append_left _ (List.mem_of_getElem? (i := 126) rfl : (.instanceMethod y_F_release : Cond) ∈ tables_1_1))
theorem ti_46 : (.selects "PageVault$Frames" y_F_release y_F_release : Cond) ∈ lw_tbl := List.mem_append_right _ (List.mem_append_left _ (List.mem_of_getElem? (i := 127) rfl : (.selects "PageVault$Frames" y_F_release y_F_release : Cond) ∈ tables_1_1))
theorem ti_47 : (.code y_F_word b_F_word 3 (some .int) : Cond) ∈ lw_tbl := List.mem_append_right _ (List.mem_append_left _ (List.mem_of_getElem? (i := 121) rfl : (.code y_F_word b_F_word 3 (some .int) : Cond) ∈ tables_1_1))
theorem ti_48 : (.methodLink "PageVault$Space" 59 y_F_word : Cond) ∈ lw_tbl := List.mem_append_right _ (List.mem_append_left _ (List.mem_of_getElem? (i := 118) rfl : (.methodLink "PageVault$Space" 59 y_F_word : Cond) ∈ tables_1_1))
theorem ti_49 : (.instanceMethod y_F_word : Cond) ∈ lw_tbl := List.mem_append_right _ (List.mem_append_left _ (List.mem_of_getElem? (i := 119) rfl : (.instanceMethod y_F_word : Cond) ∈ tables_1_1))
theorem ti_50 : (.selects "PageVault$Frames" y_F_word y_F_word : Cond) ∈ lw_tbl := List.mem_append_right _ (List.mem_append_left _ (List.mem_of_getElem? (i := 120) rfl : (.selects "PageVault$Frames" y_F_word y_F_word : Cond) ∈ tables_1_1))
theorem ti_51 : (.code y_V_frameOf b_V_frameOf 1 (some .int) : Cond) ∈ lw_tbl := List.mem_append_right _ (List.mem_append_left _ (List.mem_of_getElem? (i := 124) rfl : (.code y_V_frameOf b_V_frameOf 1 (some .int) : Cond) ∈ tables_1_1))
theorem ti_52 : (.static y_V_frameOf : Cond) ∈ lw_tbl := List.mem_append_right _ (List.mem_append_left _ (List.mem_of_getElem? (i := 123) rfl : (.static y_V_frameOf : Cond) ∈ tables_1_1))
theorem ti_53 : (.code y_S_tableOf b_S_tableOf 2 (some .int) : Cond) ∈ lw_tbl := List.mem_append_right _ (List.mem_append_left _ (List.mem_of_getElem? (i := 117) rfl : (.code y_S_tableOf b_S_tableOf 2 (some .int) : Cond) ∈ tables_1_1))
theorem ti_54 : (.methodLink "PageVault$Space" 32 y_S_tableOf : Cond) ∈ lw_tbl := List.mem_append_right _ (List.mem_append_left _ (List.mem_of_getElem? (i := 114) rfl : (.methodLink "PageVault$Space" 32 y_S_tableOf : Cond) ∈ tables_1_1))
theorem ti_55 : (.instanceMethod y_S_tableOf : Cond) ∈ lw_tbl := List.mem_append_right _ (List.mem_append_left _ (List.mem_of_getElem? (i := 116) rfl : (.instanceMethod y_S_tableOf : Cond) ∈ tables_1_1))
theorem ti_56 : (.selects "PageVault$Space" y_S_tableOf y_S_tableOf : Cond) ∈ lw_tbl := List.mem_append_left _ (List.mem_of_getElem? (i := 3) rfl)
theorem ti_57 : (.code y_F_setWord b_F_setWord 4 none : Cond) ∈ lw_tbl := List.mem_append_right _ (List.mem_append_left _ (List.mem_of_getElem? (i := 136) rfl : (.code y_F_setWord b_F_setWord 4 none : Cond) ∈ tables_1_1))
theorem ti_58 : (.methodLink "PageVault$Space" 62 y_F_setWord : Cond) ∈ lw_tbl := List.mem_append_right _ (List.mem_append_left _ (List.mem_of_getElem? (i := 133) rfl : (.methodLink "PageVault$Space" 62 y_F_setWord : Cond) ∈ tables_1_1))
theorem ti_59 : (.instanceMethod y_F_setWord : Cond) ∈ lw_tbl := List.mem_append_right _ (List.mem_append_left _ (List.mem_of_getElem? (i := 134) rfl : (.instanceMethod y_F_setWord : Cond) ∈ tables_1_1))
theorem ti_60 : (.selects "PageVault$Frames" y_F_setWord y_F_setWord : Cond) ∈ lw_tbl := List.mem_append_right _ (List.mem_append_left _ (List.mem_of_getElem? (i := 135) rfl : (.selects "PageVault$Frames" y_F_setWord y_F_setWord : Cond) ∈ tables_1_1))
theorem ti_61 : (.code y_S_removePagesFrom b_S_removePagesFrom 7 none : Cond) ∈ lw_tbl := List.mem_append_right _ (List.mem_append_left _ (List.mem_of_getElem? (i := 113) rfl : (.code y_S_removePagesFrom b_S_removePagesFrom 7 none : Cond) ∈ tables_1_1))
theorem ti_62 : (.methodLink "PageVault$Space" 28 y_S_removePagesFrom : Cond) ∈ lw_tbl := List.mem_append_right _ (List.mem_append_left _ (List.mem_of_getElem? (i := 110) rfl : (.methodLink "PageVault$Space" 28 y_S_removePagesFrom : Cond) ∈ tables_1_1))
theorem ti_63 : (.instanceMethod y_S_removePagesFrom : Cond) ∈ lw_tbl := List.mem_append_right _ (List.mem_append_left _ (List.mem_of_getElem? (i := 112) rfl : (.instanceMethod y_S_removePagesFrom : Cond) ∈ tables_1_1))
theorem ti_64 : (.selects "PageVault$Space" y_S_removePagesFrom y_S_removePagesFrom : Cond) ∈ lw_tbl := List.mem_append_left _ (List.mem_of_getElem? (i := 2) rfl)
theorem ti_65 : (.code y_S_close b_S_close 2 none : Cond) ∈ lw_tbl := List.mem_append_right _ (List.mem_append_left _ (List.mem_of_getElem? (i := 109) rfl : (.code y_S_close b_S_close 2 none : Cond) ∈ tables_1_1))
theorem ti_66 : (.methodLink "PageVault" 54 y_S_close : Cond) ∈ lw_tbl := List.mem_append_right _ (List.mem_append_left _ (List.mem_of_getElem? (i := 106) rfl : (.methodLink "PageVault" 54 y_S_close : Cond) ∈ tables_1_1))
theorem ti_67 : (.instanceMethod y_S_close : Cond) ∈ lw_tbl := List.mem_append_right _ (List.mem_append_left _ (List.mem_of_getElem? (i := 107) rfl : (.instanceMethod y_S_close : Cond) ∈ tables_1_1))
theorem ti_68 : (.selects "PageVault$Space" y_S_close y_S_close : Cond) ∈ lw_tbl := List.mem_append_right _ (List.mem_append_left _ (List.mem_of_getElem? (i := 108) rfl : (.selects "PageVault$Space" y_S_close y_S_close : Cond) ∈ tables_1_1))
theorem ti_69 : (.code y_S_hasPageIn b_S_hasPageIn 4 (some .boolean) : Cond) ∈ lw_tbl := List.mem_append_right _ (List.mem_append_left _ (List.mem_of_getElem? (i := 148) rfl : (.code y_S_hasPageIn b_S_hasPageIn 4 (some .boolean) : Cond) ∈ tables_1_1))
theorem ti_70 : (.methodLink "PageVault$Space" 42 y_S_hasPageIn : Cond) ∈ lw_tbl := List.mem_append_right _ (List.mem_append_left _ (List.mem_of_getElem? (i := 145) rfl : (.methodLink "PageVault$Space" 42 y_S_hasPageIn : Cond) ∈ tables_1_1))
theorem ti_71 : (.instanceMethod y_S_hasPageIn : Cond) ∈ lw_tbl := List.mem_append_right _ (List.mem_append_left _ (List.mem_of_getElem? (i := 147) rfl : (.instanceMethod y_S_hasPageIn : Cond) ∈ tables_1_1))
theorem ti_72 : (.selects "PageVault$Space" y_S_hasPageIn y_S_hasPageIn : Cond) ∈ lw_tbl := List.mem_append_left _ (List.mem_of_getElem? (i := 5) rfl)
theorem ti_73 : (.code y_S_framesOfCopy b_S_framesOfCopy 3 (some .int) : Cond) ∈ lw_tbl := List.mem_append_right _ (List.mem_append_left _ (List.mem_of_getElem? (i := 144) rfl : (.code y_S_framesOfCopy b_S_framesOfCopy 3 (some .int) : Cond) ∈ tables_1_1))
theorem ti_74 : (.methodLink "PageVault" 57 y_S_framesOfCopy : Cond) ∈ lw_tbl := List.mem_append_right _ (List.mem_append_left _ (List.mem_of_getElem? (i := 141) rfl : (.methodLink "PageVault" 57 y_S_framesOfCopy : Cond) ∈ tables_1_1))
theorem ti_75 : (.instanceMethod y_S_framesOfCopy : Cond) ∈ lw_tbl := List.mem_append_right _ (List.mem_append_left _ (List.mem_of_getElem? (i := 142) rfl : (.instanceMethod y_S_framesOfCopy : Cond) ∈ tables_1_1))
theorem ti_76 : (.selects "PageVault$Space" y_S_framesOfCopy y_S_framesOfCopy : Cond) ∈ lw_tbl := List.mem_append_right _ (List.mem_append_left _ (List.mem_of_getElem? (i := 143) rfl : (.selects "PageVault$Space" y_S_framesOfCopy y_S_framesOfCopy : Cond) ∈ tables_1_1))
theorem ti_77 : (.code y_F_hold b_F_hold 2 none : Cond) ∈ lw_tbl := List.mem_append_right _ (List.mem_append_left _ (List.mem_of_getElem? (i := 175) rfl : (.code y_F_hold b_F_hold 2 none : Cond) ∈ tables_1_1))
theorem ti_78 : (.methodLink "PageVault$Space" 91 y_F_hold : Cond) ∈ lw_tbl := List.mem_append_right _ (List.mem_append_left _ (List.mem_of_getElem? (i := 172) rfl : (.methodLink "PageVault$Space" 91 y_F_hold : Cond) ∈ tables_1_1))
theorem ti_79 : (.instanceMethod y_F_hold : Cond) ∈ lw_tbl := List.mem_append_right _ (List.mem_append_left _ (List.mem_of_getElem? (i := 173) rfl : (.instanceMethod y_F_hold : Cond) ∈ tables_1_1))
theorem ti_80 : (.selects "PageVault$Frames" y_F_hold y_F_hold : Cond) ∈ lw_tbl := List.mem_append_right _ (List.mem_append_left _ (List.mem_of_getElem? (i := 174) rfl : (.selects "PageVault$Frames" y_F_hold y_F_hold : Cond) ∈ tables_1_1))
theorem ti_81 : (.code y_V_entryOf b_V_entryOf 2 (some .int) : Cond) ∈ lw_tbl := List.mem_append_right _ (List.mem_append_left _ (List.mem_of_getElem? (i := 164) rfl : (.code y_V_entryOf b_V_entryOf 2 (some .int) : Cond) ∈ tables_1_1))
theorem ti_82 : (.static y_V_entryOf : Cond) ∈ lw_tbl := List.mem_append_right _ (List.mem_append_left _ (List.mem_of_getElem? (i := 163) rfl : (.static y_V_entryOf : Cond) ∈ tables_1_1))
theorem ti_83 : (.code y_S_addTable b_S_addTable 3 (some .int) : Cond) ∈ lw_tbl := List.mem_append_right _ (List.mem_append_left _ (List.mem_of_getElem? (i := 161) rfl : (.code y_S_addTable b_S_addTable 3 (some .int) : Cond) ∈ tables_1_1))
theorem ti_84 : (.methodLink "PageVault$Space" 69 y_S_addTable : Cond) ∈ lw_tbl := List.mem_append_right _ (List.mem_append_left _ (List.mem_of_getElem? (i := 158) rfl : (.methodLink "PageVault$Space" 69 y_S_addTable : Cond) ∈ tables_1_1))
theorem ti_85 : (.instanceMethod y_S_addTable : Cond) ∈ lw_tbl := List.mem_append_right _ (List.mem_append_left _ (List.mem_of_getElem? (i := 160) rfl : (.instanceMethod y_S_addTable : Cond) ∈ tables_1_1))
theorem ti_86 : (.selects "PageVault$Space" y_S_addTable y_S_addTable : Cond) ∈ lw_tbl := List.mem_append_left _ (List.mem_of_getElem? (i := 7) rfl)
theorem ti_87 : (.methodLink "PageVault$Frames" 34 arraycopyName : Cond) ∈ lw_tbl := List.mem_append_right _ (List.mem_append_left _ (List.mem_of_getElem? (i := 169) rfl : (.methodLink "PageVault$Frames" 34 arraycopyName : Cond) ∈ tables_1_1))
theorem ti_88 : (.native arraycopyName : Cond) ∈ lw_tbl := List.mem_append_right _ (List.mem_append_left _ (List.mem_of_getElem? (i := 171) rfl : (.native arraycopyName : Cond) ∈ tables_1_1))
theorem ti_89 : (.static arraycopyName : Cond) ∈ lw_tbl := List.mem_append_right _ (List.mem_append_left _ (List.mem_of_getElem? (i := 170) rfl : (.static arraycopyName : Cond) ∈ tables_1_1))
theorem ti_90 : (.initialized "java/lang/System" : Cond) ∈ lw_tbl := List.mem_append_right _ (List.mem_append_left _ (List.mem_of_getElem? (i := 7) rfl : (.initialized "java/lang/System" : Cond) ∈ tables_1_1))
theorem ti_91 : (.code y_F_copyWords b_F_copyWords 3 none : Cond) ∈ lw_tbl := List.mem_append_right _ (List.mem_append_left _ (List.mem_of_getElem? (i := 168) rfl : (.code y_F_copyWords b_F_copyWords 3 none : Cond) ∈ tables_1_1))
theorem ti_92 : (.methodLink "PageVault$Space" 81 y_F_copyWords : Cond) ∈ lw_tbl := List.mem_append_right _ (List.mem_append_left _ (List.mem_of_getElem? (i := 165) rfl : (.methodLink "PageVault$Space" 81 y_F_copyWords : Cond) ∈ tables_1_1))
theorem ti_93 : (.instanceMethod y_F_copyWords : Cond) ∈ lw_tbl := List.mem_append_right _ (List.mem_append_left _ (List.mem_of_getElem? (i := 166) rfl : (.instanceMethod y_F_copyWords : Cond) ∈ tables_1_1))
theorem ti_94 : (.selects "PageVault$Frames" y_F_copyWords y_F_copyWords : Cond) ∈ lw_tbl := List.mem_append_right _ (List.mem_append_left _ (List.mem_of_getElem? (i := 167) rfl : (.selects "PageVault$Frames" y_F_copyWords y_F_copyWords : Cond) ∈ tables_1_1))
theorem ti_95 : (.code y_S_shareRegion b_S_shareRegion 5 none : Cond) ∈ lw_tbl := List.mem_append_right _ (List.mem_append_left _ (List.mem_of_getElem? (i := 157) rfl : (.code y_S_shareRegion b_S_shareRegion 5 none : Cond) ∈ tables_1_1))
theorem ti_96 : (.methodLink "PageVault$Space" 46 y_S_shareRegion : Cond) ∈ lw_tbl := List.mem_append_right _ (List.mem_append_left _ (List.mem_of_getElem? (i := 154) rfl : (.methodLink "PageVault$Space" 46 y_S_shareRegion : Cond) ∈ tables_1_1))
theorem ti_97 : (.instanceMethod y_S_shareRegion : Cond) ∈ lw_tbl := List.mem_append_right _ (List.mem_append_left _ (List.mem_of_getElem? (i := 156) rfl : (.instanceMethod y_S_shareRegion : Cond) ∈ tables_1_1))
theorem ti_98 : (.selects "PageVault$Space" y_S_shareRegion y_S_shareRegion : Cond) ∈ lw_tbl := List.mem_append_left _ (List.mem_of_getElem? (i := 6) rfl)
theorem ti_99 : (.methodLink "PageVault$Space" 39 y_S_open : Cond) ∈ lw_tbl := List.mem_append_right _ (List.mem_append_left _ (List.mem_of_getElem? (i := 153) rfl : (.methodLink "PageVault$Space" 39 y_S_open : Cond) ∈ tables_1_1))
theorem ti_100 : (.code y_S_openAsCopy b_S_openAsCopy 3 none : Cond) ∈ lw_tbl := List.mem_append_right _ (List.mem_append_left _ (List.mem_of_getElem? (i := 152) rfl : (.code y_S_openAsCopy b_S_openAsCopy 3 none : Cond) ∈ tables_1_1))
theorem ti_101 : (.methodLink "PageVault" 60 y_S_openAsCopy : Cond) ∈ lw_tbl := List.mem_append_right _ (List.mem_append_left _ (List.mem_of_getElem? (i := 149) rfl : (.methodLink "PageVault" 60 y_S_openAsCopy : Cond) ∈ tables_1_1))
theorem ti_102 : (.instanceMethod y_S_openAsCopy : Cond) ∈ lw_tbl := List.mem_append_right _ (List.mem_append_left _ (List.mem_of_getElem? (i := 150) rfl : (.instanceMethod y_S_openAsCopy : Cond) ∈ tables_1_1))
theorem ti_103 : (.selects "PageVault$Space" y_S_openAsCopy y_S_openAsCopy : Cond) ∈ lw_tbl := List.mem_append_right _ (List.mem_append_left _ (List.mem_of_getElem? (i := 151) rfl : (.selects "PageVault$Space" y_S_openAsCopy y_S_openAsCopy : Cond) ∈ tables_1_1))
theorem ti_104 : (.constant "PageVault" 158 1073741824 : Cond) ∈ lw_tbl := List.mem_append_right _ (List.mem_append_left _ (List.mem_of_getElem? (i := 186) rfl : (.constant "PageVault" 158 1073741824 : Cond) ∈ tables_1_1))
theorem ti_105 : (.code y_V_isUsers b_V_isUsers 1 (some .boolean) : Cond) ∈ lw_tbl := List.mem_append_right _ (List.mem_append_left _ (List.mem_of_getElem? (i := 185) rfl : (.code y_V_isUsers b_V_isUsers 1 (some .boolean) : Cond) ∈ tables_1_1))
theorem ti_106 : (.methodLink "PageVault" 135 y_V_isUsers : Cond) ∈ lw_tbl := List.mem_append_right _ (List.mem_append_left _ (List.mem_of_getElem? (i := 183) rfl : (.methodLink "PageVault" 135 y_V_isUsers : Cond) ∈ tables_1_1))
theorem ti_107 : (.static y_V_isUsers : Cond) ∈ lw_tbl := List.mem_append_right _ (List.mem_append_left _ (List.mem_of_getElem? (i := 184) rfl : (.static y_V_isUsers : Cond) ∈ tables_1_1))
theorem ti_108 : (.code y_V_beginsPage b_V_beginsPage 1 (some .boolean) : Cond) ∈ lw_tbl := List.mem_append_right _ (List.mem_append_left _ (List.mem_of_getElem? (i := 182) rfl : (.code y_V_beginsPage b_V_beginsPage 1 (some .boolean) : Cond) ∈ tables_1_1))
theorem ti_109 : (.methodLink "PageVault" 64 y_V_beginsPage : Cond) ∈ lw_tbl := List.mem_append_right _ (List.mem_append_left _ (List.mem_of_getElem? (i := 180) rfl : (.methodLink "PageVault" 64 y_V_beginsPage : Cond) ∈ tables_1_1))
theorem ti_110 : (.static y_V_beginsPage : Cond) ∈ lw_tbl := List.mem_append_right _ (List.mem_append_left _ (List.mem_of_getElem? (i := 181) rfl : (.static y_V_beginsPage : Cond) ∈ tables_1_1))
theorem ti_111 : (.code y_V_areFlags b_V_areFlags 1 (some .boolean) : Cond) ∈ lw_tbl := List.mem_append_right _ (List.mem_append_left _ (List.mem_of_getElem? (i := 189) rfl : (.code y_V_areFlags b_V_areFlags 1 (some .boolean) : Cond) ∈ tables_1_1))
theorem ti_112 : (.methodLink "PageVault" 68 y_V_areFlags : Cond) ∈ lw_tbl := List.mem_append_right _ (List.mem_append_left _ (List.mem_of_getElem? (i := 187) rfl : (.methodLink "PageVault" 68 y_V_areFlags : Cond) ∈ tables_1_1))
theorem ti_113 : (.static y_V_areFlags : Cond) ∈ lw_tbl := List.mem_append_right _ (List.mem_append_left _ (List.mem_of_getElem? (i := 188) rfl : (.static y_V_areFlags : Cond) ∈ tables_1_1))
theorem ti_114 : (.code y_S_slotOf b_S_slotOf 1 (some .int) : Cond) ∈ lw_tbl := List.mem_append_right _ (List.mem_append_left _ (List.mem_of_getElem? (i := 196) rfl : (.code y_S_slotOf b_S_slotOf 1 (some .int) : Cond) ∈ tables_1_1))
theorem ti_115 : (.methodLink "PageVault$Space" 56 y_S_slotOf : Cond) ∈ lw_tbl := List.mem_append_right _ (List.mem_append_left _ (List.mem_of_getElem? (i := 194) rfl : (.methodLink "PageVault$Space" 56 y_S_slotOf : Cond) ∈ tables_1_1))
theorem ti_116 : (.static y_S_slotOf : Cond) ∈ lw_tbl := List.mem_append_right _ (List.mem_append_left _ (List.mem_of_getElem? (i := 195) rfl : (.static y_S_slotOf : Cond) ∈ tables_1_1))
theorem ti_117 : (.code y_S_entryAt b_S_entryAt 2 (some .int) : Cond) ∈ lw_tbl := List.mem_append_right _ (List.mem_append_left _ (List.mem_of_getElem? (i := 193) rfl : (.code y_S_entryAt b_S_entryAt 2 (some .int) : Cond) ∈ tables_1_1))
theorem ti_118 : (.methodLink "PageVault" 71 y_S_entryAt : Cond) ∈ lw_tbl := List.mem_append_right _ (List.mem_append_left _ (List.mem_of_getElem? (i := 190) rfl : (.methodLink "PageVault" 71 y_S_entryAt : Cond) ∈ tables_1_1))
theorem ti_119 : (.instanceMethod y_S_entryAt : Cond) ∈ lw_tbl := List.mem_append_right _ (List.mem_append_left _ (List.mem_of_getElem? (i := 191) rfl : (.instanceMethod y_S_entryAt : Cond) ∈ tables_1_1))
theorem ti_120 : (.selects "PageVault$Space" y_S_entryAt y_S_entryAt : Cond) ∈ lw_tbl := List.mem_append_right _ (List.mem_append_left _ (List.mem_of_getElem? (i := 192) rfl : (.selects "PageVault$Space" y_S_entryAt y_S_entryAt : Cond) ∈ tables_1_1))
theorem ti_121 : (.methodLink "PageVault$Space" 66 y_F_spare : Cond) ∈ lw_tbl := List.mem_append_right _ (List.mem_append_left _ (List.mem_of_getElem? (i := 201) rfl : (.methodLink "PageVault$Space" 66 y_F_spare : Cond) ∈ tables_1_1))
theorem ti_122 : (.code y_S_addPage b_S_addPage 6 (some .int) : Cond) ∈ lw_tbl := List.mem_append_right _ (List.mem_append_left _ (List.mem_of_getElem? (i := 200) rfl : (.code y_S_addPage b_S_addPage 6 (some .int) : Cond) ∈ tables_1_1))
theorem ti_123 : (.methodLink "PageVault" 75 y_S_addPage : Cond) ∈ lw_tbl := List.mem_append_right _ (List.mem_append_left _ (List.mem_of_getElem? (i := 197) rfl : (.methodLink "PageVault" 75 y_S_addPage : Cond) ∈ tables_1_1))
theorem ti_124 : (.instanceMethod y_S_addPage : Cond) ∈ lw_tbl := List.mem_append_right _ (List.mem_append_left _ (List.mem_of_getElem? (i := 198) rfl : (.instanceMethod y_S_addPage : Cond) ∈ tables_1_1))
theorem ti_125 : (.selects "PageVault$Space" y_S_addPage y_S_addPage : Cond) ∈ lw_tbl := List.mem_append_right _ (List.mem_append_left _ (List.mem_of_getElem? (i := 199) rfl : (.selects "PageVault$Space" y_S_addPage y_S_addPage : Cond) ∈ tables_1_1))
theorem ti_126 : (.methodLink "PageVault$Space" 50 Lib.Math.max.name : Cond) ∈ lw_tbl := List.mem_append_right _ (List.mem_append_left _ (List.mem_of_getElem? (i := 206) rfl : (.methodLink "PageVault$Space" 50 Lib.Math.max.name : Cond) ∈ tables_1_1))
theorem ti_127 : (.static Lib.Math.max.name : Cond) ∈ lw_tbl := List.mem_append_right _ (List.mem_append_left _ (List.mem_of_getElem? (i := 22) rfl : (.static Lib.Math.max.name : Cond) ∈ tables_1_1))
theorem ti_128 : (.initialized "java/lang/Math" : Cond) ∈ lw_tbl := List.mem_append_right _ (List.mem_append_left _ (List.mem_of_getElem? (i := 3) rfl : (.initialized "java/lang/Math" : Cond) ∈ tables_1_1))
theorem ti_129 : (.code Lib.Math.max.name Lib.Math.max.code 2 (some .int) : Cond) ∈ lw_tbl := List.mem_append_right _ (List.mem_append_left _ (List.mem_of_getElem? (i := 23) rfl : (.code Lib.Math.max.name Lib.Math.max.code 2 (some .int) : Cond) ∈ tables_1_1))
theorem ti_130 : (.code y_S_reach b_S_reach 2 none : Cond) ∈ lw_tbl := List.mem_append_right _ (List.mem_append_left _ (List.mem_of_getElem? (i := 205) rfl : (.code y_S_reach b_S_reach 2 none : Cond) ∈ tables_1_1))
theorem ti_131 : (.methodLink "PageVault" 78 y_S_reach : Cond) ∈ lw_tbl := List.mem_append_right _ (List.mem_append_left _ (List.mem_of_getElem? (i := 202) rfl : (.methodLink "PageVault" 78 y_S_reach : Cond) ∈ tables_1_1))
theorem ti_132 : (.instanceMethod y_S_reach : Cond) ∈ lw_tbl := List.mem_append_right _ (List.mem_append_left _ (List.mem_of_getElem? (i := 203) rfl : (.instanceMethod y_S_reach : Cond) ∈ tables_1_1))
theorem ti_133 : (.selects "PageVault$Space" y_S_reach y_S_reach : Cond) ∈ lw_tbl := List.mem_append_right _ (List.mem_append_left _ (List.mem_of_getElem? (i := 204) rfl : (.selects "PageVault$Space" y_S_reach y_S_reach : Cond) ∈ tables_1_1))
theorem ti_134 : (.methodLink "PageVault" 81 y_V_frameOf : Cond) ∈ lw_tbl := List.mem_append_right _ (List.mem_append_left _ (List.mem_of_getElem? (i := 211) rfl : (.methodLink "PageVault" 81 y_V_frameOf : Cond) ∈ tables_1_1))
theorem ti_135 : (.methodLink "PageVault" 84 y_V_entryOf : Cond) ∈ lw_tbl := List.mem_append_right _ (List.mem_append_left _ (List.mem_of_getElem? (i := 212) rfl : (.methodLink "PageVault" 84 y_V_entryOf : Cond) ∈ tables_1_1))
theorem ti_136 : (.code y_S_setEntry b_S_setEntry 3 none : Cond) ∈ lw_tbl := List.mem_append_right _ (List.mem_append_left _ (List.mem_of_getElem? (i := 216) rfl : (.code y_S_setEntry b_S_setEntry 3 none : Cond) ∈ tables_1_1))
theorem ti_137 : (.methodLink "PageVault" 87 y_S_setEntry : Cond) ∈ lw_tbl := List.mem_append_right _ (List.mem_append_left _ (List.mem_of_getElem? (i := 213) rfl : (.methodLink "PageVault" 87 y_S_setEntry : Cond) ∈ tables_1_1))
theorem ti_138 : (.instanceMethod y_S_setEntry : Cond) ∈ lw_tbl := List.mem_append_right _ (List.mem_append_left _ (List.mem_of_getElem? (i := 214) rfl : (.instanceMethod y_S_setEntry : Cond) ∈ tables_1_1))
theorem ti_139 : (.selects "PageVault$Space" y_S_setEntry y_S_setEntry : Cond) ∈ lw_tbl := List.mem_append_right _ (List.mem_append_left _ (List.mem_of_getElem? (i := 215) rfl : (.selects "PageVault$Space" y_S_setEntry y_S_setEntry : Cond) ∈ tables_1_1))
theorem ti_140 : (.code y_S_length b_S_length 1 (some .int) : Cond) ∈ lw_tbl := List.mem_append_right _ (List.mem_append_left _ (List.mem_of_getElem? (i := 224) rfl : (.code y_S_length b_S_length 1 (some .int) : Cond) ∈ tables_1_1))
theorem ti_141 : (.methodLink "PageVault" 91 y_S_length : Cond) ∈ lw_tbl := List.mem_append_right _ (List.mem_append_left _ (List.mem_of_getElem? (i := 221) rfl : (.methodLink "PageVault" 91 y_S_length : Cond) ∈ tables_1_1))
theorem ti_142 : (.instanceMethod y_S_length : Cond) ∈ lw_tbl := List.mem_append_right _ (List.mem_append_left _ (List.mem_of_getElem? (i := 222) rfl : (.instanceMethod y_S_length : Cond) ∈ tables_1_1))
theorem ti_143 : (.selects "PageVault$Space" y_S_length y_S_length : Cond) ∈ lw_tbl := List.mem_append_right _ (List.mem_append_left _ (List.mem_of_getElem? (i := 223) rfl : (.selects "PageVault$Space" y_S_length y_S_length : Cond) ∈ tables_1_1))
theorem ti_144 : (.constantLong "PageVault" 94 1073741824 : Cond) ∈ lw_tbl := List.mem_append_right _ (List.mem_append_left _ (List.mem_of_getElem? (i := 225) rfl : (.constantLong "PageVault" 94 1073741824 : Cond) ∈ tables_1_1))
theorem ti_145 : (.code y_S_resize b_S_resize 2 none : Cond) ∈ lw_tbl := List.mem_append_right _ (List.mem_append_left _ (List.mem_of_getElem? (i := 229) rfl : (.code y_S_resize b_S_resize 2 none : Cond) ∈ tables_1_1))
theorem ti_146 : (.methodLink "PageVault" 96 y_S_resize : Cond) ∈ lw_tbl := List.mem_append_right _ (List.mem_append_left _ (List.mem_of_getElem? (i := 226) rfl : (.methodLink "PageVault" 96 y_S_resize : Cond) ∈ tables_1_1))
theorem ti_147 : (.instanceMethod y_S_resize : Cond) ∈ lw_tbl := List.mem_append_right _ (List.mem_append_left _ (List.mem_of_getElem? (i := 227) rfl : (.instanceMethod y_S_resize : Cond) ∈ tables_1_1))
theorem ti_148 : (.selects "PageVault$Space" y_S_resize y_S_resize : Cond) ∈ lw_tbl := List.mem_append_right _ (List.mem_append_left _ (List.mem_of_getElem? (i := 228) rfl : (.selects "PageVault$Space" y_S_resize y_S_resize : Cond) ∈ tables_1_1))
theorem ti_149 : (.fieldLink "PageVault" 103 "PageVault" "latestTrap" "I" : Cond) ∈ lw_tbl := List.mem_append_right _ (List.mem_append_left _ (List.mem_of_getElem? (i := 61) rfl : (.fieldLink "PageVault" 103 "PageVault" "latestTrap" "I" : Cond) ∈ tables_1_1))
theorem ti_150 : (.code y_V_isStraight b_V_isStraight 2 (some .boolean) : Cond) ∈ lw_tbl := List.mem_append_right _ (List.mem_append_right _ (List.mem_append_left _ (List.mem_of_getElem? (i := 4) rfl : (.code y_V_isStraight b_V_isStraight 2 (some .boolean) : Cond) ∈ tables_1_2)))
theorem ti_151 : (.methodLink "PageVault" 107 y_V_isStraight : Cond) ∈ lw_tbl := List.mem_append_right _ (List.mem_append_right _ (List.mem_append_left _ (List.mem_of_getElem? (i := 2) rfl : (.methodLink "PageVault" 107 y_V_isStraight : Cond) ∈ tables_1_2)))
theorem ti_152 : (.static y_V_isStraight : Cond) ∈ lw_tbl := List.mem_append_right _ (List.mem_append_right _ (List.mem_append_left _ (List.mem_of_getElem? (i := 3) rfl : (.static y_V_isStraight : Cond) ∈ tables_1_2)))
theorem ti_153 : (.code y_V_trapped b_V_trapped 2 (some .int) : Cond) ∈ lw_tbl := List.mem_append_right _ (List.mem_append_right _ (List.mem_append_left _ (List.mem_of_getElem? (i := 8) rfl : (.code y_V_trapped b_V_trapped 2 (some .int) : Cond) ∈ tables_1_2)))
theorem ti_154 : (.methodLink "PageVault" 111 y_V_trapped : Cond) ∈ lw_tbl := List.mem_append_right _ (List.mem_append_right _ (List.mem_append_left _ (List.mem_of_getElem? (i := 5) rfl : (.methodLink "PageVault" 111 y_V_trapped : Cond) ∈ tables_1_2)))
theorem ti_155 : (.instanceMethod y_V_trapped : Cond) ∈ lw_tbl := List.mem_append_right _ (List.mem_append_right _ (List.mem_append_left _ (List.mem_of_getElem? (i := 7) rfl : (.instanceMethod y_V_trapped : Cond) ∈ tables_1_2)))
theorem ti_156 : (.selects "PageVault" y_V_trapped y_V_trapped : Cond) ∈ lw_tbl := List.mem_append_left _ (List.mem_of_getElem? (i := 9) rfl)
theorem ti_157 : (.code y_V_touch b_V_touch 6 (some .int) : Cond) ∈ lw_tbl := List.mem_append_right _ (List.mem_append_right _ (List.mem_append_left _ (List.mem_of_getElem? (i := 12) rfl : (.code y_V_touch b_V_touch 6 (some .int) : Cond) ∈ tables_1_2)))
theorem ti_158 : (.methodLink "PageVault" 138 y_V_touch : Cond) ∈ lw_tbl := List.mem_append_right _ (List.mem_append_right _ (List.mem_append_left _ (List.mem_of_getElem? (i := 9) rfl : (.methodLink "PageVault" 138 y_V_touch : Cond) ∈ tables_1_2)))
theorem ti_159 : (.instanceMethod y_V_touch : Cond) ∈ lw_tbl := List.mem_append_right _ (List.mem_append_right _ (List.mem_append_left _ (List.mem_of_getElem? (i := 11) rfl : (.instanceMethod y_V_touch : Cond) ∈ tables_1_2)))
theorem ti_160 : (.selects "PageVault" y_V_touch y_V_touch : Cond) ∈ lw_tbl := List.mem_append_left _ (List.mem_of_getElem? (i := 10) rfl)
theorem ti_161 : (.code y_F_wordOf b_F_wordOf 1 (some .int) : Cond) ∈ lw_tbl := List.mem_append_right _ (List.mem_append_right _ (List.mem_append_left _ (List.mem_of_getElem? (i := 40) rfl : (.code y_F_wordOf b_F_wordOf 1 (some .int) : Cond) ∈ tables_1_2)))
theorem ti_162 : (.methodLink "PageVault$Frames" 40 y_F_wordOf : Cond) ∈ lw_tbl := List.mem_append_right _ (List.mem_append_right _ (List.mem_append_left _ (List.mem_of_getElem? (i := 38) rfl : (.methodLink "PageVault$Frames" 40 y_F_wordOf : Cond) ∈ tables_1_2)))
theorem ti_163 : (.static y_F_wordOf : Cond) ∈ lw_tbl := List.mem_append_right _ (List.mem_append_right _ (List.mem_append_left _ (List.mem_of_getElem? (i := 39) rfl : (.static y_F_wordOf : Cond) ∈ tables_1_2)))
theorem ti_164 : (.methodLink "PageVault$Frames" 44 y_F_word : Cond) ∈ lw_tbl := List.mem_append_right _ (List.mem_append_right _ (List.mem_append_left _ (List.mem_of_getElem? (i := 41) rfl : (.methodLink "PageVault$Frames" 44 y_F_word : Cond) ∈ tables_1_2)))
theorem ti_165 : (.code y_F_bitOf b_F_bitOf 1 (some .int) : Cond) ∈ lw_tbl := List.mem_append_right _ (List.mem_append_right _ (List.mem_append_left _ (List.mem_of_getElem? (i := 44) rfl : (.code y_F_bitOf b_F_bitOf 1 (some .int) : Cond) ∈ tables_1_2)))
theorem ti_166 : (.methodLink "PageVault$Frames" 48 y_F_bitOf : Cond) ∈ lw_tbl := List.mem_append_right _ (List.mem_append_right _ (List.mem_append_left _ (List.mem_of_getElem? (i := 42) rfl : (.methodLink "PageVault$Frames" 48 y_F_bitOf : Cond) ∈ tables_1_2)))
theorem ti_167 : (.static y_F_bitOf : Cond) ∈ lw_tbl := List.mem_append_right _ (List.mem_append_right _ (List.mem_append_left _ (List.mem_of_getElem? (i := 43) rfl : (.static y_F_bitOf : Cond) ∈ tables_1_2)))
theorem ti_168 : (.code y_F_mask b_F_mask 1 (some .int) : Cond) ∈ lw_tbl := List.mem_append_right _ (List.mem_append_right _ (List.mem_append_left _ (List.mem_of_getElem? (i := 47) rfl : (.code y_F_mask b_F_mask 1 (some .int) : Cond) ∈ tables_1_2)))
theorem ti_169 : (.methodLink "PageVault$Frames" 51 y_F_mask : Cond) ∈ lw_tbl := List.mem_append_right _ (List.mem_append_right _ (List.mem_append_left _ (List.mem_of_getElem? (i := 45) rfl : (.methodLink "PageVault$Frames" 51 y_F_mask : Cond) ∈ tables_1_2)))
theorem ti_170 : (.static y_F_mask : Cond) ∈ lw_tbl := List.mem_append_right _ (List.mem_append_right _ (List.mem_append_left _ (List.mem_of_getElem? (i := 46) rfl : (.static y_F_mask : Cond) ∈ tables_1_2)))
theorem ti_171 : (.code y_F_read b_F_read 4 (some .int) : Cond) ∈ lw_tbl := List.mem_append_right _ (List.mem_append_right _ (List.mem_append_left _ (List.mem_of_getElem? (i := 37) rfl : (.code y_F_read b_F_read 4 (some .int) : Cond) ∈ tables_1_2)))
theorem ti_172 : (.methodLink "PageVault" 142 y_F_read : Cond) ∈ lw_tbl := List.mem_append_right _ (List.mem_append_right _ (List.mem_append_left _ (List.mem_of_getElem? (i := 34) rfl : (.methodLink "PageVault" 142 y_F_read : Cond) ∈ tables_1_2)))
theorem ti_173 : (.instanceMethod y_F_read : Cond) ∈ lw_tbl := List.mem_append_right _ (List.mem_append_right _ (List.mem_append_left _ (List.mem_of_getElem? (i := 35) rfl : (.instanceMethod y_F_read : Cond) ∈ tables_1_2)))
theorem ti_174 : (.selects "PageVault$Frames" y_F_read y_F_read : Cond) ∈ lw_tbl := List.mem_append_right _ (List.mem_append_right _ (List.mem_append_left _ (List.mem_of_getElem? (i := 36) rfl : (.selects "PageVault$Frames" y_F_read y_F_read : Cond) ∈ tables_1_2)))
theorem ti_175 : (.code y_F_holders b_F_holders 2 (some .int) : Cond) ∈ lw_tbl := List.mem_append_right _ (List.mem_append_right _ (List.mem_append_left _ (List.mem_of_getElem? (i := 24) rfl : (.code y_F_holders b_F_holders 2 (some .int) : Cond) ∈ tables_1_2)))
theorem ti_176 : (.methodLink "PageVault" 128 y_F_holders : Cond) ∈ lw_tbl := List.mem_append_right _ (List.mem_append_right _ (List.mem_append_left _ (List.mem_of_getElem? (i := 21) rfl : (.methodLink "PageVault" 128 y_F_holders : Cond) ∈ tables_1_2)))
theorem ti_177 : (.instanceMethod y_F_holders : Cond) ∈ lw_tbl := List.mem_append_right _ (List.mem_append_right _ (List.mem_append_left _ (List.mem_of_getElem? (i := 22) rfl : (.instanceMethod y_F_holders : Cond) ∈ tables_1_2)))
theorem ti_178 : (.selects "PageVault$Frames" y_F_holders y_F_holders : Cond) ∈ lw_tbl := List.mem_append_right _ (List.mem_append_right _ (List.mem_append_left _ (List.mem_of_getElem? (i := 23) rfl : (.selects "PageVault$Frames" y_F_holders y_F_holders : Cond) ∈ tables_1_2)))
theorem ti_179 : (.methodLink "PageVault$Space" 75 y_S_entryAt : Cond) ∈ lw_tbl := List.mem_append_right _ (List.mem_append_right _ (List.mem_append_left _ (List.mem_of_getElem? (i := 29) rfl : (.methodLink "PageVault$Space" 75 y_S_entryAt : Cond) ∈ tables_1_2)))
theorem ti_180 : (.code y_V_flagsOf b_V_flagsOf 1 (some .int) : Cond) ∈ lw_tbl := List.mem_append_right _ (List.mem_append_right _ (List.mem_append_left _ (List.mem_of_getElem? (i := 32) rfl : (.code y_V_flagsOf b_V_flagsOf 1 (some .int) : Cond) ∈ tables_1_2)))
theorem ti_181 : (.static y_V_flagsOf : Cond) ∈ lw_tbl := List.mem_append_right _ (List.mem_append_right _ (List.mem_append_left _ (List.mem_of_getElem? (i := 31) rfl : (.static y_V_flagsOf : Cond) ∈ tables_1_2)))
theorem ti_182 : (.methodLink "PageVault$Space" 88 y_S_setEntry : Cond) ∈ lw_tbl := List.mem_append_right _ (List.mem_append_right _ (List.mem_append_left _ (List.mem_of_getElem? (i := 33) rfl : (.methodLink "PageVault$Space" 88 y_S_setEntry : Cond) ∈ tables_1_2)))
theorem ti_183 : (.code y_S_partPage b_S_partPage 4 (some .int) : Cond) ∈ lw_tbl := List.mem_append_right _ (List.mem_append_right _ (List.mem_append_left _ (List.mem_of_getElem? (i := 28) rfl : (.code y_S_partPage b_S_partPage 4 (some .int) : Cond) ∈ tables_1_2)))
theorem ti_184 : (.methodLink "PageVault" 152 y_S_partPage : Cond) ∈ lw_tbl := List.mem_append_right _ (List.mem_append_right _ (List.mem_append_left _ (List.mem_of_getElem? (i := 25) rfl : (.methodLink "PageVault" 152 y_S_partPage : Cond) ∈ tables_1_2)))
theorem ti_185 : (.instanceMethod y_S_partPage : Cond) ∈ lw_tbl := List.mem_append_right _ (List.mem_append_right _ (List.mem_append_left _ (List.mem_of_getElem? (i := 26) rfl : (.instanceMethod y_S_partPage : Cond) ∈ tables_1_2)))
theorem ti_186 : (.selects "PageVault$Space" y_S_partPage y_S_partPage : Cond) ∈ lw_tbl := List.mem_append_right _ (List.mem_append_right _ (List.mem_append_left _ (List.mem_of_getElem? (i := 27) rfl : (.selects "PageVault$Space" y_S_partPage y_S_partPage : Cond) ∈ tables_1_2)))
theorem ti_187 : (.code y_V_frameOrFull b_V_frameOrFull 2 (some .int) : Cond) ∈ lw_tbl := List.mem_append_right _ (List.mem_append_right _ (List.mem_append_left _ (List.mem_of_getElem? (i := 20) rfl : (.code y_V_frameOrFull b_V_frameOrFull 2 (some .int) : Cond) ∈ tables_1_2)))
theorem ti_188 : (.methodLink "PageVault" 155 y_V_frameOrFull : Cond) ∈ lw_tbl := List.mem_append_right _ (List.mem_append_right _ (List.mem_append_left _ (List.mem_of_getElem? (i := 17) rfl : (.methodLink "PageVault" 155 y_V_frameOrFull : Cond) ∈ tables_1_2)))
theorem ti_189 : (.instanceMethod y_V_frameOrFull : Cond) ∈ lw_tbl := List.mem_append_right _ (List.mem_append_right _ (List.mem_append_left _ (List.mem_of_getElem? (i := 19) rfl : (.instanceMethod y_V_frameOrFull : Cond) ∈ tables_1_2)))
theorem ti_190 : (.selects "PageVault" y_V_frameOrFull y_V_frameOrFull : Cond) ∈ lw_tbl := List.mem_append_left _ (List.mem_of_getElem? (i := 12) rfl)
theorem ti_191 : (.code y_V_touchAbsent b_V_touchAbsent 4 (some .int) : Cond) ∈ lw_tbl := List.mem_append_right _ (List.mem_append_right _ (List.mem_append_left _ (List.mem_of_getElem? (i := 16) rfl : (.code y_V_touchAbsent b_V_touchAbsent 4 (some .int) : Cond) ∈ tables_1_2)))
theorem ti_192 : (.methodLink "PageVault" 149 y_V_touchAbsent : Cond) ∈ lw_tbl := List.mem_append_right _ (List.mem_append_right _ (List.mem_append_left _ (List.mem_of_getElem? (i := 13) rfl : (.methodLink "PageVault" 149 y_V_touchAbsent : Cond) ∈ tables_1_2)))
theorem ti_193 : (.instanceMethod y_V_touchAbsent : Cond) ∈ lw_tbl := List.mem_append_right _ (List.mem_append_right _ (List.mem_append_left _ (List.mem_of_getElem? (i := 15) rfl : (.instanceMethod y_V_touchAbsent : Cond) ∈ tables_1_2)))
theorem ti_194 : (.selects "PageVault" y_V_touchAbsent y_V_touchAbsent : Cond) ∈ lw_tbl := List.mem_append_left _ (List.mem_of_getElem? (i := 11) rfl)
theorem ti_195 : (.code y_V_number b_V_number 6 (some .int) : Cond) ∈ lw_tbl := List.mem_append_right _ (List.mem_append_right _ (List.mem_append_left _ (List.mem_of_getElem? (i := 1) rfl : (.code y_V_number b_V_number 6 (some .int) : Cond) ∈ tables_1_2)))
theorem ti_196 : (.methodLink "PageVault" 99 y_V_number : Cond) ∈ lw_tbl := List.mem_append_right _ (List.mem_append_left _ (List.mem_of_getElem? (i := 238) rfl : (.methodLink "PageVault" 99 y_V_number : Cond) ∈ tables_1_1))
theorem ti_197 : (.instanceMethod y_V_number : Cond) ∈ lw_tbl := List.mem_append_right _ (List.mem_append_right _ (List.mem_append_left _ (List.mem_of_getElem? (i := 0) rfl : (.instanceMethod y_V_number : Cond) ∈ tables_1_2)))
theorem ti_198 : (.selects "PageVault" y_V_number y_V_number : Cond) ∈ lw_tbl := List.mem_append_left _ (List.mem_of_getElem? (i := 8) rfl)
theorem ti_199 : (.methodLink "PageVault$Frames" 54 y_F_setWord : Cond) ∈ lw_tbl := List.mem_append_right _ (List.mem_append_right _ (List.mem_append_left _ (List.mem_of_getElem? (i := 64) rfl : (.methodLink "PageVault$Frames" 54 y_F_setWord : Cond) ∈ tables_1_2)))
theorem ti_200 : (.code y_F_write b_F_write 6 none : Cond) ∈ lw_tbl := List.mem_append_right _ (List.mem_append_right _ (List.mem_append_left _ (List.mem_of_getElem? (i := 63) rfl : (.code y_F_write b_F_write 6 none : Cond) ∈ tables_1_2)))
theorem ti_201 : (.methodLink "PageVault" 146 y_F_write : Cond) ∈ lw_tbl := List.mem_append_right _ (List.mem_append_right _ (List.mem_append_left _ (List.mem_of_getElem? (i := 60) rfl : (.methodLink "PageVault" 146 y_F_write : Cond) ∈ tables_1_2)))
theorem ti_202 : (.instanceMethod y_F_write : Cond) ∈ lw_tbl := List.mem_append_right _ (List.mem_append_right _ (List.mem_append_left _ (List.mem_of_getElem? (i := 61) rfl : (.instanceMethod y_F_write : Cond) ∈ tables_1_2)))
theorem ti_203 : (.selects "PageVault$Frames" y_F_write y_F_write : Cond) ∈ lw_tbl := List.mem_append_right _ (List.mem_append_right _ (List.mem_append_left _ (List.mem_of_getElem? (i := 62) rfl : (.selects "PageVault$Frames" y_F_write y_F_write : Cond) ∈ tables_1_2)))
theorem ti_204 : (.code y_V_write b_V_write 6 (some .boolean) : Cond) ∈ lw_tbl := List.mem_append_right _ (List.mem_append_right _ (List.mem_append_left _ (List.mem_of_getElem? (i := 59) rfl : (.code y_V_write b_V_write 6 (some .boolean) : Cond) ∈ tables_1_2)))
theorem ti_205 : (.methodLink "PageVault" 114 y_V_write : Cond) ∈ lw_tbl := List.mem_append_right _ (List.mem_append_right _ (List.mem_append_left _ (List.mem_of_getElem? (i := 56) rfl : (.methodLink "PageVault" 114 y_V_write : Cond) ∈ tables_1_2)))
theorem ti_206 : (.instanceMethod y_V_write : Cond) ∈ lw_tbl := List.mem_append_right _ (List.mem_append_right _ (List.mem_append_left _ (List.mem_of_getElem? (i := 58) rfl : (.instanceMethod y_V_write : Cond) ∈ tables_1_2)))
theorem ti_207 : (.selects "PageVault" y_V_write y_V_write : Cond) ∈ lw_tbl := List.mem_append_left _ (List.mem_of_getElem? (i := 13) rfl)
theorem ti_208 : (.fieldLink "PageVault" 36 "PageVault" "buffer" "[I" : Cond) ∈ lw_tbl := List.mem_append_right _ (List.mem_append_left _ (List.mem_of_getElem? (i := 60) rfl : (.fieldLink "PageVault" 36 "PageVault" "buffer" "[I" : Cond) ∈ tables_1_1))
theorem ti_209 : (.code y_V_readByte b_V_readByte 4 (some .int) : Cond) ∈ lw_tbl := List.mem_append_right _ (List.mem_append_right _ (List.mem_append_left _ (List.mem_of_getElem? (i := 80) rfl : (.code y_V_readByte b_V_readByte 4 (some .int) : Cond) ∈ tables_1_2)))
theorem ti_210 : (.methodLink "PageVault" 118 y_V_readByte : Cond) ∈ lw_tbl := List.mem_append_right _ (List.mem_append_right _ (List.mem_append_left _ (List.mem_of_getElem? (i := 77) rfl : (.methodLink "PageVault" 118 y_V_readByte : Cond) ∈ tables_1_2)))
theorem ti_211 : (.instanceMethod y_V_readByte : Cond) ∈ lw_tbl := List.mem_append_right _ (List.mem_append_right _ (List.mem_append_left _ (List.mem_of_getElem? (i := 79) rfl : (.instanceMethod y_V_readByte : Cond) ∈ tables_1_2)))
theorem ti_212 : (.selects "PageVault" y_V_readByte y_V_readByte : Cond) ∈ lw_tbl := List.mem_append_left _ (List.mem_of_getElem? (i := 14) rfl)
theorem ti_213 : (.code y_V_entryIn b_V_entryIn 4 (some .int) : Cond) ∈ lw_tbl := List.mem_append_right _ (List.mem_append_right _ (List.mem_append_left _ (List.mem_of_getElem? (i := 104) rfl : (.code y_V_entryIn b_V_entryIn 4 (some .int) : Cond) ∈ tables_1_2)))
theorem ti_214 : (.methodLink "PageVault" 122 y_V_entryIn : Cond) ∈ lw_tbl := List.mem_append_right _ (List.mem_append_right _ (List.mem_append_left _ (List.mem_of_getElem? (i := 101) rfl : (.methodLink "PageVault" 122 y_V_entryIn : Cond) ∈ tables_1_2)))
theorem ti_215 : (.instanceMethod y_V_entryIn : Cond) ∈ lw_tbl := List.mem_append_right _ (List.mem_append_right _ (List.mem_append_left _ (List.mem_of_getElem? (i := 103) rfl : (.instanceMethod y_V_entryIn : Cond) ∈ tables_1_2)))
theorem ti_216 : (.selects "PageVault" y_V_entryIn y_V_entryIn : Cond) ∈ lw_tbl := List.mem_append_left _ (List.mem_of_getElem? (i := 15) rfl)
theorem ti_217 : (.methodLink "PageVault" 125 y_V_flagsOf : Cond) ∈ lw_tbl := List.mem_append_right _ (List.mem_append_right _ (List.mem_append_left _ (List.mem_of_getElem? (i := 105) rfl : (.methodLink "PageVault" 125 y_V_flagsOf : Cond) ∈ tables_1_2)))
theorem ti_218 : (.laysFinal "PageVault" "PageVault" "frames" "LPageVault$Frames;" : Cond) ∈ lw_tbl := List.mem_append_right _ (List.mem_append_left _ (List.mem_of_getElem? (i := 62) rfl : (.laysFinal "PageVault" "PageVault" "frames" "LPageVault$Frames;" : Cond) ∈ tables_1_1))
theorem ti_219 : (.laysFinal "PageVault" "PageVault" "spaces" "[LPageVault$Space;" : Cond) ∈ lw_tbl := List.mem_append_right _ (List.mem_append_left _ (List.mem_of_getElem? (i := 64) rfl : (.laysFinal "PageVault" "PageVault" "spaces" "[LPageVault$Space;" : Cond) ∈ tables_1_1))
theorem ti_220 : (.laysFinal "PageVault" "PageVault" "buffer" "[I" : Cond) ∈ lw_tbl := List.mem_append_right _ (List.mem_append_left _ (List.mem_of_getElem? (i := 66) rfl : (.laysFinal "PageVault" "PageVault" "buffer" "[I" : Cond) ∈ tables_1_1))
theorem ti_221 : (.lays "PageVault" "PageVault" "latestTrap" "I" : Cond) ∈ lw_tbl := List.mem_append_right _ (List.mem_append_left _ (List.mem_of_getElem? (i := 68) rfl : (.lays "PageVault" "PageVault" "latestTrap" "I" : Cond) ∈ tables_1_1))
theorem ti_222 : (.laysFinal "PageVault$Frames" "PageVault$Frames" "words" "[[I" : Cond) ∈ lw_tbl := List.mem_append_right _ (List.mem_append_left _ (List.mem_of_getElem? (i := 33) rfl : (.laysFinal "PageVault$Frames" "PageVault$Frames" "words" "[[I" : Cond) ∈ tables_1_1))
theorem ti_223 : (.laysFinal "PageVault$Frames" "PageVault$Frames" "holders" "[I" : Cond) ∈ lw_tbl := List.mem_append_right _ (List.mem_append_left _ (List.mem_of_getElem? (i := 35) rfl : (.laysFinal "PageVault$Frames" "PageVault$Frames" "holders" "[I" : Cond) ∈ tables_1_1))
theorem ti_224 : (.lays "PageVault$Frames" "PageVault$Frames" "spare" "I" : Cond) ∈ lw_tbl := List.mem_append_right _ (List.mem_append_left _ (List.mem_of_getElem? (i := 37) rfl : (.lays "PageVault$Frames" "PageVault$Frames" "spare" "I" : Cond) ∈ tables_1_1))
theorem ti_225 : (.laysFinal "PageVault$Space" "PageVault$Space" "frames" "LPageVault$Frames;" : Cond) ∈ lw_tbl := List.mem_append_right _ (List.mem_append_left _ (List.mem_of_getElem? (i := 51) rfl : (.laysFinal "PageVault$Space" "PageVault$Space" "frames" "LPageVault$Frames;" : Cond) ∈ tables_1_1))
theorem ti_226 : (.lays "PageVault$Space" "PageVault$Space" "root" "I" : Cond) ∈ lw_tbl := List.mem_append_right _ (List.mem_append_left _ (List.mem_of_getElem? (i := 53) rfl : (.lays "PageVault$Space" "PageVault$Space" "root" "I" : Cond) ∈ tables_1_1))
theorem ti_227 : (.lays "PageVault$Space" "PageVault$Space" "length" "I" : Cond) ∈ lw_tbl := List.mem_append_right _ (List.mem_append_left _ (List.mem_of_getElem? (i := 55) rfl : (.lays "PageVault$Space" "PageVault$Space" "length" "I" : Cond) ∈ tables_1_1))
theorem ti_228 : (.lays "PageVaultModel" "PageVaultModel" "frames" "I" : Cond) ∈ lw_tbl := List.mem_append_right _ (List.mem_append_right _ (List.mem_append_left _ (List.mem_of_getElem? (i := 138) rfl : (.lays "PageVaultModel" "PageVaultModel" "frames" "I" : Cond) ∈ tables_1_2)))
theorem ti_229 : (.lays "PageVaultModel" "PageVaultModel" "lastTrap" "I" : Cond) ∈ lw_tbl := List.mem_append_right _ (List.mem_append_right _ (List.mem_append_left _ (List.mem_of_getElem? (i := 140) rfl : (.lays "PageVaultModel" "PageVaultModel" "lastTrap" "I" : Cond) ∈ tables_1_2)))
theorem ti_230 : (.laysFinal "PageVaultModel" "PageVaultModel" "alive" "[Z" : Cond) ∈ lw_tbl := List.mem_append_right _ (List.mem_append_right _ (List.mem_append_left _ (List.mem_of_getElem? (i := 142) rfl : (.laysFinal "PageVaultModel" "PageVaultModel" "alive" "[Z" : Cond) ∈ tables_1_2)))
theorem ti_231 : (.laysFinal "PageVaultModel" "PageVaultModel" "ends" "[I" : Cond) ∈ lw_tbl := List.mem_append_right _ (List.mem_append_right _ (List.mem_append_left _ (List.mem_of_getElem? (i := 144) rfl : (.laysFinal "PageVaultModel" "PageVaultModel" "ends" "[I" : Cond) ∈ tables_1_2)))
theorem ti_232 : (.laysFinal "PageVaultModel" "PageVaultModel" "pageSpace" "[I" : Cond) ∈ lw_tbl := List.mem_append_right _ (List.mem_append_right _ (List.mem_append_left _ (List.mem_of_getElem? (i := 146) rfl : (.laysFinal "PageVaultModel" "PageVaultModel" "pageSpace" "[I" : Cond) ∈ tables_1_2)))
theorem ti_233 : (.laysFinal "PageVaultModel" "PageVaultModel" "pageNumber" "[I" : Cond) ∈ lw_tbl := List.mem_append_right _ (List.mem_append_right _ (List.mem_append_left _ (List.mem_of_getElem? (i := 148) rfl : (.laysFinal "PageVaultModel" "PageVaultModel" "pageNumber" "[I" : Cond) ∈ tables_1_2)))
theorem ti_234 : (.laysFinal "PageVaultModel" "PageVaultModel" "pageFlags" "[I" : Cond) ∈ lw_tbl := List.mem_append_right _ (List.mem_append_right _ (List.mem_append_left _ (List.mem_of_getElem? (i := 150) rfl : (.laysFinal "PageVaultModel" "PageVaultModel" "pageFlags" "[I" : Cond) ∈ tables_1_2)))
theorem ti_235 : (.laysFinal "PageVaultModel" "PageVaultModel" "pageKin" "[I" : Cond) ∈ lw_tbl := List.mem_append_right _ (List.mem_append_right _ (List.mem_append_left _ (List.mem_of_getElem? (i := 152) rfl : (.laysFinal "PageVaultModel" "PageVaultModel" "pageKin" "[I" : Cond) ∈ tables_1_2)))
theorem ti_236 : (.lays "PageVaultModel" "PageVaultModel" "pages" "I" : Cond) ∈ lw_tbl := List.mem_append_right _ (List.mem_append_right _ (List.mem_append_left _ (List.mem_of_getElem? (i := 154) rfl : (.lays "PageVaultModel" "PageVaultModel" "pages" "I" : Cond) ∈ tables_1_2)))
theorem ti_237 : (.lays "PageVaultModel" "PageVaultModel" "kins" "I" : Cond) ∈ lw_tbl := List.mem_append_right _ (List.mem_append_right _ (List.mem_append_left _ (List.mem_of_getElem? (i := 156) rfl : (.lays "PageVaultModel" "PageVaultModel" "kins" "I" : Cond) ∈ tables_1_2)))
theorem ti_238 : (.laysFinal "PageVaultModel" "PageVaultModel" "regionSpace" "[I" : Cond) ∈ lw_tbl := List.mem_append_right _ (List.mem_append_right _ (List.mem_append_left _ (List.mem_of_getElem? (i := 158) rfl : (.laysFinal "PageVaultModel" "PageVaultModel" "regionSpace" "[I" : Cond) ∈ tables_1_2)))
theorem ti_239 : (.laysFinal "PageVaultModel" "PageVaultModel" "regionNumber" "[I" : Cond) ∈ lw_tbl := List.mem_append_right _ (List.mem_append_right _ (List.mem_append_left _ (List.mem_of_getElem? (i := 160) rfl : (.laysFinal "PageVaultModel" "PageVaultModel" "regionNumber" "[I" : Cond) ∈ tables_1_2)))
theorem ti_240 : (.lays "PageVaultModel" "PageVaultModel" "regions" "I" : Cond) ∈ lw_tbl := List.mem_append_right _ (List.mem_append_right _ (List.mem_append_left _ (List.mem_of_getElem? (i := 162) rfl : (.lays "PageVaultModel" "PageVaultModel" "regions" "I" : Cond) ∈ tables_1_2)))
theorem ti_241 : (.laysFinal "PageVaultModel" "PageVaultModel" "deed" "[I" : Cond) ∈ lw_tbl := List.mem_append_right _ (List.mem_append_right _ (List.mem_append_left _ (List.mem_of_getElem? (i := 164) rfl : (.laysFinal "PageVaultModel" "PageVaultModel" "deed" "[I" : Cond) ∈ tables_1_2)))
theorem ti_242 : (.laysFinal "PageVaultModel" "PageVaultModel" "who" "[I" : Cond) ∈ lw_tbl := List.mem_append_right _ (List.mem_append_right _ (List.mem_append_left _ (List.mem_of_getElem? (i := 166) rfl : (.laysFinal "PageVaultModel" "PageVaultModel" "who" "[I" : Cond) ∈ tables_1_2)))
theorem ti_243 : (.laysFinal "PageVaultModel" "PageVaultModel" "where" "[I" : Cond) ∈ lw_tbl := List.mem_append_right _ (List.mem_append_right _ (List.mem_append_left _ (List.mem_of_getElem? (i := 168) rfl : (.laysFinal "PageVaultModel" "PageVaultModel" "where" "[I" : Cond) ∈ tables_1_2)))
theorem ti_244 : (.laysFinal "PageVaultModel" "PageVaultModel" "much" "[I" : Cond) ∈ lw_tbl := List.mem_append_right _ (List.mem_append_right _ (List.mem_append_left _ (List.mem_of_getElem? (i := 170) rfl : (.laysFinal "PageVaultModel" "PageVaultModel" "much" "[I" : Cond) ∈ tables_1_2)))
theorem ti_245 : (.laysFinal "PageVaultModel" "PageVaultModel" "what" "[I" : Cond) ∈ lw_tbl := List.mem_append_right _ (List.mem_append_right _ (List.mem_append_left _ (List.mem_of_getElem? (i := 172) rfl : (.laysFinal "PageVaultModel" "PageVaultModel" "what" "[I" : Cond) ∈ tables_1_2)))
theorem ti_246 : (.lays "PageVaultModel" "PageVaultModel" "deeds" "I" : Cond) ∈ lw_tbl := List.mem_append_right _ (List.mem_append_right _ (List.mem_append_left _ (List.mem_of_getElem? (i := 174) rfl : (.lays "PageVaultModel" "PageVaultModel" "deeds" "I" : Cond) ∈ tables_1_2)))
set_option maxRecDepth 100000 in
theorem TG_in : ∀ w ∈ TG, w ∈ lw_tbl := List.forall_mem_cons.mpr ⟨ti_0, List.forall_mem_cons.mpr ⟨ti_1, List.forall_mem_cons.mpr ⟨ti_2, List.forall_mem_cons.mpr ⟨ti_3, List.forall_mem_cons.mpr ⟨ti_4, List.forall_mem_cons.mpr ⟨ti_5, List.forall_mem_cons.mpr ⟨ti_6, List.forall_mem_cons.mpr ⟨ti_7, List.forall_mem_cons.mpr ⟨ti_8, List.forall_mem_cons.mpr ⟨ti_9, List.forall_mem_cons.mpr ⟨ti_10, List.forall_mem_cons.mpr ⟨ti_11, List.forall_mem_cons.mpr ⟨ti_12, List.forall_mem_cons.mpr ⟨ti_13, List.forall_mem_cons.mpr ⟨ti_14, List.forall_mem_cons.mpr ⟨ti_15, List.forall_mem_cons.mpr ⟨ti_16, List.forall_mem_cons.mpr ⟨ti_17, List.forall_mem_cons.mpr ⟨ti_18, List.forall_mem_cons.mpr ⟨ti_19, List.forall_mem_cons.mpr ⟨ti_20, List.forall_mem_cons.mpr ⟨ti_21, List.forall_mem_cons.mpr ⟨ti_22, List.forall_mem_cons.mpr ⟨ti_23, List.forall_mem_cons.mpr ⟨ti_24, List.forall_mem_cons.mpr ⟨ti_25, List.forall_mem_cons.mpr ⟨ti_26, List.forall_mem_cons.mpr ⟨ti_27, List.forall_mem_cons.mpr ⟨ti_28, List.forall_mem_cons.mpr ⟨ti_29, List.forall_mem_cons.mpr ⟨ti_30, List.forall_mem_cons.mpr ⟨ti_31, List.forall_mem_cons.mpr ⟨ti_32, List.forall_mem_cons.mpr ⟨ti_33, List.forall_mem_cons.mpr ⟨ti_34, List.forall_mem_cons.mpr ⟨ti_35, List.forall_mem_cons.mpr ⟨ti_36, List.forall_mem_cons.mpr ⟨ti_37, List.forall_mem_cons.mpr ⟨ti_38, List.forall_mem_cons.mpr ⟨ti_39, List.forall_mem_cons.mpr ⟨ti_40, List.forall_mem_cons.mpr ⟨ti_41, List.forall_mem_cons.mpr ⟨ti_42, List.forall_mem_cons.mpr ⟨ti_43, List.forall_mem_cons.mpr ⟨ti_44, List.forall_mem_cons.mpr ⟨ti_45, List.forall_mem_cons.mpr ⟨ti_46, List.forall_mem_cons.mpr ⟨ti_47, List.forall_mem_cons.mpr ⟨ti_48, List.forall_mem_cons.mpr ⟨ti_49, List.forall_mem_cons.mpr ⟨ti_50, List.forall_mem_cons.mpr ⟨ti_51, List.forall_mem_cons.mpr ⟨ti_52, List.forall_mem_cons.mpr ⟨ti_53, List.forall_mem_cons.mpr ⟨ti_54, List.forall_mem_cons.mpr ⟨ti_55, List.forall_mem_cons.mpr ⟨ti_56, List.forall_mem_cons.mpr ⟨ti_57, List.forall_mem_cons.mpr ⟨ti_58, List.forall_mem_cons.mpr ⟨ti_59, List.forall_mem_cons.mpr ⟨ti_60, List.forall_mem_cons.mpr ⟨ti_61, List.forall_mem_cons.mpr ⟨ti_62, List.forall_mem_cons.mpr ⟨ti_63, List.forall_mem_cons.mpr ⟨ti_64, List.forall_mem_cons.mpr ⟨ti_65, List.forall_mem_cons.mpr ⟨ti_66, List.forall_mem_cons.mpr ⟨ti_67, List.forall_mem_cons.mpr ⟨ti_68, List.forall_mem_cons.mpr ⟨ti_69, List.forall_mem_cons.mpr ⟨ti_70, List.forall_mem_cons.mpr ⟨ti_71, List.forall_mem_cons.mpr ⟨ti_72, List.forall_mem_cons.mpr ⟨ti_73, List.forall_mem_cons.mpr ⟨ti_74, List.forall_mem_cons.mpr ⟨ti_75, List.forall_mem_cons.mpr ⟨ti_76, List.forall_mem_cons.mpr ⟨ti_77, List.forall_mem_cons.mpr ⟨ti_78, List.forall_mem_cons.mpr ⟨ti_79, List.forall_mem_cons.mpr ⟨ti_80, List.forall_mem_cons.mpr ⟨ti_81, List.forall_mem_cons.mpr ⟨ti_82, List.forall_mem_cons.mpr ⟨ti_83, List.forall_mem_cons.mpr ⟨ti_84, List.forall_mem_cons.mpr ⟨ti_85, List.forall_mem_cons.mpr ⟨ti_86, List.forall_mem_cons.mpr ⟨ti_87, List.forall_mem_cons.mpr ⟨ti_88, List.forall_mem_cons.mpr ⟨ti_89, List.forall_mem_cons.mpr ⟨ti_90, List.forall_mem_cons.mpr ⟨ti_91, List.forall_mem_cons.mpr ⟨ti_92, List.forall_mem_cons.mpr ⟨ti_93, List.forall_mem_cons.mpr ⟨ti_94, List.forall_mem_cons.mpr ⟨ti_95, List.forall_mem_cons.mpr ⟨ti_96, List.forall_mem_cons.mpr ⟨ti_97, List.forall_mem_cons.mpr ⟨ti_98, List.forall_mem_cons.mpr ⟨ti_99, List.forall_mem_cons.mpr ⟨ti_100, List.forall_mem_cons.mpr ⟨ti_101, List.forall_mem_cons.mpr ⟨ti_102, List.forall_mem_cons.mpr ⟨ti_103, List.forall_mem_cons.mpr ⟨ti_104, List.forall_mem_cons.mpr ⟨ti_105, List.forall_mem_cons.mpr ⟨ti_106, List.forall_mem_cons.mpr ⟨ti_107, List.forall_mem_cons.mpr ⟨ti_108, List.forall_mem_cons.mpr ⟨ti_109, List.forall_mem_cons.mpr ⟨ti_110, List.forall_mem_cons.mpr ⟨ti_111, List.forall_mem_cons.mpr ⟨ti_112, List.forall_mem_cons.mpr ⟨ti_113, List.forall_mem_cons.mpr ⟨ti_114, List.forall_mem_cons.mpr ⟨ti_115, List.forall_mem_cons.mpr ⟨ti_116, List.forall_mem_cons.mpr ⟨ti_117, List.forall_mem_cons.mpr ⟨ti_118, List.forall_mem_cons.mpr ⟨ti_119, List.forall_mem_cons.mpr ⟨ti_120, List.forall_mem_cons.mpr ⟨ti_121, List.forall_mem_cons.mpr ⟨ti_122, List.forall_mem_cons.mpr ⟨ti_123, List.forall_mem_cons.mpr ⟨ti_124, List.forall_mem_cons.mpr ⟨ti_125, List.forall_mem_cons.mpr ⟨ti_126, List.forall_mem_cons.mpr ⟨ti_127, List.forall_mem_cons.mpr ⟨ti_128, List.forall_mem_cons.mpr ⟨ti_129, List.forall_mem_cons.mpr ⟨ti_130, List.forall_mem_cons.mpr ⟨ti_131, List.forall_mem_cons.mpr ⟨ti_132, List.forall_mem_cons.mpr ⟨ti_133, List.forall_mem_cons.mpr ⟨ti_134, List.forall_mem_cons.mpr ⟨ti_135, List.forall_mem_cons.mpr ⟨ti_136, List.forall_mem_cons.mpr ⟨ti_137, List.forall_mem_cons.mpr ⟨ti_138, List.forall_mem_cons.mpr ⟨ti_139, List.forall_mem_cons.mpr ⟨ti_140, List.forall_mem_cons.mpr ⟨ti_141, List.forall_mem_cons.mpr ⟨ti_142, List.forall_mem_cons.mpr ⟨ti_143, List.forall_mem_cons.mpr ⟨ti_144, List.forall_mem_cons.mpr ⟨ti_145, List.forall_mem_cons.mpr ⟨ti_146, List.forall_mem_cons.mpr ⟨ti_147, List.forall_mem_cons.mpr ⟨ti_148, List.forall_mem_cons.mpr ⟨ti_149, List.forall_mem_cons.mpr ⟨ti_150, List.forall_mem_cons.mpr ⟨ti_151, List.forall_mem_cons.mpr ⟨ti_152, List.forall_mem_cons.mpr ⟨ti_153, List.forall_mem_cons.mpr ⟨ti_154, List.forall_mem_cons.mpr ⟨ti_155, List.forall_mem_cons.mpr ⟨ti_156, List.forall_mem_cons.mpr ⟨ti_157, List.forall_mem_cons.mpr ⟨ti_158, List.forall_mem_cons.mpr ⟨ti_159, List.forall_mem_cons.mpr ⟨ti_160, List.forall_mem_cons.mpr ⟨ti_161, List.forall_mem_cons.mpr ⟨ti_162, List.forall_mem_cons.mpr ⟨ti_163, List.forall_mem_cons.mpr ⟨ti_164, List.forall_mem_cons.mpr ⟨ti_165, List.forall_mem_cons.mpr ⟨ti_166, List.forall_mem_cons.mpr ⟨ti_167, List.forall_mem_cons.mpr ⟨ti_168, List.forall_mem_cons.mpr ⟨ti_169, List.forall_mem_cons.mpr ⟨ti_170, List.forall_mem_cons.mpr ⟨ti_171, List.forall_mem_cons.mpr ⟨ti_172, List.forall_mem_cons.mpr ⟨ti_173, List.forall_mem_cons.mpr ⟨ti_174, List.forall_mem_cons.mpr ⟨ti_175, List.forall_mem_cons.mpr ⟨ti_176, List.forall_mem_cons.mpr ⟨ti_177, List.forall_mem_cons.mpr ⟨ti_178, List.forall_mem_cons.mpr ⟨ti_179, List.forall_mem_cons.mpr ⟨ti_180, List.forall_mem_cons.mpr ⟨ti_181, List.forall_mem_cons.mpr ⟨ti_182, List.forall_mem_cons.mpr ⟨ti_183, List.forall_mem_cons.mpr ⟨ti_184, List.forall_mem_cons.mpr ⟨ti_185, List.forall_mem_cons.mpr ⟨ti_186, List.forall_mem_cons.mpr ⟨ti_187, List.forall_mem_cons.mpr ⟨ti_188, List.forall_mem_cons.mpr ⟨ti_189, List.forall_mem_cons.mpr ⟨ti_190, List.forall_mem_cons.mpr ⟨ti_191, List.forall_mem_cons.mpr ⟨ti_192, List.forall_mem_cons.mpr ⟨ti_193, List.forall_mem_cons.mpr ⟨ti_194, List.forall_mem_cons.mpr ⟨ti_195, List.forall_mem_cons.mpr ⟨ti_196, List.forall_mem_cons.mpr ⟨ti_197, List.forall_mem_cons.mpr ⟨ti_198, List.forall_mem_cons.mpr ⟨ti_199, List.forall_mem_cons.mpr ⟨ti_200, List.forall_mem_cons.mpr ⟨ti_201, List.forall_mem_cons.mpr ⟨ti_202, List.forall_mem_cons.mpr ⟨ti_203, List.forall_mem_cons.mpr ⟨ti_204, List.forall_mem_cons.mpr ⟨ti_205, List.forall_mem_cons.mpr ⟨ti_206, List.forall_mem_cons.mpr ⟨ti_207, List.forall_mem_cons.mpr ⟨ti_208, List.forall_mem_cons.mpr ⟨ti_209, List.forall_mem_cons.mpr ⟨ti_210, List.forall_mem_cons.mpr ⟨ti_211, List.forall_mem_cons.mpr ⟨ti_212, List.forall_mem_cons.mpr ⟨ti_213, List.forall_mem_cons.mpr ⟨ti_214, List.forall_mem_cons.mpr ⟨ti_215, List.forall_mem_cons.mpr ⟨ti_216, List.forall_mem_cons.mpr ⟨ti_217, List.forall_mem_cons.mpr ⟨ti_218, List.forall_mem_cons.mpr ⟨ti_219, List.forall_mem_cons.mpr ⟨ti_220, List.forall_mem_cons.mpr ⟨ti_221, List.forall_mem_cons.mpr ⟨ti_222, List.forall_mem_cons.mpr ⟨ti_223, List.forall_mem_cons.mpr ⟨ti_224, List.forall_mem_cons.mpr ⟨ti_225, List.forall_mem_cons.mpr ⟨ti_226, List.forall_mem_cons.mpr ⟨ti_227, List.forall_mem_cons.mpr ⟨ti_228, List.forall_mem_cons.mpr ⟨ti_229, List.forall_mem_cons.mpr ⟨ti_230, List.forall_mem_cons.mpr ⟨ti_231, List.forall_mem_cons.mpr ⟨ti_232, List.forall_mem_cons.mpr ⟨ti_233, List.forall_mem_cons.mpr ⟨ti_234, List.forall_mem_cons.mpr ⟨ti_235, List.forall_mem_cons.mpr ⟨ti_236, List.forall_mem_cons.mpr ⟨ti_237, List.forall_mem_cons.mpr ⟨ti_238, List.forall_mem_cons.mpr ⟨ti_239, List.forall_mem_cons.mpr ⟨ti_240, List.forall_mem_cons.mpr ⟨ti_241, List.forall_mem_cons.mpr ⟨ti_242, List.forall_mem_cons.mpr ⟨ti_243, List.forall_mem_cons.mpr ⟨ti_244, List.forall_mem_cons.mpr ⟨ti_245, List.forall_mem_cons.mpr ⟨ti_246, fun _ h => absurd h List.not_mem_nil⟩⟩⟩⟩⟩⟩⟩⟩⟩⟩⟩⟩⟩⟩⟩⟩⟩⟩⟩⟩⟩⟩⟩⟩⟩⟩⟩⟩⟩⟩⟩⟩⟩⟩⟩⟩⟩⟩⟩⟩⟩⟩⟩⟩⟩⟩⟩⟩⟩⟩⟩⟩⟩⟩⟩⟩⟩⟩⟩⟩⟩⟩⟩⟩⟩⟩⟩⟩⟩⟩⟩⟩⟩⟩⟩⟩⟩⟩⟩⟩⟩⟩⟩⟩⟩⟩⟩⟩⟩⟩⟩⟩⟩⟩⟩⟩⟩⟩⟩⟩⟩⟩⟩⟩⟩⟩⟩⟩⟩⟩⟩⟩⟩⟩⟩⟩⟩⟩⟩⟩⟩⟩⟩⟩⟩⟩⟩⟩⟩⟩⟩⟩⟩⟩⟩⟩⟩⟩⟩⟩⟩⟩⟩⟩⟩⟩⟩⟩⟩⟩⟩⟩⟩⟩⟩⟩⟩⟩⟩⟩⟩⟩⟩⟩⟩⟩⟩⟩⟩⟩⟩⟩⟩⟩⟩⟩⟩⟩⟩⟩⟩⟩⟩⟩⟩⟩⟩⟩⟩⟩⟩⟩⟩⟩⟩⟩⟩⟩⟩⟩⟩⟩⟩⟩⟩⟩⟩⟩⟩⟩⟩⟩⟩⟩⟩⟩⟩⟩⟩⟩⟩⟩⟩⟩⟩⟩⟩⟩⟩⟩⟩⟩⟩⟩⟩⟩⟩⟩⟩⟩⟩⟩⟩⟩⟩⟩⟩
theorem TG_all : TG.all goodWord = true := by decide +kernel
theorem TG_good : ∀ w ∈ TG, (w.onTables && w.keeps) = true ∨ ∃ ty, w = .arrayClass ty := fun w h => good_of_word (List.all_eq_true.mp TG_all w h)
theorem i_V : ∀ w ∈ u_ws "PageVault" F_V 4, w ∈ TG := by decide +kernel
theorem i_F : ∀ w ∈ u_ws "PageVault$Frames" F_F 3, w ∈ TG := by decide +kernel
theorem i_S : ∀ w ∈ u_ws "PageVault$Space" F_S 3, w ∈ TG := by decide +kernel
theorem i_M : ∀ w ∈ u_ws "PageVaultModel" F_M 19, w ∈ TG := by decide +kernel
/-- links across the nest: they are carried, not read off the words -/
def NL : List Cond := ([.methodLinkNest "PageVault$Space" 78 y_V_frameOf "PageVault", .methodLinkNest "PageVault$Space" 72 y_V_entryOf "PageVault", .methodLinkNest "PageVault$Space" 85 y_V_flagsOf "PageVault"] : List Cond)
theorem nl_0 : (.methodLinkNest "PageVault$Space" 78 y_V_frameOf "PageVault" : Cond) ∈ NL := List.mem_of_getElem? (i := 0) rfl
theorem nl_1 : (.methodLinkNest "PageVault$Space" 72 y_V_entryOf "PageVault" : Cond) ∈ NL := List.mem_of_getElem? (i := 1) rfl
theorem nl_2 : (.methodLinkNest "PageVault$Space" 85 y_V_flagsOf "PageVault" : Cond) ∈ NL := List.mem_of_getElem? (i := 2) rfl
theorem NL_t : ∀ w ∈ NL, w.onTables = true := by decide +kernel
theorem NL_warm {s U : State} (hW : s.WarmedH U.vm) : ∀ w ∈ NL, va_Nw w s → va_Nw w U := by
  intro w hw h
  simp only [NL, List.mem_cons, List.not_mem_nil, or_false] at hw
  rcases hw with rfl | rfl | rfl <;> exact va_Nw.warmM hW h
end
section
/-! Worlds by an index: cell i lies at the address ad i and holds cel i; contracts over them. Needs: classes, TG, TG_good. -/
def iw (ad : Nat → Nat) (N : Nat) (cel : Nat → va_E) : va_W := (List.range N).map fun i => (ad i, cel i)
def iA (ad : Nat → Nat) (N : Nat) : Nat → Prop := fun q => ∃ i, i < N ∧ q = ad i
def iJ (ad : Nat → Nat) (N : Nat) : Prop := ∀ i j, i < N → j < N → ad i = ad j → i = j
theorem iw_at {ad : Nat → Nat} {N : Nat} {cel : Nat → va_E} {k : Nat} {q : Nat × va_E} (h : (iw ad N cel)[k]? = some q) : k < N ∧ q = (ad k, cel k) := by
  unfold iw at h
  rw [List.getElem?_map] at h
  by_cases hk : k < N
  · rw [List.getElem?_range hk] at h
    exact ⟨hk, (Option.some.inj h).symm⟩
  · rw [List.getElem?_eq_none (by rw [List.length_range]; omega)] at h
    cases h
theorem iw_get {ad : Nat → Nat} {N : Nat} {cel : Nat → va_E} {i : Nat} (h : i < N) : (iw ad N cel)[i]? = some (ad i, cel i) := by
  unfold iw
  rw [List.getElem?_map, List.getElem?_range h]
  rfl
theorem iw_set {ad : Nat → Nat} {N : Nat} {cel : Nat → va_E} {i : Nat} {e : va_E} (h : i < N) : (iw ad N cel).set i (ad i, e) = iw ad N (va_up cel i e) := by
  apply List.ext_getElem?
  intro j
  rw [List.getElem?_set]
  by_cases hj : i = j
  · subst hj
    rw [if_pos rfl, iw_get h, va_up_self, if_pos (by unfold iw; rw [List.length_map, List.length_range]; exact h)]
  · rw [if_neg hj]
    by_cases hN : j < N
    · rw [iw_get hN, iw_get hN, va_up_ne _ _ (fun q => hj q.symm)]
    · unfold iw
      rw [List.getElem?_eq_none (by rw [List.length_map, List.length_range]; omega), List.getElem?_eq_none (by rw [List.length_map, List.length_range]; omega)]
theorem iw_D {ad : Nat → Nat} {N : Nat} {cel : Nat → va_E} (h : iJ ad N) : va_D (iA ad N) (iw ad N cel) := by
  refine ⟨fun i j p q hp hq e => ?_, fun k q hk => ?_⟩
  · obtain ⟨hi, rfl⟩ := iw_at hp
    obtain ⟨hj, rfl⟩ := iw_at hq
    exact h i j hi hj e
  · obtain ⟨h1, rfl⟩ := iw_at hk
    exact ⟨k, h1, rfl⟩
theorem iw_cong {D : va_G} {cl : List vw_C} {ad : Nat → Nat} {N : Nat} {cel cel' : Nat → va_E} {H : Heap} (h : va_P D cl (iw ad N cel) H) (hc : ∀ i, i < N → va_at D cl (ad i, cel i) H → va_at D cl (ad i, cel' i) H) : va_P D cl (iw ad N cel') H := by
  intro k q hk
  obtain ⟨h1, rfl⟩ := iw_at hk
  exact hc k h1 (h k _ (iw_get h1))
theorem iw_eq {D : va_G} {cl : List vw_C} {ad : Nat → Nat} {N : Nat} {cel cel' : Nat → va_E} {H : Heap} (h : va_P D cl (iw ad N cel) H) (hc : cel = cel') : va_P D cl (iw ad N cel') H := hc ▸ h
theorem iw_kept {D : va_G} {cl : List vw_C} {ad : Nat → Nat} {N : Nat} {cel : Nat → va_E} {H H1 : Heap} (h : va_P D cl (iw ad N cel) H) (hq : ∀ q, iA ad N q → H1[q]? = H[q]?) : va_P D cl (iw ad N cel) H1 := h.kept (fun k q hk => by
  obtain ⟨h1, rfl⟩ := iw_at hk
  exact hq _ ⟨k, h1, rfl⟩)
theorem iw_lt {D : va_G} {cl : List vw_C} {ad : Nat → Nat} {N : Nat} {cel : Nat → va_E} {H : Heap} (h : va_P D cl (iw ad N cel) H) {i : Nat} (hi : i < N) : ad i < H.size := (h i _ (iw_get hi)).lt
/-- the same ints below the length: the same array -/
theorem arr_cong {D : va_G} {cl : List vw_C} {a : Nat} {cA : ClassId} {n : Nat} {f g : Nat → Int32} {H : Heap} (h : va_at D cl (a, .inl (cA, n, .inl f)) H) (hfg : ∀ j, j < n → f j = g j) : va_at D cl (a, .inl (cA, n, .inl g)) H := by
  have e : vp_cell cA (n, .inl f) = vp_cell cA (n, .inl g) := by
    rw [vp_cell_i, vp_cell_i]
    unfold arrV
    congr 1
    congr 1
    funext j
    show Value.int (f j.val) = Value.int (g j.val)
    rw [hfg j.val j.isLt]
  show H[a]? = some (vp_cell cA (n, .inl g))
  rw [← e]
  exact h
/-! Contracts over an indexed world -/
def KnOk (Kn : State → Prop) : Prop := (∀ (U : State) (g : JFrame) (mk : MethodId) (a : Array Value), Kn U → Kn (U.calling g mk a)) ∧ ∀ (s U : State), s.WarmedH U.vm → Kn s → Kn U
def gPre (D : va_G) (ad : Nat → Nat) (N : Nat) (Kn : State → Prop) (av : List Value) (cel : Nat → va_E) : Array Value → State → Prop :=
  va_Pc av (fun U => va_P D classes (iw ad N cel) U.heap ∧ Kn U)
def gPost (D : va_G) (ad : Nat → Nat) (N : Nat) (out : Option Value) (cel : Nat → va_E) : Array Value → State → Outcome → State → Prop :=
  fun _ st oc t => oc = .returned out ∧ va_P D classes (iw ad N cel) t.heap ∧ va_F (iA ad N) st t
def FC (l : Launch) (D : va_G) (ad : Nat → Nat) (N : Nat) (Kn : State → Prop) (y : MethodName) (bytes : ByteArray) (maxL : Nat) (ret : Option FieldType) (rm : Room) (av : List Value) (cel : Nat → va_E) (out : Option Value) (cel' : Nat → va_E) : Prop :=
  Met l y (.code y bytes maxL ret :: TG) rm (gPre D ad N Kn av cel) (gPost D ad N out cel') 0 0 (iA ad N)
set_option maxHeartbeats 4000000 in
theorem FC_intro {l : Launch} {D : va_G} {ad : Nat → Nat} {N : Nat} {Kn : State → Prop} {y : MethodName} {bytes : ByteArray} {maxL : Nat} {ret : Option FieldType} {rm : Room} {av : List Value} {cel : Nat → va_E} {out : Option Value} {cel' : Nat → va_E}
    (hy : plainName y.cls = true) (hlen : (lg_sl av).length ≤ maxL)
    (body : ∀ (p : Program) (e : Env) (s : State) (m : MethodId) (below : List Frame) (meth : Method) (c : Code) (ls : Array Slot),
      CallFix p m c bytes maxL s av.toArray TG y.cls → meth.sig.returnType = ret → meth.locks = false → Kn s →
      va_P D classes (iw ad N cel) s.heap → va_S (iA ad N) s.heap s.heap [] → lv_has ls maxL (lv_args 0 av) →
      W p l e rm s m av.toArray below meth c s.heap [] 0 0 (MQ below (gPost D ad N out cel') av.toArray s 0 0 (iA ad N)) (F0 m 0 ls [])) :
    FC l D ad N Kn y bytes maxL ret rm av cel out cel' := by
  refine Met.ofW (cc := bytes) (maxL := maxL) (ret := ret) hy rfl ?_
  intro p e s m args below meth c s₁ B hml hv
  obtain ⟨rfl, hP, hK⟩ := hv
  have hts := atoms_spec (ws := .code y bytes maxL ret :: TG) B.pre
  have hl := lv_entry av hlen
  rw [lg_entry_eq]
  exact body p e s m below meth c _ ⟨B.exec, B.bytes, hml, findClass_of_methodNamed B.named, fun w h => hts w (List.mem_cons_of_mem _ h)⟩ B.returns B.notSynchronized hK hP va_S.rf hl
/-- what a call of an instance method needs of the tables -/
def CIv (own : String) (index : Nat) (y : MethodName) (bytes : ByteArray) (maxL : Nat) (ret : Option FieldType) (n : Nat) : Prop :=
  Cond.code y bytes maxL ret ∈ TG ∧ Cond.initialized y.cls ∈ TG ∧ Cond.methodLink own index y ∈ TG ∧ Cond.instanceMethod y ∈ TG ∧ Cond.selects y.cls y y ∈ TG ∧ (y.cls ≠ "java/lang/invoke/MethodHandle" ∧ y.cls ≠ "java/lang/invoke/VarHandle") ∧ (parseMethodDescriptor y.desc).map (fun d => d.parameters.length) = some n
/-- .. of a static one -/
def CIs (own : String) (index : Nat) (y : MethodName) (bytes : ByteArray) (maxL : Nat) (ret : Option FieldType) (n : Nat) : Prop :=
  Cond.code y bytes maxL ret ∈ TG ∧ Cond.initialized y.cls ∈ TG ∧ Cond.methodLink own index y ∈ TG ∧ Cond.static y ∈ TG ∧ (y.cls ≠ "java/lang/invoke/MethodHandle" ∧ y.cls ≠ "java/lang/invoke/VarHandle") ∧ (parseMethodDescriptor y.desc).map (fun d => d.parameters.length) = some n
/-- .. of a private static one of a nest mate (the link itself is carried) -/
def CIn (y : MethodName) (bytes : ByteArray) (maxL : Nat) (ret : Option FieldType) (n : Nat) : Prop :=
  Cond.code y bytes maxL ret ∈ TG ∧ Cond.initialized y.cls ∈ TG ∧ Cond.static y ∈ TG ∧ (y.cls ≠ "java/lang/invoke/MethodHandle" ∧ y.cls ≠ "java/lang/invoke/VarHandle") ∧ (parseMethodDescriptor y.desc).map (fun d => d.parameters.length) = some n
def RmOk (rm R : Room) (maxL : Nat) : Prop := rm.cells = 0 ∧ rm.slots = 0 ∧ rm.frames + 1 ≤ R.frames ∧ 8 + (maxL + 11) + rm.locals ≤ R.locals
section GC
variable {p : Program} {l : Launch} {e : Env} {R : Room} {s : State} {m : MethodId} {args : Array Value} {below : List Frame} {meth : Method} {c : Code} {H : Heap} {locs : List Loc} {cells slots : Nat} {Q : State → Prop}
variable {cc : ByteArray} {nL pc : Nat} {ls : Array Slot} {rest st0 : List Value} {own : String} {D : va_G} {ad : Nat → Nat} {N : Nat} {Kn : State → Prop} {cel cel' : Nat → va_E} {out : Option Value} {A0 : Nat → Prop} {H0 : Heap}
variable {y : MethodName} {bytes : ByteArray} {maxL index n : Nat} {ret : Option FieldType} {rm : Room} {b : Nat} {As : List Value}
theorem TG_pay (hts : ∀ w ∈ TG, w.before args s = true) (hc : Cond.code y bytes maxL ret ∈ TG) : ∀ w ∈ (Cond.code y bytes maxL ret :: TG), ∀ (a' : Array Value) (U : State), s.WarmedH U.vm → w.before a' U = true := by
  intro w hw a' U hW
  rcases List.mem_cons.mp hw with rfl | h
  · exact word_at hW (TG_good _ hc) (hts _ hc)
  · exact word_at hW (TG_good _ h) (hts _ h)
theorem gPre_blind {av : List Value} (hKo : KnOk Kn) : FrameBlind (gPre D ad N Kn av cel) := fun a U g mk q => ⟨q.1, q.2.1, hKo.1 U g mk a q.2.2⟩
theorem par_n {desc : String} (h : (parseMethodDescriptor desc).map (fun d => d.parameters.length) = some n) : ∀ sig, parseMethodDescriptor desc = some sig → n = sig.parameters.length := fun sig hs => by
  rw [hs] at h
  exact (Option.some.inj h).symm
/-- behind a call -/
theorem g_back (hr : va_Run p l e R s m args below meth c H locs cells slots 0 0 (F0 m pc ls st0) rest (gPost D ad N out cel' As.toArray) (iA ad N)) (hS : va_S A0 H0 H locs) (hA : ∀ q, iA ad N q → A0 q)
    (kk : ∀ (H1 : Heap) (locs1 : List Loc), va_P D classes (iw ad N cel') H1 → va_S A0 H0 H1 locs1 → (∀ q : Nat, q < H.size → ¬ iA ad N q → H1[q]? = H[q]?) → W p l e R s m args below meth c H1 locs1 cells slots Q (F0 m (pc + 3) ls (out.toList ++ rest))) : W p l e R s m args below meth c H locs cells slots Q (F0 m pc ls st0) := by
  intro T hT X
  obtain ⟨v, st₀, t, T', L, h0, X', hL, e1, e2, ⟨hv, hPt, hz, hk⟩, st⟩ := hr T hT X
  cases hv
  rw [h0] at hz hk
  obtain ⟨t2, a1, b1⟩ := kk T'.heap (locs ++ L) (by rw [e1]; exact hPt)
    ⟨Nat.le_trans hS.1 (by rw [e1]; exact hz), fun q h1 h2 => by rw [e1, hk q (Nat.lt_of_lt_of_le h1 hS.1) (fun z => h2 (hA q z))]; exact hS.2.1 q h1 h2, fun q hq => by
      rcases List.mem_append.mp hq with h | h
      · exact hS.2.2 q h
      · exact hA _ (hL q h)⟩ (fun q h1 h2 => by rw [e1]; exact hk q h1 h2) T' rfl X'
  exact ⟨t2, st t2 a1, b1⟩
theorem g_callV (S : CallFix p m c cc nL s args TG own) (hKo : KnOk Kn) (hK : Kn s) (I : CIv own index y bytes maxL ret n) (hM : FC l D ad N Kn y bytes maxL ret rm (.ref b :: As) cel out cel')
    (hrec : ∃ cellB : Cell, H[b]? = some cellB ∧ cellB.vm.isStatics = false ∧ s.vm.findClass y.cls = some cellB.cls) (hP : va_P D classes (iw ad N cel) H) (hS : va_S A0 H0 H locs) (hA : ∀ q, iA ad N q → A0 q)
    (hR : RmOk rm R maxL) (hcs : cells ≤ R.cells ∧ slots ≤ R.slots) (hn : As.length = n) (hsz : ls.size = nL) (hst : st0 = As.reverse ++ .ref b :: rest) (hW : (rest.map fun v => v.category).sum ≤ 8) (hdg : decode cc pc = .ok (.invokevirtual index, 3))
    (kk : ∀ (H1 : Heap) (locs1 : List Loc), va_P D classes (iw ad N cel') H1 → va_S A0 H0 H1 locs1 → (∀ q : Nat, q < H.size → ¬ iA ad N q → H1[q]? = H[q]?) → W p l e R s m args below meth c H1 locs1 cells slots Q (F0 m (pc + 3) ls (out.toList ++ rest))) : W p l e R s m args below meth c H locs cells slots Q (F0 m pc ls st0) := by
  obtain ⟨i1, i2, i3, i4, i5, i6, i7⟩ := I
  have hts := S.2.2.2.2
  exact g_back (va_runV (As := As) (rest := rest) S hM ⟨⟨hR.1, hR.2.1, hR.2.2.1, hR.2.2.2, TG_pay hts i1, List.mem_cons_self, hts _ i1, hts _ i2, i6, par_n i7, hts _ i3⟩, hts _ i4, hts _ i5⟩
    ⟨gPre_blind hKo, hrec, fun U hU hW9 => ⟨rfl, by rw [hU]; exact hP, hKo.2 _ _ hW9 hK⟩⟩ rfl hn hsz hst (lv_room hW) hdg hcs) hS hA kk
theorem g_callS (S : CallFix p m c cc nL s args TG own) (hKo : KnOk Kn) (hK : Kn s) (I : CIs own index y bytes maxL ret n) (hM : FC l D ad N Kn y bytes maxL ret rm As cel out cel')
    (hP : va_P D classes (iw ad N cel) H) (hS : va_S A0 H0 H locs) (hA : ∀ q, iA ad N q → A0 q)
    (hR : RmOk rm R maxL) (hcs : cells ≤ R.cells ∧ slots ≤ R.slots) (hn : As.length = n) (hsz : ls.size = nL) (hst : st0 = As.reverse ++ rest) (hW : (rest.map fun v => v.category).sum ≤ 8) (hdg : decode cc pc = .ok (.invokestatic index, 3))
    (kk : ∀ (H1 : Heap) (locs1 : List Loc), va_P D classes (iw ad N cel') H1 → va_S A0 H0 H1 locs1 → (∀ q : Nat, q < H.size → ¬ iA ad N q → H1[q]? = H[q]?) → W p l e R s m args below meth c H1 locs1 cells slots Q (F0 m (pc + 3) ls (out.toList ++ rest))) : W p l e R s m args below meth c H locs cells slots Q (F0 m pc ls st0) := by
  obtain ⟨i1, i2, i3, i4, i6, i7⟩ := I
  have hts := S.2.2.2.2
  exact g_back (va_runS (As := As) (rest := rest) S hM ⟨⟨hR.1, hR.2.1, hR.2.2.1, hR.2.2.2, TG_pay hts i1, List.mem_cons_self, hts _ i1, hts _ i2, i6, par_n i7, hts _ i3⟩, hts _ i4⟩
    ⟨gPre_blind hKo, fun U hU hW9 => ⟨rfl, by rw [hU]; exact hP, hKo.2 _ _ hW9 hK⟩⟩ rfl hn hsz hst (lv_room hW) hdg hcs) hS hA kk
theorem g_callN {host : String} (S : CallFix p m c cc nL s args TG own) (hKo : KnOk Kn) (hK : Kn s) (I : CIn y bytes maxL ret n) (hL : va_Nw (.methodLinkNest own index y host) s) (hM : FC l D ad N Kn y bytes maxL ret rm As cel out cel')
    (hP : va_P D classes (iw ad N cel) H) (hS : va_S A0 H0 H locs) (hA : ∀ q, iA ad N q → A0 q)
    (hR : RmOk rm R maxL) (hcs : cells ≤ R.cells ∧ slots ≤ R.slots) (hn : As.length = n) (hsz : ls.size = nL) (hst : st0 = As.reverse ++ rest) (hW : (rest.map fun v => v.category).sum ≤ 8) (hdg : decode cc pc = .ok (.invokestatic index, 3))
    (kk : ∀ (H1 : Heap) (locs1 : List Loc), va_P D classes (iw ad N cel') H1 → va_S A0 H0 H1 locs1 → (∀ q : Nat, q < H.size → ¬ iA ad N q → H1[q]? = H[q]?) → W p l e R s m args below meth c H1 locs1 cells slots Q (F0 m (pc + 3) ls (out.toList ++ rest))) : W p l e R s m args below meth c H locs cells slots Q (F0 m pc ls st0) := by
  obtain ⟨i1, i2, i4, i6, i7⟩ := I
  have hts := S.2.2.2.2
  exact g_back (va_runSN (As := As) (rest := rest) S hM ⟨⟨⟨hR.1, hR.2.1, hR.2.2.1, hR.2.2.2, TG_pay hts i1, List.mem_cons_self⟩, hts _ i1, hts _ i2, i6, par_n i7, va_Nw.use rfl hL⟩, hts _ i4, trivial⟩
    ⟨gPre_blind hKo, fun U hU hW9 => ⟨rfl, by rw [hU]; exact hP, hKo.2 _ _ hW9 hK⟩⟩ rfl hn hsz hst (lv_room hW) hdg hcs) hS hA kk
/-- the receiver of a call: an object of the world -/
theorem g_rec {tys : List (ClassId × FieldType)} {ci i : Nat} {fs : List Value} {q : vw_C} {nm : String} (hK : va_K D classes tys s) (hP : va_P D classes (iw ad N cel) H) (hi : i < N) (he : cel i = .inr (ci, fs)) (hc : classes[ci]? = some q) (hnm : nm = q.1) : ∃ cellB : Cell, H[ad i]? = some cellB ∧ cellB.vm.isStatics = false ∧ s.vm.findClass nm = some cellB.cls := by
  subst hnm
  exact va_recv hK hP (q0 := i) hc (by rw [iw_get hi, he])
/-! one instruction, over an indexed world -/
variable {tys : List (ClassId × FieldType)}
theorem g_get {C ref : String} {T : u_T} {NN ci i k : Nat} {fs : List Value} {v : Value} (S : CallFix p m c cc nL s args TG own) (hK : va_K D classes tys s) (hP : va_P D classes (iw ad N cel) H) (hin : ∀ w ∈ u_ws C T NN, w ∈ TG) (hc : classes[ci]? = some (C, T, NN)) (hk : k < NN) (href : ref = (T k).1) (hi : i < N) (he : cel i = .inr (ci, fs)) (hv : fs[k]? = some v)
    (hlink : Cond.fieldLink own index ref (T k).2.1 (T k).2.2.1 ∈ TG) (hdg : decode cc pc = .ok (.getfield index, 3))
    (kk : W p l e R s m args below meth c H locs cells slots Q (F0 m (pc + 3) ls (v :: rest))) : W p l e R s m args below meth c H locs cells slots Q (F0 m pc ls (.ref (ad i) :: rest)) := by
  subst href
  exact va_get S.1 S.2.1 S.2.2.2.2 hin S.2.2.2.1 hK hP i (by rw [iw_get hi, he]) hc k hk (S.2.2.2.2 _ hlink) (fun _ h9 => h9) hv hdg kk
theorem g_put {C ref : String} {T : u_T} {NN ci i k : Nat} {fs : List Value} {v : Value} {ty : FieldType} {ty0 : Nat → FieldType} (S : CallFix p m c cc nL s args TG own) (hJ : iJ ad N) (hK : va_K D classes tys s) (hP : va_P D classes (iw ad N cel) H) (hS : va_S (iA ad N) H0 H locs) (hin : ∀ w ∈ u_ws C T NN, w ∈ TG) (hty : ∀ k, k < NN → parseFieldDescriptor (T k).2.2.1 = some (ty0 k)) (hnm : ∀ a, a < NN → ∀ b, b < NN → a ≠ b → (T a).2.1 ≠ (T b).2.1) (hc : classes[ci]? = some (C, T, NN)) (hk : k < NN) (href : ref = (T k).1) (hfin : (T k).2.2.2 = false) (hd : parseFieldDescriptor (T k).2.2.1 = some ty) (hi : i < N) (he : cel i = .inr (ci, fs)) (hl : k < fs.length) (hnw : narrow ty v = v) (hfit : fits ty v = true)
    (hlink : Cond.fieldLink own index ref (T k).2.1 (T k).2.2.1 ∈ TG) (hdg : decode cc pc = .ok (.putfield index, 3))
    (kk : ∀ (H1 : Heap) (locs1 : List Loc), va_P D classes (iw ad N (va_up cel i (.inr (ci, fs.set k v)))) H1 → va_S (iA ad N) H0 H1 locs1 → W p l e R s m args below meth c H1 locs1 cells slots Q (F0 m (pc + 3) ls rest)) : W p l e R s m args below meth c H locs cells slots Q (F0 m pc ls (v :: .ref (ad i) :: rest)) := by
  subst href
  exact va_put S.1 S.2.1 S.2.2.2.2 hin ty0 hty hnm S.2.2.2.1 hK hP (iw_D hJ) hS i (by rw [iw_get hi, he]) hc k hk (S.2.2.2.2 _ hlink) (fun _ h9 => h9) hfin hd hnw hfit hl hdg (fun H1 locs1 h1 _ h3 => kk H1 locs1 (by rw [← iw_set hi]; exact h1) h3)
theorem g_iald {i t0 : Nat} {cA : ClassId} {len : Nat} {f : Nat → Int32} {x : Int32} (S : CallFix p m c cc nL s args TG own) (hK : va_K D classes tys s) (hP : va_P D classes (iw ad N cel) H) (hi : i < N) (he : cel i = .inl (cA, len, .inl f)) (ht : tys[t0]? = some (cA, .int)) (hin : vp_in x len) (hdg : decode cc pc = .ok (.iaload, 1))
    (kk : W p l e R s m args below meth c H locs cells slots Q (F0 m (pc + 1) ls (.int (f x.toNatClampNeg) :: rest))) : W p l e R s m args below meth c H locs cells slots Q (F0 m pc ls (.int x :: .ref (ad i) :: rest)) :=
  va_iald S.1 S.2.1 hK hP i t0 (by rw [iw_get hi, he]) ht hin hdg kk
theorem g_iast {i t0 : Nat} {cA : ClassId} {len : Nat} {f : Nat → Int32} {x v : Int32} (S : CallFix p m c cc nL s args TG own) (hJ : iJ ad N) (hK : va_K D classes tys s) (hP : va_P D classes (iw ad N cel) H) (hS : va_S (iA ad N) H0 H locs) (hi : i < N) (he : cel i = .inl (cA, len, .inl f)) (ht : tys[t0]? = some (cA, .int)) (hin : vp_in x len) (hdg : decode cc pc = .ok (.iastore, 1))
    (kk : ∀ (H1 : Heap) (locs1 : List Loc), va_P D classes (iw ad N (va_up cel i (.inl (cA, len, .inl (upd f x.toNatClampNeg v))))) H1 → va_S (iA ad N) H0 H1 locs1 → W p l e R s m args below meth c H1 locs1 cells slots Q (F0 m (pc + 1) ls rest)) : W p l e R s m args below meth c H locs cells slots Q (F0 m pc ls (.int v :: .int x :: .ref (ad i) :: rest)) :=
  va_iast S.1 S.2.1 hK hP (iw_D hJ) hS i t0 (by rw [iw_get hi, he]) ht hin hdg (fun H1 locs1 h1 _ h3 => kk H1 locs1 (by rw [← iw_set hi]; exact h1) h3)
theorem g_alen {i t0 : Nat} {cA : ClassId} {x : vp_A} {ty : FieldType} (S : CallFix p m c cc nL s args TG own) (hK : va_K D classes tys s) (hP : va_P D classes (iw ad N cel) H) (hi : i < N) (he : cel i = .inl (cA, x)) (ht : tys[t0]? = some (cA, ty)) (hdg : decode cc pc = .ok (.arraylength, 1))
    (kk : W p l e R s m args below meth c H locs cells slots Q (F0 m (pc + 1) ls (.int (nI x.1) :: rest))) : W p l e R s m args below meth c H locs cells slots Q (F0 m pc ls (.ref (ad i) :: rest)) :=
  va_alen S.1 S.2.1 hK hP i t0 (by rw [iw_get hi, he]) ht (v := nI x.1) rfl hdg kk
/-! ends -/
theorem g_iret {v : Int32} (S : CallFix p m c cc nL s args TG own) (hr : meth.sig.returnType = some .int) (hlocks : meth.locks = false) (hP : va_P D classes (iw ad N cel) H) (hS : va_S (iA ad N) s.heap H locs) (hdg : decode cc pc = .ok (.ireturn, 1)) (ho : out = some (.int v)) (hc : cel' = cel) :
    W p l e R s m args below meth c H locs 0 0 (MQ below (gPost D ad N out cel') args s 0 0 (iA ad N)) (F0 m pc ls [.int v]) := by
  subst ho hc
  exact W.iret S.1 S.2.1 hr (fun t ht hW => ⟨rfl, by rw [ht]; exact hP, hS.F ht⟩) hS.2.2 hdg hlocks
theorem g_zret {v : Int32} {ty : FieldType} (S : CallFix p m c cc nL s args TG own) (hr : meth.sig.returnType = some ty) (hlocks : meth.locks = false) (hn : narrow ty (.int v) = .int v) (hP : va_P D classes (iw ad N cel) H) (hS : va_S (iA ad N) s.heap H locs) (hdg : decode cc pc = .ok (.ireturn, 1)) (ho : out = some (.int v)) (hc : cel' = cel) :
    W p l e R s m args below meth c H locs 0 0 (MQ below (gPost D ad N out cel') args s 0 0 (iA ad N)) (F0 m pc ls [.int v]) := by
  subst ho hc
  exact W.zret S.1 S.2.1 hr hn (fun t ht hW => ⟨rfl, by rw [ht]; exact hP, hS.F ht⟩) hS.2.2 hdg hlocks
theorem g_vret (S : CallFix p m c cc nL s args TG own) (hr : meth.sig.returnType = none) (hlocks : meth.locks = false) (hP : va_P D classes (iw ad N cel) H) (hS : va_S (iA ad N) s.heap H locs) (hdg : decode cc pc = .ok (.return_, 1)) (ho : out = none) (hc : cel' = cel) :
    W p l e R s m args below meth c H locs 0 0 (MQ below (gPost D ad N out cel') args s 0 0 (iA ad N)) (F0 m pc ls []) := by
  subst ho hc
  exact W.vret S.1 S.2.1 hr (fun t ht hW => ⟨rfl, by rw [ht]; exact hP, hS.F ht⟩) hS.2.2 hdg hlocks
theorem g_aret {v : Value} {rt : FieldType} (S : CallFix p m c cc nL s args TG own) (hr : meth.sig.returnType = some rt) (hlocks : meth.locks = false) (hrt : (∃ n, rt = .object n) ∨ ∃ t, rt = .array t) (hv : v = .null ∨ ∃ a, v = .ref a) (hP : va_P D classes (iw ad N cel) H) (hS : va_S (iA ad N) s.heap H locs) (hdg : decode cc pc = .ok (.areturn, 1)) (ho : out = some v) (hc : cel' = cel) :
    W p l e R s m args below meth c H locs 0 0 (MQ below (gPost D ad N out cel') args s 0 0 (iA ad N)) (F0 m pc ls [v]) := by
  subst ho hc
  exact W.aret S.1 S.2.1 hr hrt hv (fun t ht hW => ⟨rfl, by rw [ht]; exact hP, hS.F ht⟩) hS.2.2 hdg hlocks
end GC
end
section
/-! The class's state: what its cells hold, once it is made. Cells: 0 the vault, 1 the Frames, 2 spaces, 3 buffer, 4 words, 5 holders, 6 + k the Space k, 22 + f the words of frame f. -/
abbrev VS : Type := Int32 × Int32 × (Nat → Int32) × (Nat → Int32) × (Nat → Int32) × (Nat → Int32) × (Nat → Nat → Int32)
def v_trap (V : VS) : Int32 := V.1
def v_spare (V : VS) : Int32 := V.2.1
def v_buf (V : VS) : Nat → Int32 := V.2.2.1
def v_hold (V : VS) : Nat → Int32 := V.2.2.2.1
def v_root (V : VS) : Nat → Int32 := V.2.2.2.2.1
def v_len (V : VS) : Nat → Int32 := V.2.2.2.2.2.1
def v_words (V : VS) : Nat → Nat → Int32 := V.2.2.2.2.2.2
def s_trap (V : VS) (x : Int32) : VS := (x, V.2)
def s_spare (V : VS) (x : Int32) : VS := (V.1, x, V.2.2)
def s_buf (V : VS) (k : Nat) (x : Int32) : VS := (V.1, V.2.1, upd V.2.2.1 k x, V.2.2.2)
def s_hold (V : VS) (k : Nat) (x : Int32) : VS := (V.1, V.2.1, V.2.2.1, upd V.2.2.2.1 k x, V.2.2.2.2)
def s_root (V : VS) (k : Nat) (x : Int32) : VS := (V.1, V.2.1, V.2.2.1, V.2.2.2.1, upd V.2.2.2.2.1 k x, V.2.2.2.2.2)
def s_len (V : VS) (k : Nat) (x : Int32) : VS := (V.1, V.2.1, V.2.2.1, V.2.2.2.1, V.2.2.2.2.1, upd V.2.2.2.2.2.1 k x, V.2.2.2.2.2.2)
/-- a whole frame's words -/
def s_row (V : VS) (f : Nat) (r : Nat → Int32) : VS := (V.1, V.2.1, V.2.2.1, V.2.2.2.1, V.2.2.2.2.1, V.2.2.2.2.2.1, va_up V.2.2.2.2.2.2 f r)
def s_word (V : VS) (f j : Nat) (x : Int32) : VS := s_row V f (upd (v_words V f) j x)
def xN (n : Nat) : Nat := 22 + n
def xc (ad : Nat → Nat) (n : Nat) (cI cS cQ : ClassId) (V : VS) (i : Nat) : va_E := match i with
  | 0 => .inr (0, [.ref (ad 1), .ref (ad 2), .ref (ad 3), .int (v_trap V)])
  | 1 => .inr (1, [.ref (ad 4), .ref (ad 5), .int (v_spare V)])
  | 2 => .inl (cS, 16, .inr (.inr (.inr (.inr (fun k => some (ad (6 + k)))))))
  | 3 => .inl (cI, 512, .inl (v_buf V))
  | 4 => .inl (cQ, n, .inr (.inr (.inr (.inr (fun f => some (ad (22 + f)))))))
  | 5 => .inl (cI, n, .inl (v_hold V))
  | i + 6 => if i < 16 then .inr (2, [.ref (ad 1), .int (v_root V i), .int (v_len V i)]) else .inl (cI, 1024, .inl (v_words V (i - 16)))
theorem xc_sp {ad : Nat → Nat} {n : Nat} {cI cS cQ : ClassId} {V : VS} {k : Nat} (hk : k < 16) : xc ad n cI cS cQ V (6 + k) = .inr (2, [.ref (ad 1), .int (v_root V k), .int (v_len V k)]) := by
  rw [Nat.add_comm 6 k]
  exact if_pos hk
theorem xc_row {ad : Nat → Nat} {n : Nat} {cI cS cQ : ClassId} {V : VS} {f : Nat} : xc ad n cI cS cQ V (22 + f) = .inl (cI, 1024, .inl (v_words V f)) := by
  have e : 22 + f = (16 + f) + 6 := by omega
  rw [e]
  show (if 16 + f < 16 then _ else _) = _
  rw [if_neg (by omega), show 16 + f - 16 = f by omega]
/-- the cells' changes, by the state's -/
theorem xc_trap {ad : Nat → Nat} {n : Nat} {cI cS cQ : ClassId} {V : VS} {x : Int32} : va_up (xc ad n cI cS cQ V) 0 (.inr (0, [.ref (ad 1), .ref (ad 2), .ref (ad 3), .int x])) = xc ad n cI cS cQ (s_trap V x) := by
  funext i
  match i with
  | 0 => rfl
  | 1 => rfl
  | 2 => rfl
  | 3 => rfl
  | 4 => rfl
  | 5 => rfl
  | i + 6 => rfl
theorem xc_spare {ad : Nat → Nat} {n : Nat} {cI cS cQ : ClassId} {V : VS} {x : Int32} : va_up (xc ad n cI cS cQ V) 1 (.inr (1, [.ref (ad 4), .ref (ad 5), .int x])) = xc ad n cI cS cQ (s_spare V x) := by
  funext i
  match i with
  | 0 => rfl
  | 1 => rfl
  | 2 => rfl
  | 3 => rfl
  | 4 => rfl
  | 5 => rfl
  | i + 6 => rfl
theorem xc_buf {ad : Nat → Nat} {n : Nat} {cI cS cQ : ClassId} {V : VS} {k : Nat} {x : Int32} : va_up (xc ad n cI cS cQ V) 3 (.inl (cI, 512, .inl (upd (v_buf V) k x))) = xc ad n cI cS cQ (s_buf V k x) := by
  funext i
  match i with
  | 0 => rfl
  | 1 => rfl
  | 2 => rfl
  | 3 => rfl
  | 4 => rfl
  | 5 => rfl
  | i + 6 => rfl
theorem xc_hold {ad : Nat → Nat} {n : Nat} {cI cS cQ : ClassId} {V : VS} {k : Nat} {x : Int32} : va_up (xc ad n cI cS cQ V) 5 (.inl (cI, n, .inl (upd (v_hold V) k x))) = xc ad n cI cS cQ (s_hold V k x) := by
  funext i
  match i with
  | 0 => rfl
  | 1 => rfl
  | 2 => rfl
  | 3 => rfl
  | 4 => rfl
  | 5 => rfl
  | i + 6 => rfl
theorem xc_root {ad : Nat → Nat} {n : Nat} {cI cS cQ : ClassId} {V : VS} {k : Nat} (hk : k < 16) {x : Int32} : va_up (xc ad n cI cS cQ V) (6 + k) (.inr (2, [.ref (ad 1), .int x, .int (v_len V k)])) = xc ad n cI cS cQ (s_root V k x) := by
  funext i
  by_cases e : i = 6 + k
  · subst e
    rw [va_up_self, xc_sp hk]
    show _ = Sum.inr (2, [Value.ref (ad 1), Value.int (upd (v_root V) k x k), Value.int (v_len V k)])
    rw [pk_us]
  · rw [va_up_ne _ _ e]
    match i with
    | 0 => rfl
    | 1 => rfl
    | 2 => rfl
    | 3 => rfl
    | 4 => rfl
    | 5 => rfl
    | i + 6 =>
      show (if i < 16 then _ else _) = (if i < 16 then Sum.inr (2, [Value.ref (ad 1), Value.int (upd (v_root V) k x i), Value.int (v_len V i)]) else _)
      rw [pk_un (by omega)]
      rfl
theorem xc_len {ad : Nat → Nat} {n : Nat} {cI cS cQ : ClassId} {V : VS} {k : Nat} (hk : k < 16) {x : Int32} : va_up (xc ad n cI cS cQ V) (6 + k) (.inr (2, [.ref (ad 1), .int (v_root V k), .int x])) = xc ad n cI cS cQ (s_len V k x) := by
  funext i
  by_cases e : i = 6 + k
  · subst e
    rw [va_up_self, xc_sp hk]
    show _ = Sum.inr (2, [Value.ref (ad 1), Value.int (v_root V k), Value.int (upd (v_len V) k x k)])
    rw [pk_us]
  · rw [va_up_ne _ _ e]
    match i with
    | 0 => rfl
    | 1 => rfl
    | 2 => rfl
    | 3 => rfl
    | 4 => rfl
    | 5 => rfl
    | i + 6 =>
      show (if i < 16 then _ else _) = (if i < 16 then Sum.inr (2, [Value.ref (ad 1), Value.int (v_root V i), Value.int (upd (v_len V) k x i)]) else _)
      rw [pk_un (by omega)]
      rfl
theorem xc_rows {ad : Nat → Nat} {n : Nat} {cI cS cQ : ClassId} {V : VS} {f : Nat} {r : Nat → Int32} : va_up (xc ad n cI cS cQ V) (22 + f) (.inl (cI, 1024, .inl r)) = xc ad n cI cS cQ (s_row V f r) := by
  funext i
  by_cases e : i = 22 + f
  · subst e
    rw [va_up_self, xc_row]
    show _ = Sum.inl (cI, 1024, Sum.inl (va_up (v_words V) f r f))
    rw [va_up_self]
  · rw [va_up_ne _ _ e]
    match i with
    | 0 => rfl
    | 1 => rfl
    | 2 => rfl
    | 3 => rfl
    | 4 => rfl
    | 5 => rfl
    | i + 6 =>
      show (if i < 16 then _ else _) = (if i < 16 then _ else Sum.inl (cI, 1024, Sum.inl (va_up (v_words V) f r (i - 16))))
      by_cases h : i < 16
      · rw [if_pos h, if_pos h]
        rfl
      · rw [if_neg h, if_neg h, va_up_ne _ _ (by omega)]
/-! one instruction, over the class's state -/
def xT (cI cS cQ : ClassId) : List (ClassId × FieldType) := [(cI, .int), (cS, .object "PageVault$Space"), (cQ, .array .int)]
def xK (D : va_G) (cI cS cQ : ClassId) (U : State) : Prop := va_K D classes (xT cI cS cQ) U ∧ ∀ w ∈ NL, va_Nw w U
theorem xKo {D : va_G} {cI cS cQ : ClassId} : KnOk (xK D cI cS cQ) := ⟨fun U g mk a h => ⟨va_K.moved (u := U) (U := U.calling g mk a) (Vm.Alike.refl U.vm) h.1, fun w hw => va_Nw.same (u := U) (NL_t w hw) rfl (h.2 w hw)⟩, fun s U hW h => ⟨va_K.moved hW.alike h.1, fun w hw => NL_warm hW w hw (h.2 w hw)⟩⟩
/-- a reference to a Space, or null -/
def xo (ad : Nat → Nat) (o : Option Nat) : Value := match o with | none => .null | some k => .ref (ad (6 + k))
def oc {α β : Type} (o : Option α) (a : β) (f : α → β) : β := match o with | none => a | some x => f x
theorem oc_none {α β : Type} {o : Option α} {a : β} {f : α → β} (h : o = none) : oc o a f = a := by rw [h]; rfl
theorem oc_some {α β : Type} {o : Option α} {a : β} {f : α → β} {x : α} (h : o = some x) : oc o a f = f x := by rw [h]; rfl
def ju (x y : Int32) : Int32 := (x.toUInt32 >>> (y.toUInt32 &&& Int32.toUInt32 31)).toInt32
theorem vin_lt {x : Int32} {n : Nat} (h : vp_in x n) : x.toNatClampNeg < n := Nat.not_le.mp fun q => h (Or.inr q)
theorem vin_c {x b : Int32} {B : Nat} (hb : b = nI B) (hB : B < 2 ^ 31) (h0 : ¬ x < 0) (h1 : ¬ b ≤ x) : vp_in x B := by
  subst hb
  obtain ⟨j, hj, rfl⟩ := nI_of h0
  exact vp_in_nI (by
    rcases Nat.lt_or_ge j B with q | q
    · exact q
    · exact absurd (nI_le q hj) h1) hB
abbrev XC (l : Launch) (D : va_G) (ad : Nat → Nat) (n : Nat) (cI cS cQ : ClassId) (y : MethodName) (bytes : ByteArray) (maxL : Nat) (ret : Option FieldType) (rm : Room) (av : List Value) (V : VS) (out : Option Value) (V' : VS) : Prop := FC l D ad (xN n) (xK D cI cS cQ) y bytes maxL ret rm av (xc ad n cI cS cQ V) out (xc ad n cI cS cQ V')
abbrev XP (D : va_G) (ad : Nat → Nat) (n : Nat) (cI cS cQ : ClassId) (V : VS) (H : Heap) : Prop := va_P D classes (iw ad (xN n) (xc ad n cI cS cQ V)) H
def xE (ad : Nat → Nat) (n : Nat) : Prop := iJ ad (xN n) ∧ n ≤ 32
theorem xE.n {ad : Nat → Nat} {n : Nat} (h : xE ad n) : n < 2 ^ 31 := Nat.lt_of_le_of_lt h.2 (by decide)
section XR
variable {p : Program} {l : Launch} {e : Env} {R : Room} {s : State} {m : MethodId} {args : Array Value} {below : List Frame} {meth : Method} {c : Code} {H : Heap} {locs : List Loc} {cells slots : Nat} {Q : State → Prop}
variable {cc : ByteArray} {nL pc index : Nat} {ls : Array Slot} {rest st0 : List Value} {own : String} {D : va_G} {ad : Nat → Nat} {n : Nat} {cI cS cQ : ClassId} {V V' : VS} {H0 : Heap}
theorem x_get_frames (S : CallFix p m c cc nL s args TG own) (hK : xK D cI cS cQ s) (hP : XP D ad n cI cS cQ V H) (hlink : Cond.fieldLink own index "PageVault" "frames" "LPageVault$Frames;" ∈ TG) (hdg : decode cc pc = .ok (.getfield index, 3)) (kk : W p l e R s m args below meth c H locs cells slots Q (F0 m (pc + 3) ls (.ref (ad 1) :: rest))) : W p l e R s m args below meth c H locs cells slots Q (F0 m pc ls (.ref (ad (0)) :: rest)) := g_get S hK.1 hP i_V rfl (k := 0) (by decide) rfl (i := 0) (by unfold xN; omega) rfl rfl hlink hdg kk
theorem x_get_spaces (S : CallFix p m c cc nL s args TG own) (hK : xK D cI cS cQ s) (hP : XP D ad n cI cS cQ V H) (hlink : Cond.fieldLink own index "PageVault" "spaces" "[LPageVault$Space;" ∈ TG) (hdg : decode cc pc = .ok (.getfield index, 3)) (kk : W p l e R s m args below meth c H locs cells slots Q (F0 m (pc + 3) ls (.ref (ad 2) :: rest))) : W p l e R s m args below meth c H locs cells slots Q (F0 m pc ls (.ref (ad (0)) :: rest)) := g_get S hK.1 hP i_V rfl (k := 1) (by decide) rfl (i := 0) (by unfold xN; omega) rfl rfl hlink hdg kk
theorem x_get_buffer (S : CallFix p m c cc nL s args TG own) (hK : xK D cI cS cQ s) (hP : XP D ad n cI cS cQ V H) (hlink : Cond.fieldLink own index "PageVault" "buffer" "[I" ∈ TG) (hdg : decode cc pc = .ok (.getfield index, 3)) (kk : W p l e R s m args below meth c H locs cells slots Q (F0 m (pc + 3) ls (.ref (ad 3) :: rest))) : W p l e R s m args below meth c H locs cells slots Q (F0 m pc ls (.ref (ad (0)) :: rest)) := g_get S hK.1 hP i_V rfl (k := 2) (by decide) rfl (i := 0) (by unfold xN; omega) rfl rfl hlink hdg kk
theorem x_get_trap (S : CallFix p m c cc nL s args TG own) (hK : xK D cI cS cQ s) (hP : XP D ad n cI cS cQ V H) (hlink : Cond.fieldLink own index "PageVault" "latestTrap" "I" ∈ TG) (hdg : decode cc pc = .ok (.getfield index, 3)) (kk : W p l e R s m args below meth c H locs cells slots Q (F0 m (pc + 3) ls (.int (v_trap V) :: rest))) : W p l e R s m args below meth c H locs cells slots Q (F0 m pc ls (.ref (ad (0)) :: rest)) := g_get S hK.1 hP i_V rfl (k := 3) (by decide) rfl (i := 0) (by unfold xN; omega) rfl rfl hlink hdg kk
theorem x_get_words (S : CallFix p m c cc nL s args TG own) (hK : xK D cI cS cQ s) (hP : XP D ad n cI cS cQ V H) (hlink : Cond.fieldLink own index "PageVault$Frames" "words" "[[I" ∈ TG) (hdg : decode cc pc = .ok (.getfield index, 3)) (kk : W p l e R s m args below meth c H locs cells slots Q (F0 m (pc + 3) ls (.ref (ad 4) :: rest))) : W p l e R s m args below meth c H locs cells slots Q (F0 m pc ls (.ref (ad (1)) :: rest)) := g_get S hK.1 hP i_F rfl (k := 0) (by decide) rfl (i := 1) (by unfold xN; omega) rfl rfl hlink hdg kk
theorem x_get_holders (S : CallFix p m c cc nL s args TG own) (hK : xK D cI cS cQ s) (hP : XP D ad n cI cS cQ V H) (hlink : Cond.fieldLink own index "PageVault$Frames" "holders" "[I" ∈ TG) (hdg : decode cc pc = .ok (.getfield index, 3)) (kk : W p l e R s m args below meth c H locs cells slots Q (F0 m (pc + 3) ls (.ref (ad 5) :: rest))) : W p l e R s m args below meth c H locs cells slots Q (F0 m pc ls (.ref (ad (1)) :: rest)) := g_get S hK.1 hP i_F rfl (k := 1) (by decide) rfl (i := 1) (by unfold xN; omega) rfl rfl hlink hdg kk
theorem x_get_spare (S : CallFix p m c cc nL s args TG own) (hK : xK D cI cS cQ s) (hP : XP D ad n cI cS cQ V H) (hlink : Cond.fieldLink own index "PageVault$Frames" "spare" "I" ∈ TG) (hdg : decode cc pc = .ok (.getfield index, 3)) (kk : W p l e R s m args below meth c H locs cells slots Q (F0 m (pc + 3) ls (.int (v_spare V) :: rest))) : W p l e R s m args below meth c H locs cells slots Q (F0 m pc ls (.ref (ad (1)) :: rest)) := g_get S hK.1 hP i_F rfl (k := 2) (by decide) rfl (i := 1) (by unfold xN; omega) rfl rfl hlink hdg kk
theorem x_get_sframes (S : CallFix p m c cc nL s args TG own) (hK : xK D cI cS cQ s) (hP : XP D ad n cI cS cQ V H) {k : Nat} (hk : k < 16) (hlink : Cond.fieldLink own index "PageVault$Space" "frames" "LPageVault$Frames;" ∈ TG) (hdg : decode cc pc = .ok (.getfield index, 3)) (kk : W p l e R s m args below meth c H locs cells slots Q (F0 m (pc + 3) ls (.ref (ad 1) :: rest))) : W p l e R s m args below meth c H locs cells slots Q (F0 m pc ls (.ref (ad (6 + k)) :: rest)) := g_get S hK.1 hP i_S rfl (k := 0) (by decide) rfl (i := 6 + k) (by unfold xN; omega) (xc_sp hk) rfl hlink hdg kk
theorem x_get_root (S : CallFix p m c cc nL s args TG own) (hK : xK D cI cS cQ s) (hP : XP D ad n cI cS cQ V H) {k : Nat} (hk : k < 16) (hlink : Cond.fieldLink own index "PageVault$Space" "root" "I" ∈ TG) (hdg : decode cc pc = .ok (.getfield index, 3)) (kk : W p l e R s m args below meth c H locs cells slots Q (F0 m (pc + 3) ls (.int (v_root V k) :: rest))) : W p l e R s m args below meth c H locs cells slots Q (F0 m pc ls (.ref (ad (6 + k)) :: rest)) := g_get S hK.1 hP i_S rfl (k := 1) (by decide) rfl (i := 6 + k) (by unfold xN; omega) (xc_sp hk) rfl hlink hdg kk
theorem x_get_length (S : CallFix p m c cc nL s args TG own) (hK : xK D cI cS cQ s) (hP : XP D ad n cI cS cQ V H) {k : Nat} (hk : k < 16) (hlink : Cond.fieldLink own index "PageVault$Space" "length" "I" ∈ TG) (hdg : decode cc pc = .ok (.getfield index, 3)) (kk : W p l e R s m args below meth c H locs cells slots Q (F0 m (pc + 3) ls (.int (v_len V k) :: rest))) : W p l e R s m args below meth c H locs cells slots Q (F0 m pc ls (.ref (ad (6 + k)) :: rest)) := g_get S hK.1 hP i_S rfl (k := 2) (by decide) rfl (i := 6 + k) (by unfold xN; omega) (xc_sp hk) rfl hlink hdg kk
theorem x_put_trap (S : CallFix p m c cc nL s args TG own) (hE : xE ad n) (hK : xK D cI cS cQ s) (hP : XP D ad n cI cS cQ V H) (hS : va_S (iA ad (xN n)) H0 H locs) {x : Int32} (hlink : Cond.fieldLink own index "PageVault" "latestTrap" "I" ∈ TG) (hdg : decode cc pc = .ok (.putfield index, 3)) (kk : ∀ (H1 : Heap) (locs1 : List Loc), XP D ad n cI cS cQ (s_trap V x) H1 → va_S (iA ad (xN n)) H0 H1 locs1 → W p l e R s m args below meth c H1 locs1 cells slots Q (F0 m (pc + 3) ls (rest))) : W p l e R s m args below meth c H locs cells slots Q (F0 m pc ls (.int x :: .ref (ad (0)) :: rest)) := g_put (ty := .int) S hE.1 hK.1 hP hS i_V tok_V n_V rfl (k := 3) (by decide) rfl rfl (by decide +kernel) (i := 0) (by unfold xN; omega) rfl (Nat.le_of_ble_eq_true rfl) rfl rfl hlink hdg (fun H1 locs1 h1 h3 => kk H1 locs1 (iw_eq h1 xc_trap) h3)
theorem x_put_spare (S : CallFix p m c cc nL s args TG own) (hE : xE ad n) (hK : xK D cI cS cQ s) (hP : XP D ad n cI cS cQ V H) (hS : va_S (iA ad (xN n)) H0 H locs) {x : Int32} (hlink : Cond.fieldLink own index "PageVault$Frames" "spare" "I" ∈ TG) (hdg : decode cc pc = .ok (.putfield index, 3)) (kk : ∀ (H1 : Heap) (locs1 : List Loc), XP D ad n cI cS cQ (s_spare V x) H1 → va_S (iA ad (xN n)) H0 H1 locs1 → W p l e R s m args below meth c H1 locs1 cells slots Q (F0 m (pc + 3) ls (rest))) : W p l e R s m args below meth c H locs cells slots Q (F0 m pc ls (.int x :: .ref (ad (1)) :: rest)) := g_put (ty := .int) S hE.1 hK.1 hP hS i_F tok_F n_F rfl (k := 2) (by decide) rfl rfl (by decide +kernel) (i := 1) (by unfold xN; omega) rfl (Nat.le_of_ble_eq_true rfl) rfl rfl hlink hdg (fun H1 locs1 h1 h3 => kk H1 locs1 (iw_eq h1 xc_spare) h3)
theorem x_put_root (S : CallFix p m c cc nL s args TG own) (hE : xE ad n) (hK : xK D cI cS cQ s) (hP : XP D ad n cI cS cQ V H) (hS : va_S (iA ad (xN n)) H0 H locs) {k : Nat} (hk : k < 16) {x : Int32} (hlink : Cond.fieldLink own index "PageVault$Space" "root" "I" ∈ TG) (hdg : decode cc pc = .ok (.putfield index, 3)) (kk : ∀ (H1 : Heap) (locs1 : List Loc), XP D ad n cI cS cQ (s_root V k x) H1 → va_S (iA ad (xN n)) H0 H1 locs1 → W p l e R s m args below meth c H1 locs1 cells slots Q (F0 m (pc + 3) ls (rest))) : W p l e R s m args below meth c H locs cells slots Q (F0 m pc ls (.int x :: .ref (ad (6 + k)) :: rest)) := g_put (ty := .int) S hE.1 hK.1 hP hS i_S tok_S n_S rfl (k := 1) (by decide) rfl rfl (by decide +kernel) (i := 6 + k) (by unfold xN; omega) (xc_sp hk) (Nat.le_of_ble_eq_true rfl) rfl rfl hlink hdg (fun H1 locs1 h1 h3 => kk H1 locs1 (iw_eq h1 (xc_root hk)) h3)
theorem x_put_length (S : CallFix p m c cc nL s args TG own) (hE : xE ad n) (hK : xK D cI cS cQ s) (hP : XP D ad n cI cS cQ V H) (hS : va_S (iA ad (xN n)) H0 H locs) {k : Nat} (hk : k < 16) {x : Int32} (hlink : Cond.fieldLink own index "PageVault$Space" "length" "I" ∈ TG) (hdg : decode cc pc = .ok (.putfield index, 3)) (kk : ∀ (H1 : Heap) (locs1 : List Loc), XP D ad n cI cS cQ (s_len V k x) H1 → va_S (iA ad (xN n)) H0 H1 locs1 → W p l e R s m args below meth c H1 locs1 cells slots Q (F0 m (pc + 3) ls (rest))) : W p l e R s m args below meth c H locs cells slots Q (F0 m pc ls (.int x :: .ref (ad (6 + k)) :: rest)) := g_put (ty := .int) S hE.1 hK.1 hP hS i_S tok_S n_S rfl (k := 2) (by decide) rfl rfl (by decide +kernel) (i := 6 + k) (by unfold xN; omega) (xc_sp hk) (Nat.le_of_ble_eq_true rfl) rfl rfl hlink hdg (fun H1 locs1 h1 h3 => kk H1 locs1 (iw_eq h1 (xc_len hk)) h3)
theorem x_ald_spaces (S : CallFix p m c cc nL s args TG own) (hK : xK D cI cS cQ s) (hP : XP D ad n cI cS cQ V H) {x : Int32} (hin : vp_in x 16) (hdg : decode cc pc = .ok (.aaload, 1)) (kk : W p l e R s m args below meth c H locs cells slots Q (F0 m (pc + 1) ls (.ref (ad (6 + x.toNatClampNeg)) :: rest))) : W p l e R s m args below meth c H locs cells slots Q (F0 m pc ls (.int x :: .ref (ad 2) :: rest)) := va_aldq S.1 S.2.1 hK.1 hP 2 1 (f := fun k => some (ad (6 + k))) (C := "PageVault$Space") (by rw [iw_get (by unfold xN; omega)]; rfl) rfl hin hdg kk
theorem x_ald_words (S : CallFix p m c cc nL s args TG own) (hK : xK D cI cS cQ s) (hP : XP D ad n cI cS cQ V H) {x : Int32} (hin : vp_in x n) (hdg : decode cc pc = .ok (.aaload, 1)) (kk : W p l e R s m args below meth c H locs cells slots Q (F0 m (pc + 1) ls (.ref (ad (22 + x.toNatClampNeg)) :: rest))) : W p l e R s m args below meth c H locs cells slots Q (F0 m pc ls (.int x :: .ref (ad 4) :: rest)) := by
  have hlt : x.toNatClampNeg < n := Nat.not_le.mp fun q => hin (Or.inr q)
  have ha : (iw ad (xN n) (xc ad n cI cS cQ V))[4]? = some (ad 4, .inl (cQ, n, .inr (.inr (.inr (.inr (fun f => some (ad (22 + f)))))))) := by rw [iw_get (by unfold xN; omega)]; rfl
  exact W.aald (v := .ref (ad (22 + x.toNatClampNeg))) (ty := .array .int) S.1 S.2.1 (hP 4 _ ha) ((hK.1.2 2 _ rfl).1 n (fun j => va_rf (some (ad (22 + j))))) rfl (fun q => by cases q) (by show ¬ (x < 0 ∨ (arrV _ _ _).slots.size ≤ _); rw [arrV_size]; exact hin) (by show (arrV _ _ _).slots[_]? = _; rw [arrV_read _ _ hlt]; rfl) rfl rfl hdg kk
theorem x_ald_buffer (S : CallFix p m c cc nL s args TG own) (hK : xK D cI cS cQ s) (hP : XP D ad n cI cS cQ V H) {x : Int32} (hin : vp_in x 512) (hdg : decode cc pc = .ok (.iaload, 1)) (kk : W p l e R s m args below meth c H locs cells slots Q (F0 m (pc + 1) ls (.int (v_buf V x.toNatClampNeg) :: rest))) : W p l e R s m args below meth c H locs cells slots Q (F0 m pc ls (.int x :: .ref (ad 3) :: rest)) := g_iald S hK.1 hP (i := 3) (t0 := 0) (by unfold xN; omega) rfl rfl hin hdg kk
theorem x_ald_holders (S : CallFix p m c cc nL s args TG own) (hK : xK D cI cS cQ s) (hP : XP D ad n cI cS cQ V H) {x : Int32} (hin : vp_in x n) (hdg : decode cc pc = .ok (.iaload, 1)) (kk : W p l e R s m args below meth c H locs cells slots Q (F0 m (pc + 1) ls (.int (v_hold V x.toNatClampNeg) :: rest))) : W p l e R s m args below meth c H locs cells slots Q (F0 m pc ls (.int x :: .ref (ad 5) :: rest)) := g_iald S hK.1 hP (i := 5) (t0 := 0) (by unfold xN; omega) rfl rfl hin hdg kk
theorem x_ald_row (S : CallFix p m c cc nL s args TG own) (hK : xK D cI cS cQ s) (hP : XP D ad n cI cS cQ V H) {x : Int32} {f : Nat} (hf : f < n) (hin : vp_in x 1024) (hdg : decode cc pc = .ok (.iaload, 1)) (kk : W p l e R s m args below meth c H locs cells slots Q (F0 m (pc + 1) ls (.int (v_words V f x.toNatClampNeg) :: rest))) : W p l e R s m args below meth c H locs cells slots Q (F0 m pc ls (.int x :: .ref (ad (22 + f)) :: rest)) := g_iald S hK.1 hP (i := 22 + f) (t0 := 0) (by unfold xN; omega) xc_row rfl hin hdg kk
theorem x_ast_buffer (S : CallFix p m c cc nL s args TG own) (hE : xE ad n) (hK : xK D cI cS cQ s) (hP : XP D ad n cI cS cQ V H) (hS : va_S (iA ad (xN n)) H0 H locs) {x v : Int32} (hin : vp_in x 512) (hdg : decode cc pc = .ok (.iastore, 1)) (kk : ∀ (H1 : Heap) (locs1 : List Loc), XP D ad n cI cS cQ (s_buf V x.toNatClampNeg v) H1 → va_S (iA ad (xN n)) H0 H1 locs1 → W p l e R s m args below meth c H1 locs1 cells slots Q (F0 m (pc + 1) ls (rest))) : W p l e R s m args below meth c H locs cells slots Q (F0 m pc ls (.int v :: .int x :: .ref (ad 3) :: rest)) := g_iast S hE.1 hK.1 hP hS (i := 3) (t0 := 0) (by unfold xN; omega) rfl rfl hin hdg (fun H1 locs1 h1 h3 => kk H1 locs1 (iw_eq h1 xc_buf) h3)
theorem x_ast_holders (S : CallFix p m c cc nL s args TG own) (hE : xE ad n) (hK : xK D cI cS cQ s) (hP : XP D ad n cI cS cQ V H) (hS : va_S (iA ad (xN n)) H0 H locs) {x v : Int32} (hin : vp_in x n) (hdg : decode cc pc = .ok (.iastore, 1)) (kk : ∀ (H1 : Heap) (locs1 : List Loc), XP D ad n cI cS cQ (s_hold V x.toNatClampNeg v) H1 → va_S (iA ad (xN n)) H0 H1 locs1 → W p l e R s m args below meth c H1 locs1 cells slots Q (F0 m (pc + 1) ls (rest))) : W p l e R s m args below meth c H locs cells slots Q (F0 m pc ls (.int v :: .int x :: .ref (ad 5) :: rest)) := g_iast S hE.1 hK.1 hP hS (i := 5) (t0 := 0) (by unfold xN; omega) rfl rfl hin hdg (fun H1 locs1 h1 h3 => kk H1 locs1 (iw_eq h1 xc_hold) h3)
theorem x_ast_row (S : CallFix p m c cc nL s args TG own) (hE : xE ad n) (hK : xK D cI cS cQ s) (hP : XP D ad n cI cS cQ V H) (hS : va_S (iA ad (xN n)) H0 H locs) {x v : Int32} {f : Nat} (hf : f < n) (hin : vp_in x 1024) (hdg : decode cc pc = .ok (.iastore, 1)) (kk : ∀ (H1 : Heap) (locs1 : List Loc), XP D ad n cI cS cQ (s_word V f x.toNatClampNeg v) H1 → va_S (iA ad (xN n)) H0 H1 locs1 → W p l e R s m args below meth c H1 locs1 cells slots Q (F0 m (pc + 1) ls (rest))) : W p l e R s m args below meth c H locs cells slots Q (F0 m pc ls (.int v :: .int x :: .ref (ad (22 + f)) :: rest)) := g_iast S hE.1 hK.1 hP hS (i := 22 + f) (t0 := 0) (by unfold xN; omega) xc_row rfl hin hdg (fun H1 locs1 h1 h3 => kk H1 locs1 (iw_eq h1 xc_rows) h3)
theorem x_len_holders (S : CallFix p m c cc nL s args TG own) (hK : xK D cI cS cQ s) (hP : XP D ad n cI cS cQ V H) (hdg : decode cc pc = .ok (.arraylength, 1)) (kk : W p l e R s m args below meth c H locs cells slots Q (F0 m (pc + 1) ls (.int (nI n) :: rest))) : W p l e R s m args below meth c H locs cells slots Q (F0 m pc ls (.ref (ad 5) :: rest)) := g_alen S hK.1 hP (i := 5) (t0 := 0) (by unfold xN; omega) rfl (ty := .int) rfl hdg kk
theorem x_len_words (S : CallFix p m c cc nL s args TG own) (hK : xK D cI cS cQ s) (hP : XP D ad n cI cS cQ V H) (hdg : decode cc pc = .ok (.arraylength, 1)) (kk : W p l e R s m args below meth c H locs cells slots Q (F0 m (pc + 1) ls (.int (nI n) :: rest))) : W p l e R s m args below meth c H locs cells slots Q (F0 m pc ls (.ref (ad 4) :: rest)) := g_alen S hK.1 hP (i := 4) (t0 := 2) (by unfold xN; omega) rfl (ty := .array .int) rfl hdg kk
theorem x_len_row (S : CallFix p m c cc nL s args TG own) (hK : xK D cI cS cQ s) (hP : XP D ad n cI cS cQ V H) {f : Nat} (hf : f < n) (hdg : decode cc pc = .ok (.arraylength, 1)) (kk : W p l e R s m args below meth c H locs cells slots Q (F0 m (pc + 1) ls (.int (nI 1024) :: rest))) : W p l e R s m args below meth c H locs cells slots Q (F0 m pc ls (.ref (ad (22 + f)) :: rest)) := g_alen S hK.1 hP (i := 22 + f) (t0 := 0) (by unfold xN; omega) xc_row (ty := .int) rfl hdg kk
theorem x_recV (hK : xK D cI cS cQ s) (hP : XP D ad n cI cS cQ V H) : ∃ cellB : Cell, H[ad 0]? = some cellB ∧ cellB.vm.isStatics = false ∧ s.vm.findClass "PageVault" = some cellB.cls := g_rec hK.1 hP (i := 0) (ci := 0) (by unfold xN; omega) rfl rfl rfl
theorem x_recF (hK : xK D cI cS cQ s) (hP : XP D ad n cI cS cQ V H) : ∃ cellB : Cell, H[ad 1]? = some cellB ∧ cellB.vm.isStatics = false ∧ s.vm.findClass "PageVault$Frames" = some cellB.cls := g_rec hK.1 hP (i := 1) (ci := 1) (by unfold xN; omega) rfl rfl rfl
theorem x_recS (hK : xK D cI cS cQ s) (hP : XP D ad n cI cS cQ V H) {k : Nat} (hk : k < 16) : ∃ cellB : Cell, H[ad (6 + k)]? = some cellB ∧ cellB.vm.isStatics = false ∧ s.vm.findClass "PageVault$Space" = some cellB.cls := g_rec hK.1 hP (i := 6 + k) (ci := 2) (by unfold xN; omega) (xc_sp hk) rfl rfl
variable {y : MethodName} {bytes : ByteArray} {maxL nA : Nat} {ret : Option FieldType} {rm : Room} {b : Nat} {As : List Value} {r : Int32} {o : Option Nat}
theorem x_callVi (S : CallFix p m c cc nL s args TG own) (hK : xK D cI cS cQ s) (I : CIv own index y bytes maxL ret nA) (hM : XC l D ad n cI cS cQ y bytes maxL ret rm (.ref b :: As) V (some (.int r)) V') (hrec : ∃ cellB : Cell, H[b]? = some cellB ∧ cellB.vm.isStatics = false ∧ s.vm.findClass y.cls = some cellB.cls) (hP : XP D ad n cI cS cQ V H) (hS : va_S (iA ad (xN n)) H0 H locs) (hR : RmOk rm R maxL) (hn : As.length = nA) (hsz : ls.size = nL) (hst : st0 = As.reverse ++ .ref b :: rest) (hW : (rest.map fun v => v.category).sum ≤ 8) (hdg : decode cc pc = .ok (.invokevirtual index, 3)) (kk : ∀ (H1 : Heap) (locs1 : List Loc), XP D ad n cI cS cQ (V') H1 → va_S (iA ad (xN n)) H0 H1 locs1 → W p l e R s m args below meth c H1 locs1 0 0 Q (F0 m (pc + 3) ls (.int r :: rest))) : W p l e R s m args below meth c H locs 0 0 Q (F0 m pc ls (st0)) := g_callV S xKo hK I hM hrec hP hS (fun _ h => h) hR ⟨Nat.zero_le _, Nat.zero_le _⟩ hn hsz hst hW hdg (fun H1 locs1 h1 h2 _ => kk H1 locs1 h1 h2)
theorem x_callVv (S : CallFix p m c cc nL s args TG own) (hK : xK D cI cS cQ s) (I : CIv own index y bytes maxL ret nA) (hM : XC l D ad n cI cS cQ y bytes maxL ret rm (.ref b :: As) V none V') (hrec : ∃ cellB : Cell, H[b]? = some cellB ∧ cellB.vm.isStatics = false ∧ s.vm.findClass y.cls = some cellB.cls) (hP : XP D ad n cI cS cQ V H) (hS : va_S (iA ad (xN n)) H0 H locs) (hR : RmOk rm R maxL) (hn : As.length = nA) (hsz : ls.size = nL) (hst : st0 = As.reverse ++ .ref b :: rest) (hW : (rest.map fun v => v.category).sum ≤ 8) (hdg : decode cc pc = .ok (.invokevirtual index, 3)) (kk : ∀ (H1 : Heap) (locs1 : List Loc), XP D ad n cI cS cQ (V') H1 → va_S (iA ad (xN n)) H0 H1 locs1 → W p l e R s m args below meth c H1 locs1 0 0 Q (F0 m (pc + 3) ls (rest))) : W p l e R s m args below meth c H locs 0 0 Q (F0 m pc ls (st0)) := g_callV S xKo hK I hM hrec hP hS (fun _ h => h) hR ⟨Nat.zero_le _, Nat.zero_le _⟩ hn hsz hst hW hdg (fun H1 locs1 h1 h2 _ => kk H1 locs1 h1 h2)
theorem x_callVq (S : CallFix p m c cc nL s args TG own) (hK : xK D cI cS cQ s) (I : CIv own index y bytes maxL ret nA) (hM : XC l D ad n cI cS cQ y bytes maxL ret rm (.ref b :: As) V (some (xo ad o)) V') (hrec : ∃ cellB : Cell, H[b]? = some cellB ∧ cellB.vm.isStatics = false ∧ s.vm.findClass y.cls = some cellB.cls) (hP : XP D ad n cI cS cQ V H) (hS : va_S (iA ad (xN n)) H0 H locs) (hR : RmOk rm R maxL) (hn : As.length = nA) (hsz : ls.size = nL) (hst : st0 = As.reverse ++ .ref b :: rest) (hW : (rest.map fun v => v.category).sum ≤ 8) (hdg : decode cc pc = .ok (.invokevirtual index, 3)) (kN : o = none → ∀ (H1 : Heap) (locs1 : List Loc), XP D ad n cI cS cQ V' H1 → va_S (iA ad (xN n)) H0 H1 locs1 → W p l e R s m args below meth c H1 locs1 0 0 Q (F0 m (pc + 3) ls (.null :: rest))) (kS : ∀ k, o = some k → ∀ (H1 : Heap) (locs1 : List Loc), XP D ad n cI cS cQ V' H1 → va_S (iA ad (xN n)) H0 H1 locs1 → W p l e R s m args below meth c H1 locs1 0 0 Q (F0 m (pc + 3) ls (.ref (ad (6 + k)) :: rest))) : W p l e R s m args below meth c H locs 0 0 Q (F0 m pc ls (st0)) := g_callV S xKo hK I hM hrec hP hS (fun _ h => h) hR ⟨Nat.zero_le _, Nat.zero_le _⟩ hn hsz hst hW hdg (fun H1 locs1 h1 h2 _ => by
    cases ho : o with
    | none => exact kN ho H1 locs1 h1 h2
    | some k => exact kS k ho H1 locs1 h1 h2)
theorem x_callSi (S : CallFix p m c cc nL s args TG own) (hK : xK D cI cS cQ s) (I : CIs own index y bytes maxL ret nA) (hM : XC l D ad n cI cS cQ y bytes maxL ret rm As V (some (.int r)) V') (hP : XP D ad n cI cS cQ V H) (hS : va_S (iA ad (xN n)) H0 H locs) (hR : RmOk rm R maxL) (hn : As.length = nA) (hsz : ls.size = nL) (hst : st0 = As.reverse ++ rest) (hW : (rest.map fun v => v.category).sum ≤ 8) (hdg : decode cc pc = .ok (.invokestatic index, 3)) (kk : ∀ (H1 : Heap) (locs1 : List Loc), XP D ad n cI cS cQ (V') H1 → va_S (iA ad (xN n)) H0 H1 locs1 → W p l e R s m args below meth c H1 locs1 0 0 Q (F0 m (pc + 3) ls (.int r :: rest))) : W p l e R s m args below meth c H locs 0 0 Q (F0 m pc ls (st0)) := g_callS S xKo hK I hM hP hS (fun _ h => h) hR ⟨Nat.zero_le _, Nat.zero_le _⟩ hn hsz hst hW hdg (fun H1 locs1 h1 h2 _ => kk H1 locs1 h1 h2)
theorem x_callSv (S : CallFix p m c cc nL s args TG own) (hK : xK D cI cS cQ s) (I : CIs own index y bytes maxL ret nA) (hM : XC l D ad n cI cS cQ y bytes maxL ret rm As V none V') (hP : XP D ad n cI cS cQ V H) (hS : va_S (iA ad (xN n)) H0 H locs) (hR : RmOk rm R maxL) (hn : As.length = nA) (hsz : ls.size = nL) (hst : st0 = As.reverse ++ rest) (hW : (rest.map fun v => v.category).sum ≤ 8) (hdg : decode cc pc = .ok (.invokestatic index, 3)) (kk : ∀ (H1 : Heap) (locs1 : List Loc), XP D ad n cI cS cQ (V') H1 → va_S (iA ad (xN n)) H0 H1 locs1 → W p l e R s m args below meth c H1 locs1 0 0 Q (F0 m (pc + 3) ls (rest))) : W p l e R s m args below meth c H locs 0 0 Q (F0 m pc ls (st0)) := g_callS S xKo hK I hM hP hS (fun _ h => h) hR ⟨Nat.zero_le _, Nat.zero_le _⟩ hn hsz hst hW hdg (fun H1 locs1 h1 h2 _ => kk H1 locs1 h1 h2)
theorem x_callSq (S : CallFix p m c cc nL s args TG own) (hK : xK D cI cS cQ s) (I : CIs own index y bytes maxL ret nA) (hM : XC l D ad n cI cS cQ y bytes maxL ret rm As V (some (xo ad o)) V') (hP : XP D ad n cI cS cQ V H) (hS : va_S (iA ad (xN n)) H0 H locs) (hR : RmOk rm R maxL) (hn : As.length = nA) (hsz : ls.size = nL) (hst : st0 = As.reverse ++ rest) (hW : (rest.map fun v => v.category).sum ≤ 8) (hdg : decode cc pc = .ok (.invokestatic index, 3)) (kN : o = none → ∀ (H1 : Heap) (locs1 : List Loc), XP D ad n cI cS cQ V' H1 → va_S (iA ad (xN n)) H0 H1 locs1 → W p l e R s m args below meth c H1 locs1 0 0 Q (F0 m (pc + 3) ls (.null :: rest))) (kS : ∀ k, o = some k → ∀ (H1 : Heap) (locs1 : List Loc), XP D ad n cI cS cQ V' H1 → va_S (iA ad (xN n)) H0 H1 locs1 → W p l e R s m args below meth c H1 locs1 0 0 Q (F0 m (pc + 3) ls (.ref (ad (6 + k)) :: rest))) : W p l e R s m args below meth c H locs 0 0 Q (F0 m pc ls (st0)) := g_callS S xKo hK I hM hP hS (fun _ h => h) hR ⟨Nat.zero_le _, Nat.zero_le _⟩ hn hsz hst hW hdg (fun H1 locs1 h1 h2 _ => by
    cases ho : o with
    | none => exact kN ho H1 locs1 h1 h2
    | some k => exact kS k ho H1 locs1 h1 h2)
theorem x_callNi (S : CallFix p m c cc nL s args TG own) (hK : xK D cI cS cQ s) {host : String} (I : CIn y bytes maxL ret nA) (hL : va_Nw (.methodLinkNest own index y host) s) (hM : XC l D ad n cI cS cQ y bytes maxL ret rm As V (some (.int r)) V') (hP : XP D ad n cI cS cQ V H) (hS : va_S (iA ad (xN n)) H0 H locs) (hR : RmOk rm R maxL) (hn : As.length = nA) (hsz : ls.size = nL) (hst : st0 = As.reverse ++ rest) (hW : (rest.map fun v => v.category).sum ≤ 8) (hdg : decode cc pc = .ok (.invokestatic index, 3)) (kk : ∀ (H1 : Heap) (locs1 : List Loc), XP D ad n cI cS cQ (V') H1 → va_S (iA ad (xN n)) H0 H1 locs1 → W p l e R s m args below meth c H1 locs1 0 0 Q (F0 m (pc + 3) ls (.int r :: rest))) : W p l e R s m args below meth c H locs 0 0 Q (F0 m pc ls (st0)) := g_callN S xKo hK I hL hM hP hS (fun _ h => h) hR ⟨Nat.zero_le _, Nat.zero_le _⟩ hn hsz hst hW hdg (fun H1 locs1 h1 h2 _ => kk H1 locs1 h1 h2)
theorem x_callNv (S : CallFix p m c cc nL s args TG own) (hK : xK D cI cS cQ s) {host : String} (I : CIn y bytes maxL ret nA) (hL : va_Nw (.methodLinkNest own index y host) s) (hM : XC l D ad n cI cS cQ y bytes maxL ret rm As V none V') (hP : XP D ad n cI cS cQ V H) (hS : va_S (iA ad (xN n)) H0 H locs) (hR : RmOk rm R maxL) (hn : As.length = nA) (hsz : ls.size = nL) (hst : st0 = As.reverse ++ rest) (hW : (rest.map fun v => v.category).sum ≤ 8) (hdg : decode cc pc = .ok (.invokestatic index, 3)) (kk : ∀ (H1 : Heap) (locs1 : List Loc), XP D ad n cI cS cQ (V') H1 → va_S (iA ad (xN n)) H0 H1 locs1 → W p l e R s m args below meth c H1 locs1 0 0 Q (F0 m (pc + 3) ls (rest))) : W p l e R s m args below meth c H locs 0 0 Q (F0 m pc ls (st0)) := g_callN S xKo hK I hL hM hP hS (fun _ h => h) hR ⟨Nat.zero_le _, Nat.zero_le _⟩ hn hsz hst hW hdg (fun H1 locs1 h1 h2 _ => kk H1 locs1 h1 h2)
theorem x_callNq (S : CallFix p m c cc nL s args TG own) (hK : xK D cI cS cQ s) {host : String} (I : CIn y bytes maxL ret nA) (hL : va_Nw (.methodLinkNest own index y host) s) (hM : XC l D ad n cI cS cQ y bytes maxL ret rm As V (some (xo ad o)) V') (hP : XP D ad n cI cS cQ V H) (hS : va_S (iA ad (xN n)) H0 H locs) (hR : RmOk rm R maxL) (hn : As.length = nA) (hsz : ls.size = nL) (hst : st0 = As.reverse ++ rest) (hW : (rest.map fun v => v.category).sum ≤ 8) (hdg : decode cc pc = .ok (.invokestatic index, 3)) (kN : o = none → ∀ (H1 : Heap) (locs1 : List Loc), XP D ad n cI cS cQ V' H1 → va_S (iA ad (xN n)) H0 H1 locs1 → W p l e R s m args below meth c H1 locs1 0 0 Q (F0 m (pc + 3) ls (.null :: rest))) (kS : ∀ k, o = some k → ∀ (H1 : Heap) (locs1 : List Loc), XP D ad n cI cS cQ V' H1 → va_S (iA ad (xN n)) H0 H1 locs1 → W p l e R s m args below meth c H1 locs1 0 0 Q (F0 m (pc + 3) ls (.ref (ad (6 + k)) :: rest))) : W p l e R s m args below meth c H locs 0 0 Q (F0 m pc ls (st0)) := g_callN S xKo hK I hL hM hP hS (fun _ h => h) hR ⟨Nat.zero_le _, Nat.zero_le _⟩ hn hsz hst hW hdg (fun H1 locs1 h1 h2 _ => by
    cases ho : o with
    | none => exact kN ho H1 locs1 h1 h2
    | some k => exact kS k ho H1 locs1 h1 h2)
theorem x_iret {v : Int32} (S : CallFix p m c cc nL s args TG own) (hr : meth.sig.returnType = some .int) (hlk : meth.locks = false) (hP : XP D ad n cI cS cQ V H) (hS : va_S (iA ad (xN n)) s.heap H locs) (hdg : decode cc pc = .ok (.ireturn, 1)) : W p l e R s m args below meth c H locs 0 0 (MQ below (gPost D ad (xN n) (some (.int v)) (xc ad n cI cS cQ V)) args s 0 0 (iA ad (xN n))) (F0 m pc ls [.int v]) := g_iret S hr hlk hP hS hdg rfl rfl
theorem x_zret {v : Int32} (S : CallFix p m c cc nL s args TG own) (hr : meth.sig.returnType = some .boolean) (hlk : meth.locks = false) (hn : narrow .boolean (.int v) = .int v) (hP : XP D ad n cI cS cQ V H) (hS : va_S (iA ad (xN n)) s.heap H locs) (hdg : decode cc pc = .ok (.ireturn, 1)) : W p l e R s m args below meth c H locs 0 0 (MQ below (gPost D ad (xN n) (some (.int v)) (xc ad n cI cS cQ V)) args s 0 0 (iA ad (xN n))) (F0 m pc ls [.int v]) := g_zret S hr hlk hn hP hS hdg rfl rfl
theorem x_vret (S : CallFix p m c cc nL s args TG own) (hr : meth.sig.returnType = none) (hlk : meth.locks = false) (hP : XP D ad n cI cS cQ V H) (hS : va_S (iA ad (xN n)) s.heap H locs) (hdg : decode cc pc = .ok (.return_, 1)) : W p l e R s m args below meth c H locs 0 0 (MQ below (gPost D ad (xN n) none (xc ad n cI cS cQ V)) args s 0 0 (iA ad (xN n))) (F0 m pc ls []) := g_vret S hr hlk hP hS hdg rfl rfl
theorem x_aretN {nm : String} (S : CallFix p m c cc nL s args TG own) (hr : meth.sig.returnType = some (.object nm)) (hlk : meth.locks = false) (hP : XP D ad n cI cS cQ V H) (hS : va_S (iA ad (xN n)) s.heap H locs) (hdg : decode cc pc = .ok (.areturn, 1)) : W p l e R s m args below meth c H locs 0 0 (MQ below (gPost D ad (xN n) (some (xo ad none)) (xc ad n cI cS cQ V)) args s 0 0 (iA ad (xN n))) (F0 m pc ls [.null]) := g_aret S hr hlk (Or.inl ⟨_, rfl⟩) (Or.inl rfl) hP hS hdg rfl rfl
theorem x_aretS {nm : String} {k : Nat} (S : CallFix p m c cc nL s args TG own) (hr : meth.sig.returnType = some (.object nm)) (hlk : meth.locks = false) (hP : XP D ad n cI cS cQ V H) (hS : va_S (iA ad (xN n)) s.heap H locs) (hdg : decode cc pc = .ok (.areturn, 1)) : W p l e R s m args below meth c H locs 0 0 (MQ below (gPost D ad (xN n) (some (xo ad (some k))) (xc ad n cI cS cQ V)) args s 0 0 (iA ad (xN n))) (F0 m pc ls [.ref (ad (6 + k))]) := g_aret S hr hlk (Or.inl ⟨_, rfl⟩) (Or.inr ⟨_, rfl⟩) hP hS hdg rfl rfl
end XR
end
section
/-! numbers of loops -/
theorem lp_nn {x : Int32} {i : Nat} (ek : x = nI i) (hi : i < 2 ^ 30) : ¬ x < 0 := by
  rw [ek]
  exact nI_pos (by omega)
theorem lp_lt {x b : Int32} {i B : Nat} (hb : b = nI B) (hB : B < 2 ^ 31) (ek : x = nI i) (hi : i < 2 ^ 30) (c : ¬ b ≤ x) : i < B := by
  subst ek hb
  rcases Nat.lt_or_ge i B with q | q
  · exact q
  · exact absurd (nI_le q (by omega)) c
theorem vin_d {x b : Int32} {B : Nat} (hb : b = nI B) (hB : B < 2 ^ 31) (h0 : ¬ x < 0) (h1 : x < b) : vp_in x B := vin_c hb hB h0 (Int32.not_le.mpr h1)
theorem nI_self {x : Int32} (h : ¬ x < 0) : x = nI x.toNatClampNeg := by
  obtain ⟨j, hj, rfl⟩ := nI_of h
  rw [nI_clamp hj]
theorem clamp_lt (x : Int32) : x.toNatClampNeg < 2 ^ 31 := by
  by_cases h : x < 0
  · have h1 : x.toInt < 0 := by simpa using Int32.lt_iff_toInt_lt.mp h
    show x.toInt.toNat < 2 ^ 31
    omega
  · obtain ⟨j, hj, rfl⟩ := nI_of h
    rw [nI_clamp hj]
    exact hj
theorem nn_of1 {x : Int32} (h : ¬ x < 1) : ¬ x < 0 := fun q => h (Int32.lt_iff_toInt_lt.mpr (by
  have h1 := Int32.lt_iff_toInt_lt.mp q
  have e0 : (0 : Int32).toInt = 0 := rfl
  have e1 : (1 : Int32).toInt = 1 := rfl
  rw [e0] at h1
  rw [e1]
  omega))
theorem vin_n {x a : Int32} (h3 : ¬ a < 0) (h5 : a ≤ 512) (h0 : ¬ x < 0) (c : ¬ a ≤ x) : vp_in x 512 := by
  obtain ⟨j, hj, rfl⟩ := nI_of h0
  obtain ⟨b, hb, rfl⟩ := nI_of h3
  have h6 : b ≤ 512 := (nI_leI hb (by decide)).mp h5
  have h7 : j < b := by
    rcases Nat.lt_or_ge j b with q | q
    · exact q
    · exact absurd (nI_le q hj) c
  exact vp_in_nI (by omega) (by decide)
theorem c512 {a : Int32} (h3 : ¬ a < 0) (h5 : a ≤ 512) : a.toNatClampNeg ≤ 512 := by
  obtain ⟨b, hb, rfl⟩ := nI_of h3
  rw [nI_clamp hb]
  exact (nI_leI hb (by decide)).mp h5
theorem rem_eq {a : Int32} {q : Nat} (hq : q < 2 ^ 30) (ha : a = nI q) : a - a / 1024 * 1024 = nI (q % 1024) := by
  subst ha
  exact pk_rem (d := 1024) (by omega) (by decide) (by decide)
theorem rem_ek {a : Int32} {q : Nat} (hq : q < 2 ^ 30) (ha : a = nI q) : a - a / 1024 * 1024 = nI (a - a / 1024 * 1024).toNatClampNeg := by
  rw [rem_eq hq ha, nI_clamp (by omega)]
theorem rem_hi {a : Int32} {q : Nat} (hq : q < 2 ^ 30) (ha : a = nI q) : (a - a / 1024 * 1024).toNatClampNeg < 2 ^ 30 := by
  rw [rem_eq hq ha, nI_clamp (by omega)]
  omega
theorem div_ek {a : Int32} {q : Nat} (hq : q < 2 ^ 30) (ha : a = nI q) : a / 1024 = nI (q / 1024) := by
  subst ha
  exact pk_div (d := 1024) (by omega) (by decide) (by decide)
theorem ju12_lt (x : Int32) : x.toBitVec.toNat / 4096 < 2 ^ 30 := by
  have := x.toBitVec.isLt
  omega
theorem ju12 (x : Int32) : ju x 12 = nI (x.toBitVec.toNat / 4096) := by
  have h := pk_ushr x 12 12 (by decide)
  apply Int32.toBitVec_inj.mp
  apply BitVec.eq_of_toNat_eq
  rw [pk_tn (by have := ju12_lt x; omega)]
  exact h
section XM
variable {p : Program} {l : Launch} {e : Env} {R : Room} {s : State} {m : MethodId} {args : Array Value} {below : List Frame} {meth : Method} {c : Code} {H : Heap} {locs : List Loc} {cells slots : Nat} {Q : State → Prop}
variable {cc : ByteArray} {nL pc index : Nat} {ls : Array Slot} {rest st0 : List Value} {own : String} {D : va_G} {ad : Nat → Nat} {n : Nat} {cI cS cQ : ClassId} {V V' : VS} {H0 : Heap}
theorem xc_cpy {f g : Nat} (hP : va_P D classes (iw ad (xN n) (va_up (xc ad n cI cS cQ V) (22 + g) (.inl (cI, 1024, .inl (va_cpy (v_words V f) (v_words V g) 0 0 1024))))) H) : XP D ad n cI cS cQ (s_row V g (v_words V f)) H := by
  refine iw_eq (cel := va_up (xc ad n cI cS cQ V) (22 + g) (.inl (cI, 1024, .inl (v_words V f)))) (iw_cong hP (fun i _ h => ?_)) xc_rows
  by_cases e : i = 22 + g
  · subst e
    rw [va_up_self] at h ⊢
    exact arr_cong h (fun j hj => by rw [pk_cpy_in (Nat.zero_le j) (by omega)]; simp)
  · rw [va_up_ne _ _ e] at h ⊢
    exact h
theorem x_copy (S : CallFix p m c cc nL s args TG own) (hsz : ls.size = nL) (hE : xE ad n) (hK : xK D cI cS cQ s) (hP : XP D ad n cI cS cQ V H) (hS : va_S (iA ad (xN n)) H0 H locs) {f g : Nat} (hf : f < n) (hg : g < n) (hlink : Cond.methodLink own index arraycopyName ∈ TG) (hnat : Cond.native arraycopyName ∈ TG) (hst : Cond.static arraycopyName ∈ TG) (hini : Cond.initialized "java/lang/System" ∈ TG)
    (hfr : 1 ≤ R.frames) (hlo : (rest.map fun v => v.category).sum + (nativeFrameWords "java/lang/System" "arraycopy" 5 + 11) ≤ R.locals) (hdg : decode cc pc = .ok (.invokestatic index, 3))
    (kk : ∀ (H1 : Heap) (locs1 : List Loc), XP D ad n cI cS cQ (s_row V g (v_words V f)) H1 → va_S (iA ad (xN n)) H0 H1 locs1 → W p l e R s m args below meth c H1 locs1 cells slots Q (F0 m (pc + 3) ls rest)) :
    W p l e R s m args below meth c H locs cells slots Q (F0 m pc ls (.int 1024 :: .int 0 :: .ref (ad (22 + g)) :: .int 0 :: .ref (ad (22 + f)) :: rest)) := by
  have hts := S.2.2.2.2
  refine va_copyi (ty := .int) (f := v_words V f) (g := v_words V g) (c0 := cI) (c1 := cI) (n0 := 1024) (n1 := 1024) S.1 S.2.1 (S.2.2.1.trans hsz.symm) S.2.2.2.1 (hts _ hlink) (hts _ hnat) (hts _ hst) (hts _ hini) hK.1 hP (iw_D hE.1) hS (22 + f) (22 + g) 0 0 (by rw [iw_get (by unfold xN; omega), xc_row]) (by rw [iw_get (by unfold xN; omega), xc_row]) rfl rfl rfl (by decide) (by decide) (by decide) (by decide) (by decide) (fun _ _ => rfl) hfr hlo hdg (fun H1 locs1 h1 _ h3 => kk H1 locs1 (xc_cpy ?_) h3)
  rw [← iw_set (by unfold xN; omega)]
  exact h1
end XM
section XF
variable (l : Launch) (D : va_G) (ad : Nat → Nat) (n : Nat) (cI cS cQ : ClassId)
set_option maxHeartbeats 4000000 in
set_option maxRecDepth 100000 in
theorem w_A_fill (hE : xE ad n) {p : Program} {e : Env} {s : State} {m : MethodId} {args : Array Value} {below : List Frame} {meth : Method} {c : Code} (S : CallFix p m c b_A_fill 4 s args TG "java/util/Arrays") (hr : meth.sig.returnType = none) (hlk : meth.locks = false) (hK : xK D cI cS cQ s) (V : VS) (f : Nat) (hf : f < n) (v : Int32) :
    ∀ (t i : Nat) (x2 : Int32) (H : Heap) (locs : List Loc) (ls : Array Slot), x2 = nI i → i ≤ 1024 → 1024 - i < t → XP D ad n cI cS cQ (s_row V f (fun j => if j < i then v else v_words V f j)) H → va_S (iA ad (xN n)) s.heap H locs → lv_has ls 4 [(0, .ref (ad (22 + f))), (1, .int v), (2, .int x2), (3, .int (nI 1024))] →
      W p l e ({ frames := 0, cells := 0, slots := 0, locals := 0 }) s m args below meth c H locs 0 0 (MQ below (gPost D ad (xN n) none (xc ad n cI cS cQ (s_row V f (fun _ => v)))) args s 0 0 (iA ad (xN n))) (F0 m 5 ls []) := by
  intro t
  induction t with
  | zero => intro i x2 H locs ls _ _ h; exact absurd h (Nat.not_lt_zero _)
  | succ t ih =>
    intro i x2 H locs ls ek hi hf2 hP hS hl
    refine lv_iload_n S.1 S.2.1 d_A_fill_5 rfl (lv_at hl 2 rfl) ?_
    refine lv_iload_n S.1 S.2.1 d_A_fill_6 rfl (lv_at hl 3 rfl) ?_
    refine lv_icmp_ge (tgt := 20) S.1 S.2.1 d_A_fill_7 (by decide) (fun c7 => ?_) (fun c7 => ?_)
    · have hi2 : i = 1024 := by
        rcases Nat.lt_or_ge i 1024 with q | q
        · exact absurd (ek ▸ c7) (nI_ge q (by decide))
        · omega
      subst hi2
      refine x_vret S hr hlk (iw_cong hP (fun a ha h => ?_)) hS d_A_fill_20
      by_cases e : a = 22 + f
      · subst e
        rw [xc_row] at h ⊢
        refine arr_cong h (fun j hj => ?_)
        show va_up (v_words V) f (fun j => if j < 1024 then v else v_words V f j) f j = va_up (v_words V) f (fun _ => v) f j
        rw [va_up_self, va_up_self, if_pos hj]
      · have e1 : xc ad n cI cS cQ (s_row V f (fun _ => v)) a = xc ad n cI cS cQ V a := by rw [← xc_rows, va_up_ne _ _ e]
        have e2 : xc ad n cI cS cQ (s_row V f (fun j => if j < 1024 then v else v_words V f j)) a = xc ad n cI cS cQ V a := by rw [← xc_rows, va_up_ne _ _ e]
        rw [e2] at h
        rw [e1]
        exact h
    · have hB : i < 1024 := by
        rcases Nat.lt_or_ge i 1024 with q | q
        · exact q
        · exact absurd (by rw [ek]; exact nI_le q (by omega)) c7
      have hin : vp_in x2 1024 := by rw [ek]; exact vp_in_nI hB (by decide)
      refine lv_aload_n S.1 S.2.1 d_A_fill_10 rfl (lv_at hl 0 rfl) ?_
      refine lv_iload_n S.1 S.2.1 d_A_fill_11 rfl (lv_at hl 2 rfl) ?_
      refine lv_iload_n S.1 S.2.1 d_A_fill_12 rfl (lv_at hl 1 rfl) ?_
      refine x_ast_row S hE hK hP hS hf hin d_A_fill_13 (fun H locs hP hS => ?_)
      refine lv_iinc (v := x2 + 1) (lv' := [(2, .int (x2 + 1)), (0, .ref (ad (22 + f))), (1, .int v), (3, .int (nI 1024))]) S.1 S.2.1 d_A_fill_14 hl (k := 2) rfl rfl (by decide) rfl (fun ls hl => ?_)
      refine lv_goto (tgt := 5) S.1 S.2.1 d_A_fill_17 (by decide) ?_
      refine ih (i + 1) (x2 + 1) H locs ls (by rw [ek]; exact nI_1 i) (by omega) (by omega) (iw_eq hP (congrArg _ ?_)) hS (lv_sub hl [1, 2, 0, 3] rfl)
      unfold s_word
      have e : x2.toNatClampNeg = i := by rw [ek]; exact nI_clamp (by omega)
      rw [e]
      unfold s_row
      congr 6
      funext a
      by_cases ea : a = f
      · subst ea
        show va_up _ a _ a = va_up _ a _ a
        rw [va_up_self, va_up_self]
        funext j
        show upd (va_up (v_words V) a (fun j => if j < i then v else v_words V a j) a) i v j = _
        rw [va_up_self]
        by_cases ej : j = i
        · subst ej
          rw [pk_us, if_pos (by omega)]
        · rw [pk_un ej]
          by_cases h : j < i
          · rw [if_pos h, if_pos (by omega)]
          · rw [if_neg h, if_neg (by omega)]
      · show va_up (va_up _ f _) f _ a = va_up _ f _ a
        rw [va_up_ne _ _ ea, va_up_ne _ _ ea, va_up_ne _ _ ea]
set_option maxHeartbeats 4000000 in
set_option maxRecDepth 100000 in
/-- Arrays.fill over a frame's words -/
theorem c_A_fill (hE : xE ad n) (V : VS) (f : Nat) (hf : f < n) (v : Int32) : XC l D ad n cI cS cQ y_A_fill b_A_fill 4 none ({ frames := 0, cells := 0, slots := 0, locals := 0 }) [.ref (ad (22 + f)), .int v] V none (s_row V f (fun _ => v)) := by
  refine FC_intro (by decide) (Nat.le_of_ble_eq_true rfl) ?_
  intro p e s m below meth c ls S hr hlk hK hP hS hl
  have S : CallFix p m c b_A_fill 4 s _ TG "java/util/Arrays" := S
  have hl : lv_has ls 4 [(0, .ref (ad (22 + f))), (1, .int v)] := hl
  refine lv_iconst (v := 0) S.1 S.2.1 d_A_fill_0 (by decide) ?_
  refine lv_istore_n (lv' := [(2, .int 0), (0, .ref (ad (22 + f))), (1, .int v)]) S.1 S.2.1 d_A_fill_1 rfl hl (by decide) rfl (fun ls hl => ?_)
  refine lv_aload_n S.1 S.2.1 d_A_fill_2 rfl (lv_at hl 1 rfl) ?_
  refine x_len_row S hK hP hf d_A_fill_3 ?_
  refine lv_istore_n (lv' := [(3, .int (nI 1024)), (2, .int 0), (0, .ref (ad (22 + f))), (1, .int v)]) S.1 S.2.1 d_A_fill_4 rfl hl (by decide) rfl (fun ls hl => ?_)
  refine w_A_fill l D ad n cI cS cQ hE S hr hlk hK V f hf v 1025 0 0 _ _ ls nI_0.symm (by decide) (by decide) (iw_eq hP (congrArg _ ?_)) hS (lv_sub hl [2, 3, 1, 0] rfl)
  unfold s_row
  show V = _
  have e : va_up V.2.2.2.2.2.2 f (fun j => if j < 0 then v else v_words V f j) = V.2.2.2.2.2.2 := by
    funext a
    by_cases ea : a = f
    · subst ea
      rw [va_up_self]
      rfl
    · rw [va_up_ne _ _ ea]
  rw [e]
end XF
end
section
theorem ci_V_131 : CIv "PageVault" 131 y_S_isOpen b_S_isOpen 1 (some .boolean) 0 := ⟨tg_2, tg_3, tg_4, tg_5, tg_6, by decide +kernel, by decide +kernel⟩
theorem ci_V_40 : CIv "PageVault" 40 y_V_leastUnused b_V_leastUnused 2 (some .int) 0 := ⟨tg_7, tg_8, tg_9, tg_10, tg_11, by decide +kernel, by decide +kernel⟩
theorem ci_V_44 : CIv "PageVault" 44 y_F_spare b_F_spare 1 (some .int) 0 := ⟨tg_14, tg_15, tg_16, tg_17, tg_18, by decide +kernel, by decide +kernel⟩
theorem ci_F_24 : CIs "PageVault$Frames" 24 y_A_fill b_A_fill 4 none 2 := ⟨tg_22, tg_23, tg_24, tg_25, by decide +kernel, by decide +kernel⟩
theorem ci_S_22 : CIv "PageVault$Space" 22 y_F_take b_F_take 2 (some .int) 0 := ⟨tg_26, tg_15, tg_27, tg_28, tg_29, by decide +kernel, by decide +kernel⟩
theorem ci_V_47 : CIv "PageVault" 47 y_S_open b_S_open 2 none 1 := ⟨tg_31, tg_3, tg_32, tg_33, tg_34, by decide +kernel, by decide +kernel⟩
theorem ci_V_50 : CIv "PageVault" 50 y_V_find b_V_find 2 (some (.object "PageVault$Space")) 1 := ⟨tg_35, tg_8, tg_36, tg_37, tg_38, by decide +kernel, by decide +kernel⟩
theorem ci_F_30 : CIv "PageVault$Frames" 30 y_F_isFrame b_F_isFrame 2 (some .boolean) 1 := ⟨tg_39, tg_15, tg_40, tg_41, tg_42, by decide +kernel, by decide +kernel⟩
theorem ci_S_36 : CIv "PageVault$Space" 36 y_F_release b_F_release 2 none 1 := ⟨tg_43, tg_15, tg_44, tg_45, tg_46, by decide +kernel, by decide +kernel⟩
theorem ci_S_59 : CIv "PageVault$Space" 59 y_F_word b_F_word 3 (some .int) 2 := ⟨tg_47, tg_15, tg_48, tg_49, tg_50, by decide +kernel, by decide +kernel⟩
theorem ci_S_78 : CIn y_V_frameOf b_V_frameOf 1 (some .int) 1 := ⟨tg_51, tg_8, tg_52, by decide +kernel, by decide +kernel⟩
theorem ci_S_32 : CIv "PageVault$Space" 32 y_S_tableOf b_S_tableOf 2 (some .int) 1 := ⟨tg_53, tg_3, tg_54, tg_55, tg_56, by decide +kernel, by decide +kernel⟩
theorem ci_S_62 : CIv "PageVault$Space" 62 y_F_setWord b_F_setWord 4 none 3 := ⟨tg_57, tg_15, tg_58, tg_59, tg_60, by decide +kernel, by decide +kernel⟩
theorem ci_S_28 : CIv "PageVault$Space" 28 y_S_removePagesFrom b_S_removePagesFrom 7 none 1 := ⟨tg_61, tg_3, tg_62, tg_63, tg_64, by decide +kernel, by decide +kernel⟩
theorem ci_V_54 : CIv "PageVault" 54 y_S_close b_S_close 2 none 0 := ⟨tg_65, tg_3, tg_66, tg_67, tg_68, by decide +kernel, by decide +kernel⟩
theorem ci_S_42 : CIv "PageVault$Space" 42 y_S_hasPageIn b_S_hasPageIn 4 (some .boolean) 1 := ⟨tg_69, tg_3, tg_70, tg_71, tg_72, by decide +kernel, by decide +kernel⟩
theorem ci_V_57 : CIv "PageVault" 57 y_S_framesOfCopy b_S_framesOfCopy 3 (some .int) 0 := ⟨tg_73, tg_3, tg_74, tg_75, tg_76, by decide +kernel, by decide +kernel⟩
theorem ci_S_91 : CIv "PageVault$Space" 91 y_F_hold b_F_hold 2 none 1 := ⟨tg_77, tg_15, tg_78, tg_79, tg_80, by decide +kernel, by decide +kernel⟩
theorem ci_S_72 : CIn y_V_entryOf b_V_entryOf 2 (some .int) 2 := ⟨tg_81, tg_8, tg_82, by decide +kernel, by decide +kernel⟩
theorem ci_S_69 : CIv "PageVault$Space" 69 y_S_addTable b_S_addTable 3 (some .int) 1 := ⟨tg_83, tg_3, tg_84, tg_85, tg_86, by decide +kernel, by decide +kernel⟩
theorem ci_S_81 : CIv "PageVault$Space" 81 y_F_copyWords b_F_copyWords 3 none 2 := ⟨tg_91, tg_15, tg_92, tg_93, tg_94, by decide +kernel, by decide +kernel⟩
theorem ci_S_46 : CIv "PageVault$Space" 46 y_S_shareRegion b_S_shareRegion 5 none 2 := ⟨tg_95, tg_3, tg_96, tg_97, tg_98, by decide +kernel, by decide +kernel⟩
theorem ci_S_39 : CIv "PageVault$Space" 39 y_S_open b_S_open 2 none 1 := ⟨tg_31, tg_3, tg_99, tg_33, tg_34, by decide +kernel, by decide +kernel⟩
theorem ci_V_60 : CIv "PageVault" 60 y_S_openAsCopy b_S_openAsCopy 3 none 1 := ⟨tg_100, tg_3, tg_101, tg_102, tg_103, by decide +kernel, by decide +kernel⟩
theorem ci_V_135 : CIs "PageVault" 135 y_V_isUsers b_V_isUsers 1 (some .boolean) 1 := ⟨tg_105, tg_8, tg_106, tg_107, by decide +kernel, by decide +kernel⟩
theorem ci_V_64 : CIs "PageVault" 64 y_V_beginsPage b_V_beginsPage 1 (some .boolean) 1 := ⟨tg_108, tg_8, tg_109, tg_110, by decide +kernel, by decide +kernel⟩
theorem ci_V_68 : CIs "PageVault" 68 y_V_areFlags b_V_areFlags 1 (some .boolean) 1 := ⟨tg_111, tg_8, tg_112, tg_113, by decide +kernel, by decide +kernel⟩
theorem ci_S_56 : CIs "PageVault$Space" 56 y_S_slotOf b_S_slotOf 1 (some .int) 1 := ⟨tg_114, tg_3, tg_115, tg_116, by decide +kernel, by decide +kernel⟩
theorem ci_V_71 : CIv "PageVault" 71 y_S_entryAt b_S_entryAt 2 (some .int) 1 := ⟨tg_117, tg_3, tg_118, tg_119, tg_120, by decide +kernel, by decide +kernel⟩
theorem ci_S_66 : CIv "PageVault$Space" 66 y_F_spare b_F_spare 1 (some .int) 0 := ⟨tg_14, tg_15, tg_121, tg_17, tg_18, by decide +kernel, by decide +kernel⟩
theorem ci_V_75 : CIv "PageVault" 75 y_S_addPage b_S_addPage 6 (some .int) 2 := ⟨tg_122, tg_3, tg_123, tg_124, tg_125, by decide +kernel, by decide +kernel⟩
theorem ci_V_78 : CIv "PageVault" 78 y_S_reach b_S_reach 2 none 1 := ⟨tg_130, tg_3, tg_131, tg_132, tg_133, by decide +kernel, by decide +kernel⟩
theorem ci_V_81 : CIs "PageVault" 81 y_V_frameOf b_V_frameOf 1 (some .int) 1 := ⟨tg_51, tg_8, tg_134, tg_52, by decide +kernel, by decide +kernel⟩
theorem ci_V_84 : CIs "PageVault" 84 y_V_entryOf b_V_entryOf 2 (some .int) 2 := ⟨tg_81, tg_8, tg_135, tg_82, by decide +kernel, by decide +kernel⟩
theorem ci_V_87 : CIv "PageVault" 87 y_S_setEntry b_S_setEntry 3 none 2 := ⟨tg_136, tg_3, tg_137, tg_138, tg_139, by decide +kernel, by decide +kernel⟩
theorem ci_V_91 : CIv "PageVault" 91 y_S_length b_S_length 1 (some .int) 0 := ⟨tg_140, tg_3, tg_141, tg_142, tg_143, by decide +kernel, by decide +kernel⟩
theorem ci_V_96 : CIv "PageVault" 96 y_S_resize b_S_resize 2 none 1 := ⟨tg_145, tg_3, tg_146, tg_147, tg_148, by decide +kernel, by decide +kernel⟩
theorem ci_V_107 : CIs "PageVault" 107 y_V_isStraight b_V_isStraight 2 (some .boolean) 2 := ⟨tg_150, tg_8, tg_151, tg_152, by decide +kernel, by decide +kernel⟩
theorem ci_V_111 : CIv "PageVault" 111 y_V_trapped b_V_trapped 2 (some .int) 1 := ⟨tg_153, tg_8, tg_154, tg_155, tg_156, by decide +kernel, by decide +kernel⟩
theorem ci_V_138 : CIv "PageVault" 138 y_V_touch b_V_touch 6 (some .int) 3 := ⟨tg_157, tg_8, tg_158, tg_159, tg_160, by decide +kernel, by decide +kernel⟩
theorem ci_F_40 : CIs "PageVault$Frames" 40 y_F_wordOf b_F_wordOf 1 (some .int) 1 := ⟨tg_161, tg_15, tg_162, tg_163, by decide +kernel, by decide +kernel⟩
theorem ci_F_44 : CIv "PageVault$Frames" 44 y_F_word b_F_word 3 (some .int) 2 := ⟨tg_47, tg_15, tg_164, tg_49, tg_50, by decide +kernel, by decide +kernel⟩
theorem ci_F_48 : CIs "PageVault$Frames" 48 y_F_bitOf b_F_bitOf 1 (some .int) 1 := ⟨tg_165, tg_15, tg_166, tg_167, by decide +kernel, by decide +kernel⟩
theorem ci_F_51 : CIs "PageVault$Frames" 51 y_F_mask b_F_mask 1 (some .int) 1 := ⟨tg_168, tg_15, tg_169, tg_170, by decide +kernel, by decide +kernel⟩
theorem ci_V_142 : CIv "PageVault" 142 y_F_read b_F_read 4 (some .int) 3 := ⟨tg_171, tg_15, tg_172, tg_173, tg_174, by decide +kernel, by decide +kernel⟩
theorem ci_V_128 : CIv "PageVault" 128 y_F_holders b_F_holders 2 (some .int) 1 := ⟨tg_175, tg_15, tg_176, tg_177, tg_178, by decide +kernel, by decide +kernel⟩
theorem ci_S_75 : CIv "PageVault$Space" 75 y_S_entryAt b_S_entryAt 2 (some .int) 1 := ⟨tg_117, tg_3, tg_179, tg_119, tg_120, by decide +kernel, by decide +kernel⟩
theorem ci_S_85 : CIn y_V_flagsOf b_V_flagsOf 1 (some .int) 1 := ⟨tg_180, tg_8, tg_181, by decide +kernel, by decide +kernel⟩
theorem ci_S_88 : CIv "PageVault$Space" 88 y_S_setEntry b_S_setEntry 3 none 2 := ⟨tg_136, tg_3, tg_182, tg_138, tg_139, by decide +kernel, by decide +kernel⟩
theorem ci_V_152 : CIv "PageVault" 152 y_S_partPage b_S_partPage 4 (some .int) 1 := ⟨tg_183, tg_3, tg_184, tg_185, tg_186, by decide +kernel, by decide +kernel⟩
theorem ci_V_155 : CIv "PageVault" 155 y_V_frameOrFull b_V_frameOrFull 2 (some .int) 1 := ⟨tg_187, tg_8, tg_188, tg_189, tg_190, by decide +kernel, by decide +kernel⟩
theorem ci_V_149 : CIv "PageVault" 149 y_V_touchAbsent b_V_touchAbsent 4 (some .int) 3 := ⟨tg_191, tg_8, tg_192, tg_193, tg_194, by decide +kernel, by decide +kernel⟩
theorem ci_V_99 : CIv "PageVault" 99 y_V_number b_V_number 6 (some .int) 4 := ⟨tg_195, tg_8, tg_196, tg_197, tg_198, by decide +kernel, by decide +kernel⟩
theorem ci_F_54 : CIv "PageVault$Frames" 54 y_F_setWord b_F_setWord 4 none 3 := ⟨tg_57, tg_15, tg_199, tg_59, tg_60, by decide +kernel, by decide +kernel⟩
theorem ci_V_146 : CIv "PageVault" 146 y_F_write b_F_write 6 none 4 := ⟨tg_200, tg_15, tg_201, tg_202, tg_203, by decide +kernel, by decide +kernel⟩
theorem ci_V_114 : CIv "PageVault" 114 y_V_write b_V_write 6 (some .boolean) 4 := ⟨tg_204, tg_8, tg_205, tg_206, tg_207, by decide +kernel, by decide +kernel⟩
theorem ci_V_118 : CIv "PageVault" 118 y_V_readByte b_V_readByte 4 (some .int) 2 := ⟨tg_209, tg_8, tg_210, tg_211, tg_212, by decide +kernel, by decide +kernel⟩
theorem ci_V_122 : CIv "PageVault" 122 y_V_entryIn b_V_entryIn 4 (some .int) 2 := ⟨tg_213, tg_8, tg_214, tg_215, tg_216, by decide +kernel, by decide +kernel⟩
theorem ci_V_125 : CIs "PageVault" 125 y_V_flagsOf b_V_flagsOf 1 (some .int) 1 := ⟨tg_180, tg_8, tg_217, tg_181, by decide +kernel, by decide +kernel⟩
end
section
section XW
variable (l : Launch) (D : va_G) (ad : Nat → Nat) (n : Nat) (cI cS cQ : ClassId)
/-- PageVault$Space.isOpen()Z -/
def j_S_isOpen (V : VS) (k : Nat) : Int32 :=
  if (v_root V k) = (-1) then
    0
  else
    1
set_option maxHeartbeats 4000000 in
set_option maxRecDepth 100000 in
theorem c_S_isOpen (hE : xE ad n) (V : VS) (k : Nat) (hk : k < 16) : XC l D ad n cI cS cQ y_S_isOpen b_S_isOpen 1 (some .boolean) ({ frames := 0, cells := 0, slots := 0, locals := 0 }) [.ref (ad (6 + k))] V (some (.int (j_S_isOpen V k))) (V) := by
  refine FC_intro (by decide) (Nat.le_of_ble_eq_true rfl) ?_
  intro p e s m below meth c ls S hr hlk hK hP hS hl
  have S : CallFix p m c b_S_isOpen 1 s _ TG "PageVault$Space" := S
  have hl : lv_has ls 1 [(0, .ref (ad (6 + k)))] := hl
  refine lv_aload_n S.1 S.2.1 d_S_isOpen_0 rfl (lv_at hl 0 rfl) ?_
  refine x_get_root S hK hP hk tg_1 d_S_isOpen_1 ?_
  refine lv_iconst (v := (-1)) S.1 S.2.1 d_S_isOpen_4 (by decide) ?_
  refine lv_icmp_eq (tgt := 12) S.1 S.2.1 d_S_isOpen_5 (by decide) (fun c5 => ?_) (fun c5 => ?_)
  · refine lv_iconst (v := 0) S.1 S.2.1 d_S_isOpen_12 (by decide) ?_
    rw [show j_S_isOpen V k = 0 from by rw [j_S_isOpen, if_pos c5]]
    exact x_zret (v := 0) S hr hlk rfl hP hS d_S_isOpen_13
  · refine lv_iconst (v := 1) S.1 S.2.1 d_S_isOpen_8 (by decide) ?_
    refine lv_goto (tgt := 13) S.1 S.2.1 d_S_isOpen_9 (by decide) ?_
    rw [show j_S_isOpen V k = 1 from by rw [j_S_isOpen, if_neg c5]]
    exact x_zret (v := 1) S hr hlk rfl hP hS d_S_isOpen_13
def j_V_leastUnused_h2 : Nat → VS → Int32 → Int32
  | 0, V, _ => 0
  | f + 1, V, x1 =>
      if 16 ≤ x1 then
        (-1)
      else
        if (j_S_isOpen V x1.toNatClampNeg) = 0 then
          x1
        else
          j_V_leastUnused_h2 f V (x1 + 1)
set_option maxHeartbeats 4000000 in
set_option maxRecDepth 100000 in
theorem w_V_leastUnused_h2 (hE : xE ad n) {p : Program} {e : Env} {s : State} {m : MethodId} {args : Array Value} {below : List Frame} {meth : Method} {c : Code} (S : CallFix p m c b_V_leastUnused 2 s args TG "PageVault") (hr : meth.sig.returnType = some .int) (hlk : meth.locks = false) (hK : xK D cI cS cQ s) :
    ∀ (f i : Nat) (x1 : Int32) (V : VS) (H : Heap) (locs : List Loc) (ls : Array Slot), x1 = nI i → i < 2 ^ 30 → 16 - i < f → XP D ad n cI cS cQ V H → va_S (iA ad (xN n)) s.heap H locs → lv_has ls 2 [(0, .ref (ad 0)), (1, .int x1)] → W p l e ({ frames := 1, cells := 0, slots := 0, locals := 20 }) s m args below meth c H locs 0 0 (MQ below (gPost D ad (xN n) (some (.int (j_V_leastUnused_h2 f V x1))) (xc ad n cI cS cQ (V))) args s 0 0 (iA ad (xN n))) (F0 m 2 ls []) := by
  intro f
  induction f with
  | zero =>
    intro i x1 V H locs ls ek hi hf hP hS hl
    exact absurd hf (Nat.not_lt_zero _)
  | succ f ih =>
    intro i x1 V H locs ls ek hi hf hP hS hl
    refine lv_iload_n S.1 S.2.1 d_V_leastUnused_2 rfl (lv_at hl 1 rfl) ?_
    refine lv_bipush (v := 16) S.1 S.2.1 d_V_leastUnused_3 (by decide) ?_
    refine lv_icmp_ge (tgt := 28) S.1 S.2.1 d_V_leastUnused_5 (by decide) (fun c5 => ?_) (fun c5 => ?_)
    · refine lv_iconst (v := (-1)) S.1 S.2.1 d_V_leastUnused_28 (by decide) ?_
      rw [show j_V_leastUnused_h2 (f + 1) V x1 = (-1) from by rw [j_V_leastUnused_h2, if_pos c5]]
      exact x_iret S hr hlk hP hS d_V_leastUnused_29
    · refine lv_aload_n S.1 S.2.1 d_V_leastUnused_8 rfl (lv_at hl 0 rfl) ?_
      refine x_get_spaces S hK hP tg_0 d_V_leastUnused_9 ?_
      refine lv_iload_n S.1 S.2.1 d_V_leastUnused_12 rfl (lv_at hl 1 rfl) ?_
      refine x_ald_spaces S hK hP (vin_c (B := 16) (by decide) (by decide) (lp_nn ek hi) c5) d_V_leastUnused_13 ?_
      refine x_callVi (As := []) (rest := []) S hK ci_V_131 (c_S_isOpen l D ad n cI cS cQ hE V x1.toNatClampNeg (vin_lt (vin_c (B := 16) (by decide) (by decide) (lp_nn ek hi) c5))) (x_recS hK hP (vin_lt (vin_c (B := 16) (by decide) (by decide) (lp_nn ek hi) c5))) hP hS ⟨rfl, rfl, Nat.le_of_ble_eq_true rfl, Nat.le_of_ble_eq_true rfl⟩ rfl hl.1 rfl (Nat.le_of_ble_eq_true rfl) d_V_leastUnused_14 (fun H locs hP hS => ?_)
      refine lv_if_ne (tgt := 22) S.1 S.2.1 d_V_leastUnused_17 (by decide) (fun c17 => ?_) (fun c17 => ?_)
      · refine lv_iinc (v := x1 + 1) (lv' := [(1, .int (x1 + 1)), (0, .ref (ad 0))]) S.1 S.2.1 d_V_leastUnused_22 hl (k := 1) rfl rfl (by decide) rfl (fun ls hl => ?_)
        refine lv_goto (tgt := 2) S.1 S.2.1 d_V_leastUnused_25 (by decide) ?_
        have hn9 := hE.2
        have hB := lp_lt (B := 16) (by decide) (by decide) ek hi c5
        rw [show j_V_leastUnused_h2 (f + 1) V x1 = j_V_leastUnused_h2 f V (x1 + 1) from by rw [j_V_leastUnused_h2, if_neg c5, if_neg c17]]
        exact ih (i + 1)  (x1 + 1) V _ _ _ (by rw [ek]; exact nI_1 i) (by omega) (by omega) hP hS (lv_sub hl [1, 0] rfl)
      · refine lv_iload_n S.1 S.2.1 d_V_leastUnused_20 rfl (lv_at hl 1 rfl) ?_
        rw [show j_V_leastUnused_h2 (f + 1) V x1 = x1 from by rw [j_V_leastUnused_h2, if_neg c5, if_pos c17]]
        exact x_iret S hr hlk hP hS d_V_leastUnused_21
/-- PageVault.leastUnused()I -/
def j_V_leastUnused (V : VS) : Int32 :=
  j_V_leastUnused_h2 17 V 0
theorem lu_h {V : VS} : ∀ (f i : Nat) (x : Int32), x = nI i → i < 2 ^ 30 → 16 - i < f → ¬ j_V_leastUnused_h2 f V x = -1 → vp_in (j_V_leastUnused_h2 f V x) 16 := by
  intro f
  induction f with
  | zero => intro i x _ _ h; exact absurd h (Nat.not_lt_zero _)
  | succ f ih =>
    intro i x ek hi hf h
    rw [j_V_leastUnused_h2] at h ⊢
    by_cases c1 : 16 ≤ x
    · rw [if_pos c1] at h
      exact absurd rfl h
    · rw [if_neg c1] at h ⊢
      have hB := lp_lt (B := 16) (by decide) (by decide) ek hi c1
      by_cases c2 : j_S_isOpen V x.toNatClampNeg = 0
      · rw [if_pos c2] at h ⊢
        exact vin_c (by decide) (by decide) (lp_nn ek hi) c1
      · rw [if_neg c2] at h ⊢
        exact ih (i + 1) (x + 1) (by rw [ek]; exact nI_1 i) (by omega) (by omega) h
theorem lu_in {V : VS} (h : ¬ j_V_leastUnused V = -1) : vp_in (j_V_leastUnused V) 16 := by
  unfold j_V_leastUnused at h ⊢
  exact lu_h 17 0 0 nI_0.symm (by decide) (by decide) h
set_option maxHeartbeats 4000000 in
set_option maxRecDepth 100000 in
theorem c_V_leastUnused (hE : xE ad n) (V : VS)  : XC l D ad n cI cS cQ y_V_leastUnused b_V_leastUnused 2 (some .int) ({ frames := 1, cells := 0, slots := 0, locals := 20 }) [.ref (ad 0)] V (some (.int (j_V_leastUnused V))) (V) := by
  refine FC_intro (by decide) (Nat.le_of_ble_eq_true rfl) ?_
  intro p e s m below meth c ls S hr hlk hK hP hS hl
  have S : CallFix p m c b_V_leastUnused 2 s _ TG "PageVault" := S
  have hl : lv_has ls 2 [(0, .ref (ad 0))] := hl
  refine lv_iconst (v := 0) S.1 S.2.1 d_V_leastUnused_0 (by decide) ?_
  refine lv_istore_n (lv' := [(1, .int 0), (0, .ref (ad 0))]) S.1 S.2.1 d_V_leastUnused_1 rfl hl (by decide) rfl (fun ls hl => ?_)
  rw [show j_V_leastUnused V = j_V_leastUnused_h2 17 V 0 from by rw [j_V_leastUnused]]
  exact w_V_leastUnused_h2 l D ad n cI cS cQ hE S hr hlk hK 17 0 0 V _ _ _ nI_0.symm (by decide) (by decide) hP hS (lv_sub hl [1, 0] rfl)
/-- PageVault$Frames.spare()I -/
def j_F_spare (V : VS) : Int32 :=
  v_spare V
set_option maxHeartbeats 4000000 in
set_option maxRecDepth 100000 in
theorem c_F_spare (hE : xE ad n) (V : VS)  : XC l D ad n cI cS cQ y_F_spare b_F_spare 1 (some .int) ({ frames := 0, cells := 0, slots := 0, locals := 0 }) [.ref (ad 1)] V (some (.int (j_F_spare V))) (V) := by
  refine FC_intro (by decide) (Nat.le_of_ble_eq_true rfl) ?_
  intro p e s m below meth c ls S hr hlk hK hP hS hl
  have S : CallFix p m c b_F_spare 1 s _ TG "PageVault$Frames" := S
  have hl : lv_has ls 1 [(0, .ref (ad 1))] := hl
  refine lv_aload_n S.1 S.2.1 d_F_spare_0 rfl (lv_at hl 0 rfl) ?_
  refine x_get_spare S hK hP tg_13 d_F_spare_1 ?_
  rw [show j_F_spare V = v_spare V from by rw [j_F_spare]]
  exact x_iret S hr hlk hP hS d_F_spare_4
def j_F_take_h2 (n : Nat) : Nat → VS → Int32 → Int32 × VS
  | 0, V, _ => (0, V)
  | f + 1, V, x1 =>
      if (nI n) ≤ x1 then
        ((-1), V)
      else
        if (v_hold V x1.toNatClampNeg) = 0 then
          (x1, s_row (s_spare (s_hold V x1.toNatClampNeg 1) ((v_spare (s_hold V x1.toNatClampNeg 1)) - 1)) x1.toNatClampNeg (fun _ => 0))
        else
          j_F_take_h2 n f V (x1 + 1)
set_option maxHeartbeats 4000000 in
set_option maxRecDepth 100000 in
theorem w_F_take_h2 (hE : xE ad n) {p : Program} {e : Env} {s : State} {m : MethodId} {args : Array Value} {below : List Frame} {meth : Method} {c : Code} (S : CallFix p m c b_F_take 2 s args TG "PageVault$Frames") (hr : meth.sig.returnType = some .int) (hlk : meth.locks = false) (hK : xK D cI cS cQ s) :
    ∀ (f i : Nat) (x1 : Int32) (V : VS) (H : Heap) (locs : List Loc) (ls : Array Slot), x1 = nI i → i < 2 ^ 30 → n - i < f → XP D ad n cI cS cQ V H → va_S (iA ad (xN n)) s.heap H locs → lv_has ls 2 [(0, .ref (ad 1)), (1, .int x1)] → W p l e ({ frames := 1, cells := 0, slots := 0, locals := 40 }) s m args below meth c H locs 0 0 (MQ below (gPost D ad (xN n) (some (.int (j_F_take_h2 n f V x1).1)) (xc ad n cI cS cQ ((j_F_take_h2 n f V x1).2))) args s 0 0 (iA ad (xN n))) (F0 m 2 ls []) := by
  intro f
  induction f with
  | zero =>
    intro i x1 V H locs ls ek hi hf hP hS hl
    exact absurd hf (Nat.not_lt_zero _)
  | succ f ih =>
    intro i x1 V H locs ls ek hi hf hP hS hl
    refine lv_iload_n S.1 S.2.1 d_F_take_2 rfl (lv_at hl 1 rfl) ?_
    refine lv_aload_n S.1 S.2.1 d_F_take_3 rfl (lv_at hl 0 rfl) ?_
    refine x_get_holders S hK hP tg_20 d_F_take_4 ?_
    refine x_len_holders S hK hP d_F_take_7 ?_
    refine lv_icmp_ge (tgt := 55) S.1 S.2.1 d_F_take_8 (by decide) (fun c8 => ?_) (fun c8 => ?_)
    · refine lv_iconst (v := (-1)) S.1 S.2.1 d_F_take_55 (by decide) ?_
      rw [show j_F_take_h2 n (f + 1) V x1 = ((-1), V) from by rw [j_F_take_h2, if_pos c8]]
      exact x_iret S hr hlk hP hS d_F_take_56
    · refine lv_aload_n S.1 S.2.1 d_F_take_11 rfl (lv_at hl 0 rfl) ?_
      refine x_get_holders S hK hP tg_20 d_F_take_12 ?_
      refine lv_iload_n S.1 S.2.1 d_F_take_15 rfl (lv_at hl 1 rfl) ?_
      refine x_ald_holders S hK hP (vin_c rfl hE.n (lp_nn ek hi) c8) d_F_take_16 ?_
      refine lv_if_ne (tgt := 49) S.1 S.2.1 d_F_take_17 (by decide) (fun c17 => ?_) (fun c17 => ?_)
      · refine lv_iinc (v := x1 + 1) (lv' := [(1, .int (x1 + 1)), (0, .ref (ad 1))]) S.1 S.2.1 d_F_take_49 hl (k := 1) rfl rfl (by decide) rfl (fun ls hl => ?_)
        refine lv_goto (tgt := 2) S.1 S.2.1 d_F_take_52 (by decide) ?_
        have hn9 := hE.2
        have hB := lp_lt (B := n) rfl hE.n ek hi c8
        rw [show j_F_take_h2 n (f + 1) V x1 = j_F_take_h2 n f V (x1 + 1) from by rw [j_F_take_h2, if_neg c8, if_neg c17]]
        exact ih (i + 1)  (x1 + 1) V _ _ _ (by rw [ek]; exact nI_1 i) (by omega) (by omega) hP hS (lv_sub hl [1, 0] rfl)
      · refine lv_aload_n S.1 S.2.1 d_F_take_20 rfl (lv_at hl 0 rfl) ?_
        refine x_get_holders S hK hP tg_20 d_F_take_21 ?_
        refine lv_iload_n S.1 S.2.1 d_F_take_24 rfl (lv_at hl 1 rfl) ?_
        refine lv_iconst (v := 1) S.1 S.2.1 d_F_take_25 (by decide) ?_
        refine x_ast_holders S hE hK hP hS (vin_c rfl hE.n (lp_nn ek hi) c8) d_F_take_26 (fun H locs hP hS => ?_)
        refine lv_aload_n S.1 S.2.1 d_F_take_27 rfl (lv_at hl 0 rfl) ?_
        refine lv_dup S.1 S.2.1 d_F_take_28 rfl ?_
        refine x_get_spare S hK hP tg_13 d_F_take_29 ?_
        refine lv_iconst (v := 1) S.1 S.2.1 d_F_take_32 (by decide) ?_
        refine lv_isub S.1 S.2.1 d_F_take_33 ?_
        refine x_put_spare S hE hK hP hS tg_13 d_F_take_34 (fun H locs hP hS => ?_)
        refine lv_aload_n S.1 S.2.1 d_F_take_37 rfl (lv_at hl 0 rfl) ?_
        refine x_get_words S hK hP tg_21 d_F_take_38 ?_
        refine lv_iload_n S.1 S.2.1 d_F_take_41 rfl (lv_at hl 1 rfl) ?_
        refine x_ald_words S hK hP (vin_c rfl hE.n (lp_nn ek hi) c8) d_F_take_42 ?_
        refine lv_iconst (v := 0) S.1 S.2.1 d_F_take_43 (by decide) ?_
        refine x_callSv (As := [.ref (ad (22 + x1.toNatClampNeg)), .int 0]) (rest := []) S hK ci_F_24 (c_A_fill l D ad n cI cS cQ hE (s_spare (s_hold V x1.toNatClampNeg 1) ((v_spare (s_hold V x1.toNatClampNeg 1)) - 1)) x1.toNatClampNeg (vin_lt (vin_c rfl hE.n (lp_nn ek hi) c8)) 0) hP hS ⟨rfl, rfl, Nat.le_of_ble_eq_true rfl, Nat.le_of_ble_eq_true rfl⟩ rfl hl.1 rfl (Nat.le_of_ble_eq_true rfl) d_F_take_44 (fun H locs hP hS => ?_)
        refine lv_iload_n S.1 S.2.1 d_F_take_47 rfl (lv_at hl 1 rfl) ?_
        rw [show j_F_take_h2 n (f + 1) V x1 = (x1, s_row (s_spare (s_hold V x1.toNatClampNeg 1) ((v_spare (s_hold V x1.toNatClampNeg 1)) - 1)) x1.toNatClampNeg (fun _ => 0)) from by rw [j_F_take_h2, if_neg c8, if_pos c17]]
        exact x_iret S hr hlk hP hS d_F_take_48
/-- PageVault$Frames.take()I -/
def j_F_take (n : Nat) (V : VS) : Int32 × VS :=
  j_F_take_h2 n (n + 1) V 0
set_option maxHeartbeats 4000000 in
set_option maxRecDepth 100000 in
theorem c_F_take (hE : xE ad n) (V : VS)  : XC l D ad n cI cS cQ y_F_take b_F_take 2 (some .int) ({ frames := 1, cells := 0, slots := 0, locals := 40 }) [.ref (ad 1)] V (some (.int (j_F_take n V).1)) ((j_F_take n V).2) := by
  refine FC_intro (by decide) (Nat.le_of_ble_eq_true rfl) ?_
  intro p e s m below meth c ls S hr hlk hK hP hS hl
  have S : CallFix p m c b_F_take 2 s _ TG "PageVault$Frames" := S
  have hl : lv_has ls 2 [(0, .ref (ad 1))] := hl
  refine lv_iconst (v := 0) S.1 S.2.1 d_F_take_0 (by decide) ?_
  refine lv_istore_n (lv' := [(1, .int 0), (0, .ref (ad 1))]) S.1 S.2.1 d_F_take_1 rfl hl (by decide) rfl (fun ls hl => ?_)
  rw [show j_F_take n V = j_F_take_h2 n (n + 1) V 0 from by rw [j_F_take]]
  exact w_F_take_h2 l D ad n cI cS cQ hE S hr hlk hK (n + 1) 0 0 V _ _ _ nI_0.symm (by decide) (by omega) hP hS (lv_sub hl [1, 0] rfl)
/-- PageVault$Space.open(I)V -/
def j_S_open (n : Nat) (V : VS) (k : Nat) (a1 : Int32) : VS :=
  s_len (s_root ((j_F_take n V).2) k ((j_F_take n V).1)) k a1
set_option maxHeartbeats 4000000 in
set_option maxRecDepth 100000 in
theorem c_S_open (hE : xE ad n) (V : VS) (k : Nat) (hk : k < 16) (a1 : Int32) : XC l D ad n cI cS cQ y_S_open b_S_open 2 none ({ frames := 2, cells := 0, slots := 0, locals := 61 }) [.ref (ad (6 + k)), .int a1] V none (j_S_open n V k a1) := by
  refine FC_intro (by decide) (Nat.le_of_ble_eq_true rfl) ?_
  intro p e s m below meth c ls S hr hlk hK hP hS hl
  have S : CallFix p m c b_S_open 2 s _ TG "PageVault$Space" := S
  have hl : lv_has ls 2 [(0, .ref (ad (6 + k))), (1, .int a1)] := hl
  refine lv_aload_n S.1 S.2.1 d_S_open_0 rfl (lv_at hl 0 rfl) ?_
  refine lv_aload_n S.1 S.2.1 d_S_open_1 rfl (lv_at hl 0 rfl) ?_
  refine x_get_sframes S hK hP hk tg_19 d_S_open_2 ?_
  refine x_callVi (As := []) (rest := [.ref (ad (6 + k))]) S hK ci_S_22 (c_F_take l D ad n cI cS cQ hE V) (x_recF hK hP) hP hS ⟨rfl, rfl, Nat.le_of_ble_eq_true rfl, Nat.le_of_ble_eq_true rfl⟩ rfl hl.1 rfl (Nat.le_of_ble_eq_true rfl) d_S_open_5 (fun H locs hP hS => ?_)
  refine x_put_root S hE hK hP hS hk tg_1 d_S_open_8 (fun H locs hP hS => ?_)
  refine lv_aload_n S.1 S.2.1 d_S_open_11 rfl (lv_at hl 0 rfl) ?_
  refine lv_iload_n S.1 S.2.1 d_S_open_12 rfl (lv_at hl 1 rfl) ?_
  refine x_put_length S hE hK hP hS hk tg_30 d_S_open_13 (fun H locs hP hS => ?_)
  rw [show j_S_open n V k a1 = s_len (s_root ((j_F_take n V).2) k ((j_F_take n V).1)) k a1 from by rw [j_S_open]]
  exact x_vret S hr hlk hP hS d_S_open_16
/-- PageVault.make()I -/
def j_V_make (n : Nat) (V : VS) : Int32 × VS :=
  if (j_V_leastUnused V) = (-1) then
    ((-1), V)
  else
    if 1 ≤ (j_F_spare V) then
      (j_V_leastUnused V, j_S_open n V ((j_V_leastUnused V).toNatClampNeg) 0)
    else
      ((-1), V)
set_option maxHeartbeats 4000000 in
set_option maxRecDepth 100000 in
theorem c_V_make (hE : xE ad n) (V : VS)  : XC l D ad n cI cS cQ y_V_make b_V_make 2 (some .int) ({ frames := 3, cells := 0, slots := 0, locals := 82 }) [.ref (ad 0)] V (some (.int (j_V_make n V).1)) ((j_V_make n V).2) := by
  refine FC_intro (by decide) (Nat.le_of_ble_eq_true rfl) ?_
  intro p e s m below meth c ls S hr hlk hK hP hS hl
  have S : CallFix p m c b_V_make 2 s _ TG "PageVault" := S
  have hl : lv_has ls 2 [(0, .ref (ad 0))] := hl
  refine lv_aload_n S.1 S.2.1 d_V_make_0 rfl (lv_at hl 0 rfl) ?_
  refine x_callVi (As := []) (rest := []) S hK ci_V_40 (c_V_leastUnused l D ad n cI cS cQ hE V) (x_recV hK hP) hP hS ⟨rfl, rfl, Nat.le_of_ble_eq_true rfl, Nat.le_of_ble_eq_true rfl⟩ rfl hl.1 rfl (Nat.le_of_ble_eq_true rfl) d_V_make_1 (fun H locs hP hS => ?_)
  refine lv_istore_n (lv' := [(1, .int (j_V_leastUnused V)), (0, .ref (ad 0))]) S.1 S.2.1 d_V_make_4 rfl hl (by decide) rfl (fun ls hl => ?_)
  refine lv_iload_n S.1 S.2.1 d_V_make_5 rfl (lv_at hl 0 rfl) ?_
  refine lv_iconst (v := (-1)) S.1 S.2.1 d_V_make_6 (by decide) ?_
  refine lv_icmp_eq (tgt := 21) S.1 S.2.1 d_V_make_7 (by decide) (fun c7 => ?_) (fun c7 => ?_)
  · refine lv_iconst (v := (-1)) S.1 S.2.1 d_V_make_21 (by decide) ?_
    rw [show j_V_make n V = ((-1), V) from by rw [j_V_make, if_pos c7]]
    exact x_iret S hr hlk hP hS d_V_make_22
  · refine lv_aload_n S.1 S.2.1 d_V_make_10 rfl (lv_at hl 1 rfl) ?_
    refine x_get_frames S hK hP tg_12 d_V_make_11 ?_
    refine x_callVi (As := []) (rest := []) S hK ci_V_44 (c_F_spare l D ad n cI cS cQ hE V) (x_recF hK hP) hP hS ⟨rfl, rfl, Nat.le_of_ble_eq_true rfl, Nat.le_of_ble_eq_true rfl⟩ rfl hl.1 rfl (Nat.le_of_ble_eq_true rfl) d_V_make_14 (fun H locs hP hS => ?_)
    refine lv_iconst (v := 1) S.1 S.2.1 d_V_make_17 (by decide) ?_
    refine lv_icmp_ge (tgt := 23) S.1 S.2.1 d_V_make_18 (by decide) (fun c18 => ?_) (fun c18 => ?_)
    · refine lv_aload_n S.1 S.2.1 d_V_make_23 rfl (lv_at hl 1 rfl) ?_
      refine x_get_spaces S hK hP tg_0 d_V_make_24 ?_
      refine lv_iload_n S.1 S.2.1 d_V_make_27 rfl (lv_at hl 0 rfl) ?_
      refine x_ald_spaces S hK hP (lu_in c7) d_V_make_28 ?_
      refine lv_iconst (v := 0) S.1 S.2.1 d_V_make_29 (by decide) ?_
      refine x_callVv (As := [.int 0]) (rest := []) S hK ci_V_47 (c_S_open l D ad n cI cS cQ hE V ((j_V_leastUnused V).toNatClampNeg) (vin_lt (lu_in c7)) 0) (x_recS hK hP (vin_lt (lu_in c7))) hP hS ⟨rfl, rfl, Nat.le_of_ble_eq_true rfl, Nat.le_of_ble_eq_true rfl⟩ rfl hl.1 rfl (Nat.le_of_ble_eq_true rfl) d_V_make_30 (fun H locs hP hS => ?_)
      refine lv_iload_n S.1 S.2.1 d_V_make_33 rfl (lv_at hl 0 rfl) ?_
      rw [show j_V_make n V = (j_V_leastUnused V, j_S_open n V ((j_V_leastUnused V).toNatClampNeg) 0) from by rw [j_V_make, if_neg c7, if_pos c18]]
      exact x_iret S hr hlk hP hS d_V_make_34
    · refine lv_iconst (v := (-1)) S.1 S.2.1 d_V_make_21 (by decide) ?_
      rw [show j_V_make n V = ((-1), V) from by rw [j_V_make, if_neg c7, if_neg c18]]
      exact x_iret S hr hlk hP hS d_V_make_22
/-- PageVault.find(I)LPageVault$Space; -/
def j_V_find (V : VS) (a1 : Int32) : Option Nat :=
  if a1 < 0 then
    none
  else
    if 16 ≤ a1 then
      none
    else
      if (j_S_isOpen V a1.toNatClampNeg) = 0 then
        none
      else
        some a1.toNatClampNeg
theorem find_lt {V : VS} {x : Int32} {k : Nat} (h : j_V_find V x = some k) : k < 16 := by
  unfold j_V_find at h
  by_cases c1 : x < 0
  · rw [if_pos c1] at h
    cases h
  · rw [if_neg c1] at h
    by_cases c2 : 16 ≤ x
    · rw [if_pos c2] at h
      cases h
    · rw [if_neg c2] at h
      by_cases c3 : j_S_isOpen V x.toNatClampNeg = 0
      · rw [if_pos c3] at h
        cases h
      · rw [if_neg c3] at h
        cases h
        exact vin_lt (vin_c (B := 16) (by decide) (by decide) c1 c2)
set_option maxHeartbeats 4000000 in
set_option maxRecDepth 100000 in
theorem c_V_find (hE : xE ad n) (V : VS) (a1 : Int32) : XC l D ad n cI cS cQ y_V_find b_V_find 2 (some (.object "PageVault$Space")) ({ frames := 1, cells := 0, slots := 0, locals := 20 }) [.ref (ad 0), .int a1] V (some (xo ad (j_V_find V a1))) (V) := by
  refine FC_intro (by decide) (Nat.le_of_ble_eq_true rfl) ?_
  intro p e s m below meth c ls S hr hlk hK hP hS hl
  have S : CallFix p m c b_V_find 2 s _ TG "PageVault" := S
  have hl : lv_has ls 2 [(0, .ref (ad 0)), (1, .int a1)] := hl
  refine lv_iload_n S.1 S.2.1 d_V_find_0 rfl (lv_at hl 1 rfl) ?_
  refine lv_if_lt (tgt := 22) S.1 S.2.1 d_V_find_1 (by decide) (fun c1 => ?_) (fun c1 => ?_)
  · refine lv_null S.1 S.2.1 d_V_find_22 ?_
    rw [show j_V_find V a1 = none from by rw [j_V_find, if_pos c1]]
    exact x_aretN S hr hlk hP hS d_V_find_23
  · refine lv_iload_n S.1 S.2.1 d_V_find_4 rfl (lv_at hl 1 rfl) ?_
    refine lv_bipush (v := 16) S.1 S.2.1 d_V_find_5 (by decide) ?_
    refine lv_icmp_ge (tgt := 22) S.1 S.2.1 d_V_find_7 (by decide) (fun c7 => ?_) (fun c7 => ?_)
    · refine lv_null S.1 S.2.1 d_V_find_22 ?_
      rw [show j_V_find V a1 = none from by rw [j_V_find, if_neg c1, if_pos c7]]
      exact x_aretN S hr hlk hP hS d_V_find_23
    · refine lv_aload_n S.1 S.2.1 d_V_find_10 rfl (lv_at hl 0 rfl) ?_
      refine x_get_spaces S hK hP tg_0 d_V_find_11 ?_
      refine lv_iload_n S.1 S.2.1 d_V_find_14 rfl (lv_at hl 1 rfl) ?_
      refine x_ald_spaces S hK hP (vin_c (B := 16) (by decide) (by decide) c1 c7) d_V_find_15 ?_
      refine x_callVi (As := []) (rest := []) S hK ci_V_131 (c_S_isOpen l D ad n cI cS cQ hE V a1.toNatClampNeg (vin_lt (vin_c (B := 16) (by decide) (by decide) c1 c7))) (x_recS hK hP (vin_lt (vin_c (B := 16) (by decide) (by decide) c1 c7))) hP hS ⟨rfl, rfl, Nat.le_of_ble_eq_true rfl, Nat.le_of_ble_eq_true rfl⟩ rfl hl.1 rfl (Nat.le_of_ble_eq_true rfl) d_V_find_16 (fun H locs hP hS => ?_)
      refine lv_if_ne (tgt := 24) S.1 S.2.1 d_V_find_19 (by decide) (fun c19 => ?_) (fun c19 => ?_)
      · refine lv_aload_n S.1 S.2.1 d_V_find_24 rfl (lv_at hl 0 rfl) ?_
        refine x_get_spaces S hK hP tg_0 d_V_find_25 ?_
        refine lv_iload_n S.1 S.2.1 d_V_find_28 rfl (lv_at hl 1 rfl) ?_
        refine x_ald_spaces S hK hP (vin_c (B := 16) (by decide) (by decide) c1 c7) d_V_find_29 ?_
        rw [show j_V_find V a1 = some a1.toNatClampNeg from by rw [j_V_find, if_neg c1, if_neg c7, if_neg c19]]
        exact x_aretS S hr hlk hP hS d_V_find_30
      · refine lv_null S.1 S.2.1 d_V_find_22 ?_
        rw [show j_V_find V a1 = none from by rw [j_V_find, if_neg c1, if_neg c7, if_pos c19]]
        exact x_aretN S hr hlk hP hS d_V_find_23
/-- PageVault$Frames.isFrame(I)Z -/
def j_F_isFrame (n : Nat) (a1 : Int32) : Int32 :=
  if a1 < 0 then
    0
  else
    if (nI n) ≤ a1 then
      0
    else
      1
theorem isFrame_in {ad : Nat → Nat} {n : Nat} (hE : xE ad n) {x : Int32} (h : ¬ j_F_isFrame n x = 0) : vp_in x n := by
  unfold j_F_isFrame at h
  by_cases c1 : x < 0
  · rw [if_pos c1] at h
    exact absurd rfl h
  · rw [if_neg c1] at h
    by_cases c2 : nI n ≤ x
    · rw [if_pos c2] at h
      exact absurd rfl h
    · exact vin_c rfl hE.n c1 c2
set_option maxHeartbeats 4000000 in
set_option maxRecDepth 100000 in
theorem c_F_isFrame (hE : xE ad n) (V : VS) (a1 : Int32) : XC l D ad n cI cS cQ y_F_isFrame b_F_isFrame 2 (some .boolean) ({ frames := 0, cells := 0, slots := 0, locals := 0 }) [.ref (ad 1), .int a1] V (some (.int (j_F_isFrame n a1))) (V) := by
  refine FC_intro (by decide) (Nat.le_of_ble_eq_true rfl) ?_
  intro p e s m below meth c ls S hr hlk hK hP hS hl
  have S : CallFix p m c b_F_isFrame 2 s _ TG "PageVault$Frames" := S
  have hl : lv_has ls 2 [(0, .ref (ad 1)), (1, .int a1)] := hl
  refine lv_iload_n S.1 S.2.1 d_F_isFrame_0 rfl (lv_at hl 1 rfl) ?_
  refine lv_if_lt (tgt := 17) S.1 S.2.1 d_F_isFrame_1 (by decide) (fun c1 => ?_) (fun c1 => ?_)
  · refine lv_iconst (v := 0) S.1 S.2.1 d_F_isFrame_17 (by decide) ?_
    rw [show j_F_isFrame n a1 = 0 from by rw [j_F_isFrame, if_pos c1]]
    exact x_zret (v := 0) S hr hlk rfl hP hS d_F_isFrame_18
  · refine lv_iload_n S.1 S.2.1 d_F_isFrame_4 rfl (lv_at hl 1 rfl) ?_
    refine lv_aload_n S.1 S.2.1 d_F_isFrame_5 rfl (lv_at hl 0 rfl) ?_
    refine x_get_holders S hK hP tg_20 d_F_isFrame_6 ?_
    refine x_len_holders S hK hP d_F_isFrame_9 ?_
    refine lv_icmp_ge (tgt := 17) S.1 S.2.1 d_F_isFrame_10 (by decide) (fun c10 => ?_) (fun c10 => ?_)
    · refine lv_iconst (v := 0) S.1 S.2.1 d_F_isFrame_17 (by decide) ?_
      rw [show j_F_isFrame n a1 = 0 from by rw [j_F_isFrame, if_neg c1, if_pos c10]]
      exact x_zret (v := 0) S hr hlk rfl hP hS d_F_isFrame_18
    · refine lv_iconst (v := 1) S.1 S.2.1 d_F_isFrame_13 (by decide) ?_
      refine lv_goto (tgt := 18) S.1 S.2.1 d_F_isFrame_14 (by decide) ?_
      rw [show j_F_isFrame n a1 = 1 from by rw [j_F_isFrame, if_neg c1, if_neg c10]]
      exact x_zret (v := 1) S hr hlk rfl hP hS d_F_isFrame_18
/-- PageVault$Frames.release(I)V -/
def j_F_release (n : Nat) (V : VS) (a1 : Int32) : VS :=
  if (j_F_isFrame n a1) = 0 then
    V
  else
    if (v_hold V a1.toNatClampNeg) ≤ 0 then
      V
    else
      if (v_hold (s_hold V a1.toNatClampNeg ((v_hold V a1.toNatClampNeg) - 1)) a1.toNatClampNeg) = 0 then
        s_spare (s_hold V a1.toNatClampNeg ((v_hold V a1.toNatClampNeg) - 1)) ((v_spare (s_hold V a1.toNatClampNeg ((v_hold V a1.toNatClampNeg) - 1))) + 1)
      else
        s_hold V a1.toNatClampNeg ((v_hold V a1.toNatClampNeg) - 1)
set_option maxHeartbeats 4000000 in
set_option maxRecDepth 100000 in
theorem c_F_release (hE : xE ad n) (V : VS) (a1 : Int32) : XC l D ad n cI cS cQ y_F_release b_F_release 2 none ({ frames := 1, cells := 0, slots := 0, locals := 21 }) [.ref (ad 1), .int a1] V none (j_F_release n V a1) := by
  refine FC_intro (by decide) (Nat.le_of_ble_eq_true rfl) ?_
  intro p e s m below meth c ls S hr hlk hK hP hS hl
  have S : CallFix p m c b_F_release 2 s _ TG "PageVault$Frames" := S
  have hl : lv_has ls 2 [(0, .ref (ad 1)), (1, .int a1)] := hl
  refine lv_aload_n S.1 S.2.1 d_F_release_0 rfl (lv_at hl 0 rfl) ?_
  refine lv_iload_n S.1 S.2.1 d_F_release_1 rfl (lv_at hl 1 rfl) ?_
  refine x_callVi (As := [.int a1]) (rest := []) S hK ci_F_30 (c_F_isFrame l D ad n cI cS cQ hE V a1) (x_recF hK hP) hP hS ⟨rfl, rfl, Nat.le_of_ble_eq_true rfl, Nat.le_of_ble_eq_true rfl⟩ rfl hl.1 rfl (Nat.le_of_ble_eq_true rfl) d_F_release_2 (fun H locs hP hS => ?_)
  refine lv_if_eq (tgt := 46) S.1 S.2.1 d_F_release_5 (by decide) (fun c5 => ?_) (fun c5 => ?_)
  · rw [show j_F_release n V a1 = V from by rw [j_F_release, if_pos c5]]
    exact x_vret S hr hlk hP hS d_F_release_46
  · refine lv_aload_n S.1 S.2.1 d_F_release_8 rfl (lv_at hl 0 rfl) ?_
    refine x_get_holders S hK hP tg_20 d_F_release_9 ?_
    refine lv_iload_n S.1 S.2.1 d_F_release_12 rfl (lv_at hl 1 rfl) ?_
    refine x_ald_holders S hK hP (isFrame_in hE c5) d_F_release_13 ?_
    refine lv_if_le (tgt := 46) S.1 S.2.1 d_F_release_14 (by decide) (fun c14 => ?_) (fun c14 => ?_)
    · rw [show j_F_release n V a1 = V from by rw [j_F_release, if_neg c5, if_pos c14]]
      exact x_vret S hr hlk hP hS d_F_release_46
    · refine lv_aload_n S.1 S.2.1 d_F_release_17 rfl (lv_at hl 0 rfl) ?_
      refine x_get_holders S hK hP tg_20 d_F_release_18 ?_
      refine lv_iload_n S.1 S.2.1 d_F_release_21 rfl (lv_at hl 1 rfl) ?_
      refine lv_dup2_11 S.1 S.2.1 d_F_release_22 rfl rfl ?_
      refine x_ald_holders S hK hP (isFrame_in hE c5) d_F_release_23 ?_
      refine lv_iconst (v := 1) S.1 S.2.1 d_F_release_24 (by decide) ?_
      refine lv_isub S.1 S.2.1 d_F_release_25 ?_
      refine x_ast_holders S hE hK hP hS (isFrame_in hE c5) d_F_release_26 (fun H locs hP hS => ?_)
      refine lv_aload_n S.1 S.2.1 d_F_release_27 rfl (lv_at hl 0 rfl) ?_
      refine x_get_holders S hK hP tg_20 d_F_release_28 ?_
      refine lv_iload_n S.1 S.2.1 d_F_release_31 rfl (lv_at hl 1 rfl) ?_
      refine x_ald_holders S hK hP (isFrame_in hE c5) d_F_release_32 ?_
      refine lv_if_ne (tgt := 46) S.1 S.2.1 d_F_release_33 (by decide) (fun c33 => ?_) (fun c33 => ?_)
      · rw [show j_F_release n V a1 = s_hold V a1.toNatClampNeg ((v_hold V a1.toNatClampNeg) - 1) from by rw [j_F_release, if_neg c5, if_neg c14, if_neg c33]]
        exact x_vret S hr hlk hP hS d_F_release_46
      · refine lv_aload_n S.1 S.2.1 d_F_release_36 rfl (lv_at hl 0 rfl) ?_
        refine lv_dup S.1 S.2.1 d_F_release_37 rfl ?_
        refine x_get_spare S hK hP tg_13 d_F_release_38 ?_
        refine lv_iconst (v := 1) S.1 S.2.1 d_F_release_41 (by decide) ?_
        refine lv_iadd S.1 S.2.1 d_F_release_42 ?_
        refine x_put_spare S hE hK hP hS tg_13 d_F_release_43 (fun H locs hP hS => ?_)
        rw [show j_F_release n V a1 = s_spare (s_hold V a1.toNatClampNeg ((v_hold V a1.toNatClampNeg) - 1)) ((v_spare (s_hold V a1.toNatClampNeg ((v_hold V a1.toNatClampNeg) - 1))) + 1) from by rw [j_F_release, if_neg c5, if_neg c14, if_pos c33]]
        exact x_vret S hr hlk hP hS d_F_release_46
/-- PageVault$Frames.word(II)I -/
def j_F_word (n : Nat) (V : VS) (a1 : Int32) (a2 : Int32) : Int32 :=
  if a1 < 0 then
    0
  else
    if (nI n) ≤ a1 then
      0
    else
      if a2 < 0 then
        0
      else
        if 1024 ≤ a2 then
          0
        else
          v_words V a1.toNatClampNeg a2.toNatClampNeg
set_option maxHeartbeats 4000000 in
set_option maxRecDepth 100000 in
theorem c_F_word (hE : xE ad n) (V : VS) (a1 : Int32) (a2 : Int32) : XC l D ad n cI cS cQ y_F_word b_F_word 3 (some .int) ({ frames := 0, cells := 0, slots := 0, locals := 0 }) [.ref (ad 1), .int a1, .int a2] V (some (.int (j_F_word n V a1 a2))) (V) := by
  refine FC_intro (by decide) (Nat.le_of_ble_eq_true rfl) ?_
  intro p e s m below meth c ls S hr hlk hK hP hS hl
  have S : CallFix p m c b_F_word 3 s _ TG "PageVault$Frames" := S
  have hl : lv_has ls 3 [(0, .ref (ad 1)), (1, .int a1), (2, .int a2)] := hl
  refine lv_iload_n S.1 S.2.1 d_F_word_0 rfl (lv_at hl 1 rfl) ?_
  refine lv_if_lt (tgt := 35) S.1 S.2.1 d_F_word_1 (by decide) (fun c1 => ?_) (fun c1 => ?_)
  · refine lv_iconst (v := 0) S.1 S.2.1 d_F_word_35 (by decide) ?_
    rw [show j_F_word n V a1 a2 = 0 from by rw [j_F_word, if_pos c1]]
    exact x_iret S hr hlk hP hS d_F_word_36
  · refine lv_iload_n S.1 S.2.1 d_F_word_4 rfl (lv_at hl 1 rfl) ?_
    refine lv_aload_n S.1 S.2.1 d_F_word_5 rfl (lv_at hl 0 rfl) ?_
    refine x_get_words S hK hP tg_21 d_F_word_6 ?_
    refine x_len_words S hK hP d_F_word_9 ?_
    refine lv_icmp_ge (tgt := 35) S.1 S.2.1 d_F_word_10 (by decide) (fun c10 => ?_) (fun c10 => ?_)
    · refine lv_iconst (v := 0) S.1 S.2.1 d_F_word_35 (by decide) ?_
      rw [show j_F_word n V a1 a2 = 0 from by rw [j_F_word, if_neg c1, if_pos c10]]
      exact x_iret S hr hlk hP hS d_F_word_36
    · refine lv_iload_n S.1 S.2.1 d_F_word_13 rfl (lv_at hl 2 rfl) ?_
      refine lv_if_lt (tgt := 35) S.1 S.2.1 d_F_word_14 (by decide) (fun c14 => ?_) (fun c14 => ?_)
      · refine lv_iconst (v := 0) S.1 S.2.1 d_F_word_35 (by decide) ?_
        rw [show j_F_word n V a1 a2 = 0 from by rw [j_F_word, if_neg c1, if_neg c10, if_pos c14]]
        exact x_iret S hr hlk hP hS d_F_word_36
      · refine lv_iload_n S.1 S.2.1 d_F_word_17 rfl (lv_at hl 2 rfl) ?_
        refine lv_sipush (v := 1024) S.1 S.2.1 d_F_word_18 (by decide) ?_
        refine lv_icmp_ge (tgt := 35) S.1 S.2.1 d_F_word_21 (by decide) (fun c21 => ?_) (fun c21 => ?_)
        · refine lv_iconst (v := 0) S.1 S.2.1 d_F_word_35 (by decide) ?_
          rw [show j_F_word n V a1 a2 = 0 from by rw [j_F_word, if_neg c1, if_neg c10, if_neg c14, if_pos c21]]
          exact x_iret S hr hlk hP hS d_F_word_36
        · refine lv_aload_n S.1 S.2.1 d_F_word_24 rfl (lv_at hl 0 rfl) ?_
          refine x_get_words S hK hP tg_21 d_F_word_25 ?_
          refine lv_iload_n S.1 S.2.1 d_F_word_28 rfl (lv_at hl 1 rfl) ?_
          refine x_ald_words S hK hP (vin_c rfl hE.n c1 c10) d_F_word_29 ?_
          refine lv_iload_n S.1 S.2.1 d_F_word_30 rfl (lv_at hl 2 rfl) ?_
          refine x_ald_row S hK hP (vin_lt (vin_c rfl hE.n c1 c10)) (vin_c (B := 1024) (by decide) (by decide) c14 c21) d_F_word_31 ?_
          refine lv_goto (tgt := 36) S.1 S.2.1 d_F_word_32 (by decide) ?_
          rw [show j_F_word n V a1 a2 = v_words V a1.toNatClampNeg a2.toNatClampNeg from by rw [j_F_word, if_neg c1, if_neg c10, if_neg c14, if_neg c21]]
          exact x_iret S hr hlk hP hS d_F_word_36
/-- PageVault.frameOf(I)I -/
def j_V_frameOf (a0 : Int32) : Int32 :=
  (ju a0 4) - 1
set_option maxHeartbeats 4000000 in
set_option maxRecDepth 100000 in
theorem c_V_frameOf (hE : xE ad n) (V : VS) (a0 : Int32) : XC l D ad n cI cS cQ y_V_frameOf b_V_frameOf 1 (some .int) ({ frames := 0, cells := 0, slots := 0, locals := 0 }) [.int a0] V (some (.int (j_V_frameOf a0))) (V) := by
  refine FC_intro (by decide) (Nat.le_of_ble_eq_true rfl) ?_
  intro p e s m below meth c ls S hr hlk hK hP hS hl
  have S : CallFix p m c b_V_frameOf 1 s _ TG "PageVault" := S
  have hl : lv_has ls 1 [(0, .int a0)] := hl
  refine lv_iload_n S.1 S.2.1 d_V_frameOf_0 rfl (lv_at hl 0 rfl) ?_
  refine lv_iconst (v := 4) S.1 S.2.1 d_V_frameOf_1 (by decide) ?_
  refine lv_iushr (v := ju a0 4) S.1 S.2.1 d_V_frameOf_2 rfl ?_
  refine lv_iconst (v := 1) S.1 S.2.1 d_V_frameOf_3 (by decide) ?_
  refine lv_isub S.1 S.2.1 d_V_frameOf_4 ?_
  rw [show j_V_frameOf a0 = (ju a0 4) - 1 from by rw [j_V_frameOf]]
  exact x_iret S hr hlk hP hS d_V_frameOf_5
/-- PageVault$Space.tableOf(I)I -/
def j_S_tableOf (n : Nat) (V : VS) (k : Nat) (a1 : Int32) : Int32 :=
  j_V_frameOf (j_F_word n V (v_root V k) a1)
set_option maxHeartbeats 4000000 in
set_option maxRecDepth 100000 in
theorem c_S_tableOf (hE : xE ad n) (V : VS) (k : Nat) (hk : k < 16) (a1 : Int32) : XC l D ad n cI cS cQ y_S_tableOf b_S_tableOf 2 (some .int) ({ frames := 1, cells := 0, slots := 0, locals := 22 }) [.ref (ad (6 + k)), .int a1] V (some (.int (j_S_tableOf n V k a1))) (V) := by
  refine FC_intro (by decide) (Nat.le_of_ble_eq_true rfl) ?_
  intro p e s m below meth c ls S hr hlk hK hP hS hl
  have S : CallFix p m c b_S_tableOf 2 s _ TG "PageVault$Space" := S
  have hl : lv_has ls 2 [(0, .ref (ad (6 + k))), (1, .int a1)] := hl
  refine lv_aload_n S.1 S.2.1 d_S_tableOf_0 rfl (lv_at hl 0 rfl) ?_
  refine x_get_sframes S hK hP hk tg_19 d_S_tableOf_1 ?_
  refine lv_aload_n S.1 S.2.1 d_S_tableOf_4 rfl (lv_at hl 0 rfl) ?_
  refine x_get_root S hK hP hk tg_1 d_S_tableOf_5 ?_
  refine lv_iload_n S.1 S.2.1 d_S_tableOf_8 rfl (lv_at hl 1 rfl) ?_
  refine x_callVi (As := [.int (v_root V k), .int a1]) (rest := []) S hK ci_S_59 (c_F_word l D ad n cI cS cQ hE V (v_root V k) a1) (x_recF hK hP) hP hS ⟨rfl, rfl, Nat.le_of_ble_eq_true rfl, Nat.le_of_ble_eq_true rfl⟩ rfl hl.1 rfl (Nat.le_of_ble_eq_true rfl) d_S_tableOf_9 (fun H locs hP hS => ?_)
  refine x_callNi (As := [.int (j_F_word n V (v_root V k) a1)]) (rest := []) S hK ci_S_78 (hK.2 _ nl_0) (c_V_frameOf l D ad n cI cS cQ hE V (j_F_word n V (v_root V k) a1)) hP hS ⟨rfl, rfl, Nat.le_of_ble_eq_true rfl, Nat.le_of_ble_eq_true rfl⟩ rfl hl.1 rfl (Nat.le_of_ble_eq_true rfl) d_S_tableOf_12 (fun H locs hP hS => ?_)
  rw [show j_S_tableOf n V k a1 = j_V_frameOf (j_F_word n V (v_root V k) a1) from by rw [j_S_tableOf]]
  exact x_iret S hr hlk hP hS d_S_tableOf_15
def j_S_close_h7 (n : Nat) : Nat → VS → Nat → Int32 → VS
  | 0, V, _, _ => V
  | f + 1, V, k, x1 =>
      if 256 ≤ x1 then
        s_root (j_F_release n V (v_root V k)) k (-1)
      else
        j_S_close_h7 n f (j_F_release n V (j_S_tableOf n V k x1)) k (x1 + 1)
set_option maxHeartbeats 4000000 in
set_option maxRecDepth 100000 in
theorem w_S_close_h7 (hE : xE ad n) {p : Program} {e : Env} {s : State} {m : MethodId} {args : Array Value} {below : List Frame} {meth : Method} {c : Code} (S : CallFix p m c b_S_close 2 s args TG "PageVault$Space") (hr : meth.sig.returnType = none) (hlk : meth.locks = false) (hK : xK D cI cS cQ s) :
    ∀ (f i : Nat) (k : Nat) (hk : k < 16) (x1 : Int32) (V : VS) (H : Heap) (locs : List Loc) (ls : Array Slot), x1 = nI i → i < 2 ^ 30 → 256 - i < f → XP D ad n cI cS cQ V H → va_S (iA ad (xN n)) s.heap H locs → lv_has ls 2 [(0, .ref (ad (6 + k))), (1, .int x1)] → W p l e ({ frames := 3, cells := 0, slots := 0, locals := 69 }) s m args below meth c H locs 0 0 (MQ below (gPost D ad (xN n) none (xc ad n cI cS cQ (j_S_close_h7 n f V k x1))) args s 0 0 (iA ad (xN n))) (F0 m 7 ls []) := by
  intro f
  induction f with
  | zero =>
    intro i k hk x1 V H locs ls ek hi hf hP hS hl
    exact absurd hf (Nat.not_lt_zero _)
  | succ f ih =>
    intro i k hk x1 V H locs ls ek hi hf hP hS hl
    refine lv_iload_n S.1 S.2.1 d_S_close_7 rfl (lv_at hl 1 rfl) ?_
    refine lv_sipush (v := 256) S.1 S.2.1 d_S_close_8 (by decide) ?_
    refine lv_icmp_ge (tgt := 32) S.1 S.2.1 d_S_close_11 (by decide) (fun c11 => ?_) (fun c11 => ?_)
    · refine lv_aload_n S.1 S.2.1 d_S_close_32 rfl (lv_at hl 0 rfl) ?_
      refine x_get_sframes S hK hP hk tg_19 d_S_close_33 ?_
      refine lv_aload_n S.1 S.2.1 d_S_close_36 rfl (lv_at hl 0 rfl) ?_
      refine x_get_root S hK hP hk tg_1 d_S_close_37 ?_
      refine x_callVv (As := [.int (v_root V k)]) (rest := []) S hK ci_S_36 (c_F_release l D ad n cI cS cQ hE V (v_root V k)) (x_recF hK hP) hP hS ⟨rfl, rfl, Nat.le_of_ble_eq_true rfl, Nat.le_of_ble_eq_true rfl⟩ rfl hl.1 rfl (Nat.le_of_ble_eq_true rfl) d_S_close_40 (fun H locs hP hS => ?_)
      refine lv_aload_n S.1 S.2.1 d_S_close_43 rfl (lv_at hl 0 rfl) ?_
      refine lv_iconst (v := (-1)) S.1 S.2.1 d_S_close_44 (by decide) ?_
      refine x_put_root S hE hK hP hS hk tg_1 d_S_close_45 (fun H locs hP hS => ?_)
      rw [show j_S_close_h7 n (f + 1) V k x1 = s_root (j_F_release n V (v_root V k)) k (-1) from by rw [j_S_close_h7, if_pos c11]]
      exact x_vret S hr hlk hP hS d_S_close_48
    · refine lv_aload_n S.1 S.2.1 d_S_close_14 rfl (lv_at hl 0 rfl) ?_
      refine x_get_sframes S hK hP hk tg_19 d_S_close_15 ?_
      refine lv_aload_n S.1 S.2.1 d_S_close_18 rfl (lv_at hl 0 rfl) ?_
      refine lv_iload_n S.1 S.2.1 d_S_close_19 rfl (lv_at hl 1 rfl) ?_
      refine x_callVi (As := [.int x1]) (rest := [.ref (ad 1)]) S hK ci_S_32 (c_S_tableOf l D ad n cI cS cQ hE V k hk x1) (x_recS hK hP hk) hP hS ⟨rfl, rfl, Nat.le_of_ble_eq_true rfl, Nat.le_of_ble_eq_true rfl⟩ rfl hl.1 rfl (Nat.le_of_ble_eq_true rfl) d_S_close_20 (fun H locs hP hS => ?_)
      refine x_callVv (As := [.int (j_S_tableOf n V k x1)]) (rest := []) S hK ci_S_36 (c_F_release l D ad n cI cS cQ hE V (j_S_tableOf n V k x1)) (x_recF hK hP) hP hS ⟨rfl, rfl, Nat.le_of_ble_eq_true rfl, Nat.le_of_ble_eq_true rfl⟩ rfl hl.1 rfl (Nat.le_of_ble_eq_true rfl) d_S_close_23 (fun H locs hP hS => ?_)
      refine lv_iinc (v := x1 + 1) (lv' := [(1, .int (x1 + 1)), (0, .ref (ad (6 + k)))]) S.1 S.2.1 d_S_close_26 hl (k := 1) rfl rfl (by decide) rfl (fun ls hl => ?_)
      refine lv_goto (tgt := 7) S.1 S.2.1 d_S_close_29 (by decide) ?_
      have hn9 := hE.2
      have hB := lp_lt (B := 256) (by decide) (by decide) ek hi c11
      rw [show j_S_close_h7 n (f + 1) V k x1 = j_S_close_h7 n f (j_F_release n V (j_S_tableOf n V k x1)) k (x1 + 1) from by rw [j_S_close_h7, if_neg c11]]
      exact ih (i + 1) k hk (x1 + 1) (j_F_release n V (j_S_tableOf n V k x1)) _ _ _ (by rw [ek]; exact nI_1 i) (by omega) (by omega) hP hS (lv_sub hl [1, 0] rfl)
/-- PageVault$Frames.setWord(III)V -/
def j_F_setWord (n : Nat) (V : VS) (a1 : Int32) (a2 : Int32) (a3 : Int32) : VS :=
  if a1 < 0 then
    V
  else
    if (nI n) ≤ a1 then
      V
    else
      if a2 < 0 then
        V
      else
        if 1024 ≤ a2 then
          V
        else
          s_word V a1.toNatClampNeg a2.toNatClampNeg a3
set_option maxHeartbeats 4000000 in
set_option maxRecDepth 100000 in
theorem c_F_setWord (hE : xE ad n) (V : VS) (a1 : Int32) (a2 : Int32) (a3 : Int32) : XC l D ad n cI cS cQ y_F_setWord b_F_setWord 4 none ({ frames := 0, cells := 0, slots := 0, locals := 0 }) [.ref (ad 1), .int a1, .int a2, .int a3] V none (j_F_setWord n V a1 a2 a3) := by
  refine FC_intro (by decide) (Nat.le_of_ble_eq_true rfl) ?_
  intro p e s m below meth c ls S hr hlk hK hP hS hl
  have S : CallFix p m c b_F_setWord 4 s _ TG "PageVault$Frames" := S
  have hl : lv_has ls 4 [(0, .ref (ad 1)), (1, .int a1), (2, .int a2), (3, .int a3)] := hl
  refine lv_iload_n S.1 S.2.1 d_F_setWord_0 rfl (lv_at hl 1 rfl) ?_
  refine lv_if_lt (tgt := 33) S.1 S.2.1 d_F_setWord_1 (by decide) (fun c1 => ?_) (fun c1 => ?_)
  · rw [show j_F_setWord n V a1 a2 a3 = V from by rw [j_F_setWord, if_pos c1]]
    exact x_vret S hr hlk hP hS d_F_setWord_33
  · refine lv_iload_n S.1 S.2.1 d_F_setWord_4 rfl (lv_at hl 1 rfl) ?_
    refine lv_aload_n S.1 S.2.1 d_F_setWord_5 rfl (lv_at hl 0 rfl) ?_
    refine x_get_words S hK hP tg_21 d_F_setWord_6 ?_
    refine x_len_words S hK hP d_F_setWord_9 ?_
    refine lv_icmp_ge (tgt := 33) S.1 S.2.1 d_F_setWord_10 (by decide) (fun c10 => ?_) (fun c10 => ?_)
    · rw [show j_F_setWord n V a1 a2 a3 = V from by rw [j_F_setWord, if_neg c1, if_pos c10]]
      exact x_vret S hr hlk hP hS d_F_setWord_33
    · refine lv_iload_n S.1 S.2.1 d_F_setWord_13 rfl (lv_at hl 2 rfl) ?_
      refine lv_if_lt (tgt := 33) S.1 S.2.1 d_F_setWord_14 (by decide) (fun c14 => ?_) (fun c14 => ?_)
      · rw [show j_F_setWord n V a1 a2 a3 = V from by rw [j_F_setWord, if_neg c1, if_neg c10, if_pos c14]]
        exact x_vret S hr hlk hP hS d_F_setWord_33
      · refine lv_iload_n S.1 S.2.1 d_F_setWord_17 rfl (lv_at hl 2 rfl) ?_
        refine lv_sipush (v := 1024) S.1 S.2.1 d_F_setWord_18 (by decide) ?_
        refine lv_icmp_ge (tgt := 33) S.1 S.2.1 d_F_setWord_21 (by decide) (fun c21 => ?_) (fun c21 => ?_)
        · rw [show j_F_setWord n V a1 a2 a3 = V from by rw [j_F_setWord, if_neg c1, if_neg c10, if_neg c14, if_pos c21]]
          exact x_vret S hr hlk hP hS d_F_setWord_33
        · refine lv_aload_n S.1 S.2.1 d_F_setWord_24 rfl (lv_at hl 0 rfl) ?_
          refine x_get_words S hK hP tg_21 d_F_setWord_25 ?_
          refine lv_iload_n S.1 S.2.1 d_F_setWord_28 rfl (lv_at hl 1 rfl) ?_
          refine x_ald_words S hK hP (vin_c rfl hE.n c1 c10) d_F_setWord_29 ?_
          refine lv_iload_n S.1 S.2.1 d_F_setWord_30 rfl (lv_at hl 2 rfl) ?_
          refine lv_iload_n S.1 S.2.1 d_F_setWord_31 rfl (lv_at hl 3 rfl) ?_
          refine x_ast_row S hE hK hP hS (vin_lt (vin_c rfl hE.n c1 c10)) (vin_c (B := 1024) (by decide) (by decide) c14 c21) d_F_setWord_32 (fun H locs hP hS => ?_)
          rw [show j_F_setWord n V a1 a2 a3 = s_word V a1.toNatClampNeg a2.toNatClampNeg a3 from by rw [j_F_setWord, if_neg c1, if_neg c10, if_neg c14, if_neg c21]]
          exact x_vret S hr hlk hP hS d_F_setWord_33
def j_S_removePagesFrom_h42 (n : Nat) : Nat → VS → Nat → Int32 → Int32 → Int32 → Int32 → Int32 → VS
  | 0, V, _, _, _, _, _, _ => V
  | f + 1, V, k, a1, x2, x3, x4, x6 =>
      if x4 = (-1) then
        V
      else
        if 1024 ≤ x6 then
          V
        else
          j_S_removePagesFrom_h42 n f (j_F_setWord n (j_F_release n V (j_V_frameOf (j_F_word n V x4 x6))) x4 x6 0) k a1 x2 x3 x4 (x6 + 1)
set_option maxHeartbeats 4000000 in
set_option maxRecDepth 100000 in
theorem w_S_removePagesFrom_h42 (hE : xE ad n) {p : Program} {e : Env} {s : State} {m : MethodId} {args : Array Value} {below : List Frame} {meth : Method} {c : Code} {Q : State → Prop} (S : CallFix p m c b_S_removePagesFrom 7 s args TG "PageVault$Space") (hK : xK D cI cS cQ s) :
    ∀ (f i : Nat) (k : Nat) (hk : k < 16) (a1 x2 x3 x4 x6 : Int32) (V : VS) (H : Heap) (locs : List Loc) (ls : Array Slot), x6 = nI i → i < 2 ^ 30 → 1024 - i < f → XP D ad n cI cS cQ V H → va_S (iA ad (xN n)) s.heap H locs → lv_has ls 7 [(0, .ref (ad (6 + k))), (1, .int a1), (2, .int x2), (3, .int x3), (4, .int x4), (6, .int x6)] → (∀ (H1 : Heap) (locs1 : List Loc) (ls1 : Array Slot), XP D ad n cI cS cQ (j_S_removePagesFrom_h42 n f V k a1 x2 x3 x4 x6) H1 → va_S (iA ad (xN n)) s.heap H1 locs1 → lv_has ls1 7 [(0, .ref (ad (6 + k))), (1, .int a1), (2, .int x2), (3, .int x3)] → W p l e ({ frames := 2, cells := 0, slots := 0, locals := 43 }) s m args below meth c H1 locs1 0 0 Q (F0 m 95 ls1 [])) → W p l e ({ frames := 2, cells := 0, slots := 0, locals := 43 }) s m args below meth c H locs 0 0 Q (F0 m 42 ls []) := by
  intro f
  induction f with
  | zero =>
    intro i k hk a1 x2 x3 x4 x6 V H locs ls ek hi hf hP hS hl kx
    exact absurd hf (Nat.not_lt_zero _)
  | succ f ih =>
    intro i k hk a1 x2 x3 x4 x6 V H locs ls ek hi hf hP hS hl kx
    refine lv_iload S.1 S.2.1 d_S_removePagesFrom_42 (lv_at hl 4 rfl) ?_
    refine lv_iconst (v := (-1)) S.1 S.2.1 d_S_removePagesFrom_44 (by decide) ?_
    refine lv_icmp_eq (tgt := 95) S.1 S.2.1 d_S_removePagesFrom_45 (by decide) (fun c45 => ?_) (fun c45 => ?_)
    · exact kx H locs ls (by rw [show j_S_removePagesFrom_h42 n (f + 1) V k a1 x2 x3 x4 x6 = V from by rw [j_S_removePagesFrom_h42, if_pos c45]]; exact hP) hS (lv_sub hl [0, 1, 2, 3] rfl)
    · refine lv_iload S.1 S.2.1 d_S_removePagesFrom_48 (lv_at hl 5 rfl) ?_
      refine lv_sipush (v := 1024) S.1 S.2.1 d_S_removePagesFrom_50 (by decide) ?_
      refine lv_icmp_ge (tgt := 95) S.1 S.2.1 d_S_removePagesFrom_53 (by decide) (fun c53 => ?_) (fun c53 => ?_)
      · exact kx H locs ls (by rw [show j_S_removePagesFrom_h42 n (f + 1) V k a1 x2 x3 x4 x6 = V from by rw [j_S_removePagesFrom_h42, if_neg c45, if_pos c53]]; exact hP) hS (lv_sub hl [0, 1, 2, 3] rfl)
      · refine lv_aload_n S.1 S.2.1 d_S_removePagesFrom_56 rfl (lv_at hl 0 rfl) ?_
        refine x_get_sframes S hK hP hk tg_19 d_S_removePagesFrom_57 ?_
        refine lv_aload_n S.1 S.2.1 d_S_removePagesFrom_60 rfl (lv_at hl 0 rfl) ?_
        refine x_get_sframes S hK hP hk tg_19 d_S_removePagesFrom_61 ?_
        refine lv_iload S.1 S.2.1 d_S_removePagesFrom_64 (lv_at hl 4 rfl) ?_
        refine lv_iload S.1 S.2.1 d_S_removePagesFrom_66 (lv_at hl 5 rfl) ?_
        refine x_callVi (As := [.int x4, .int x6]) (rest := [.ref (ad 1)]) S hK ci_S_59 (c_F_word l D ad n cI cS cQ hE V x4 x6) (x_recF hK hP) hP hS ⟨rfl, rfl, Nat.le_of_ble_eq_true rfl, Nat.le_of_ble_eq_true rfl⟩ rfl hl.1 rfl (Nat.le_of_ble_eq_true rfl) d_S_removePagesFrom_68 (fun H locs hP hS => ?_)
        refine x_callNi (As := [.int (j_F_word n V x4 x6)]) (rest := [.ref (ad 1)]) S hK ci_S_78 (hK.2 _ nl_0) (c_V_frameOf l D ad n cI cS cQ hE V (j_F_word n V x4 x6)) hP hS ⟨rfl, rfl, Nat.le_of_ble_eq_true rfl, Nat.le_of_ble_eq_true rfl⟩ rfl hl.1 rfl (Nat.le_of_ble_eq_true rfl) d_S_removePagesFrom_71 (fun H locs hP hS => ?_)
        refine x_callVv (As := [.int (j_V_frameOf (j_F_word n V x4 x6))]) (rest := []) S hK ci_S_36 (c_F_release l D ad n cI cS cQ hE V (j_V_frameOf (j_F_word n V x4 x6))) (x_recF hK hP) hP hS ⟨rfl, rfl, Nat.le_of_ble_eq_true rfl, Nat.le_of_ble_eq_true rfl⟩ rfl hl.1 rfl (Nat.le_of_ble_eq_true rfl) d_S_removePagesFrom_74 (fun H locs hP hS => ?_)
        refine lv_aload_n S.1 S.2.1 d_S_removePagesFrom_77 rfl (lv_at hl 0 rfl) ?_
        refine x_get_sframes S hK hP hk tg_19 d_S_removePagesFrom_78 ?_
        refine lv_iload S.1 S.2.1 d_S_removePagesFrom_81 (lv_at hl 4 rfl) ?_
        refine lv_iload S.1 S.2.1 d_S_removePagesFrom_83 (lv_at hl 5 rfl) ?_
        refine lv_iconst (v := 0) S.1 S.2.1 d_S_removePagesFrom_85 (by decide) ?_
        refine x_callVv (As := [.int x4, .int x6, .int 0]) (rest := []) S hK ci_S_62 (c_F_setWord l D ad n cI cS cQ hE (j_F_release n V (j_V_frameOf (j_F_word n V x4 x6))) x4 x6 0) (x_recF hK hP) hP hS ⟨rfl, rfl, Nat.le_of_ble_eq_true rfl, Nat.le_of_ble_eq_true rfl⟩ rfl hl.1 rfl (Nat.le_of_ble_eq_true rfl) d_S_removePagesFrom_86 (fun H locs hP hS => ?_)
        refine lv_iinc (v := x6 + 1) (lv' := [(6, .int (x6 + 1)), (0, .ref (ad (6 + k))), (1, .int a1), (2, .int x2), (3, .int x3), (4, .int x4)]) S.1 S.2.1 d_S_removePagesFrom_89 hl (k := 5) rfl rfl (by decide) rfl (fun ls hl => ?_)
        refine lv_goto (tgt := 42) S.1 S.2.1 d_S_removePagesFrom_92 (by decide) ?_
        have hn9 := hE.2
        have hB := lp_lt (B := 1024) (by decide) (by decide) ek hi c53
        refine ih (i + 1) k hk a1 x2 x3 x4 (x6 + 1) (j_F_setWord n (j_F_release n V (j_V_frameOf (j_F_word n V x4 x6))) x4 x6 0) _ _ _ (by rw [ek]; exact nI_1 i) (by omega) (by omega) hP hS (lv_sub hl [1, 2, 3, 4, 5, 0] rfl) (fun H1 locs1 ls1 q1 q2 q3 => kx H1 locs1 ls1 (by rw [show j_S_removePagesFrom_h42 n (f + 1) V k a1 x2 x3 x4 x6 = j_S_removePagesFrom_h42 n f (j_F_setWord n (j_F_release n V (j_V_frameOf (j_F_word n V x4 x6))) x4 x6 0) k a1 x2 x3 x4 (x6 + 1) from by rw [j_S_removePagesFrom_h42, if_neg c45, if_neg c53]]; exact q1) q2 q3)
end XW
end
section
section XW
variable (l : Launch) (D : va_G) (ad : Nat → Nat) (n : Nat) (cI cS cQ : ClassId)
def j_S_removePagesFrom_h8 (n : Nat) : Nat → VS → Nat → Int32 → Int32 → Int32 → VS
  | 0, V, _, _, _, _ => V
  | f + 1, V, k, a1, x2, x3 =>
      if 256 ≤ x3 then
        V
      else
        if x3 = x2 then
          j_S_removePagesFrom_h8 n f (j_S_removePagesFrom_h42 n 1025 V k a1 x2 x3 (j_S_tableOf n V k x3) (a1 - a1 / 1024 * 1024)) k a1 x2 (x3 + 1)
        else
          j_S_removePagesFrom_h8 n f (j_S_removePagesFrom_h42 n 1025 V k a1 x2 x3 (j_S_tableOf n V k x3) 0) k a1 x2 (x3 + 1)
set_option maxHeartbeats 4000000 in
set_option maxRecDepth 100000 in
theorem w_S_removePagesFrom_h8 (hE : xE ad n) (qq : Nat) (hqq : qq < 2 ^ 30) {p : Program} {e : Env} {s : State} {m : MethodId} {args : Array Value} {below : List Frame} {meth : Method} {c : Code} (S : CallFix p m c b_S_removePagesFrom 7 s args TG "PageVault$Space") (hr : meth.sig.returnType = none) (hlk : meth.locks = false) (hK : xK D cI cS cQ s) :
    ∀ (f i : Nat) (k : Nat) (hk : k < 16) (a1 x2 x3 : Int32) (V : VS) (H : Heap) (locs : List Loc) (ls : Array Slot), x3 = nI i → i < 2 ^ 30 → 256 - i < f → a1 = nI qq → XP D ad n cI cS cQ V H → va_S (iA ad (xN n)) s.heap H locs → lv_has ls 7 [(0, .ref (ad (6 + k))), (1, .int a1), (2, .int x2), (3, .int x3)] → W p l e ({ frames := 2, cells := 0, slots := 0, locals := 43 }) s m args below meth c H locs 0 0 (MQ below (gPost D ad (xN n) none (xc ad n cI cS cQ (j_S_removePagesFrom_h8 n f V k a1 x2 x3))) args s 0 0 (iA ad (xN n))) (F0 m 8 ls []) := by
  intro f
  induction f with
  | zero =>
    intro i k hk a1 x2 x3 V H locs ls ek hi hf ha hP hS hl
    exact absurd hf (Nat.not_lt_zero _)
  | succ f ih =>
    intro i k hk a1 x2 x3 V H locs ls ek hi hf ha hP hS hl
    refine lv_iload_n S.1 S.2.1 d_S_removePagesFrom_8 rfl (lv_at hl 3 rfl) ?_
    refine lv_sipush (v := 256) S.1 S.2.1 d_S_removePagesFrom_9 (by decide) ?_
    refine lv_icmp_ge (tgt := 101) S.1 S.2.1 d_S_removePagesFrom_12 (by decide) (fun c12 => ?_) (fun c12 => ?_)
    · rw [show j_S_removePagesFrom_h8 n (f + 1) V k a1 x2 x3 = V from by rw [j_S_removePagesFrom_h8, if_pos c12]]
      exact x_vret S hr hlk hP hS d_S_removePagesFrom_101
    · refine lv_aload_n S.1 S.2.1 d_S_removePagesFrom_15 rfl (lv_at hl 0 rfl) ?_
      refine lv_iload_n S.1 S.2.1 d_S_removePagesFrom_16 rfl (lv_at hl 3 rfl) ?_
      refine x_callVi (As := [.int x3]) (rest := []) S hK ci_S_32 (c_S_tableOf l D ad n cI cS cQ hE V k hk x3) (x_recS hK hP hk) hP hS ⟨rfl, rfl, Nat.le_of_ble_eq_true rfl, Nat.le_of_ble_eq_true rfl⟩ rfl hl.1 rfl (Nat.le_of_ble_eq_true rfl) d_S_removePagesFrom_17 (fun H locs hP hS => ?_)
      refine lv_istore (lv' := [(4, .int (j_S_tableOf n V k x3)), (0, .ref (ad (6 + k))), (1, .int a1), (2, .int x2), (3, .int x3)]) S.1 S.2.1 d_S_removePagesFrom_20 hl (by decide) rfl (fun ls hl => ?_)
      refine lv_iload_n S.1 S.2.1 d_S_removePagesFrom_22 rfl (lv_at hl 4 rfl) ?_
      refine lv_iload_n S.1 S.2.1 d_S_removePagesFrom_23 rfl (lv_at hl 3 rfl) ?_
      refine lv_icmp_ne (tgt := 35) S.1 S.2.1 d_S_removePagesFrom_24 (by decide) (fun c24 => ?_) (fun c24 => ?_)
      · refine lv_iconst (v := 0) S.1 S.2.1 d_S_removePagesFrom_35 (by decide) ?_
        refine lv_istore (lv' := [(5, .int 0), (4, .int (j_S_tableOf n V k x3)), (0, .ref (ad (6 + k))), (1, .int a1), (2, .int x2), (3, .int x3)]) S.1 S.2.1 d_S_removePagesFrom_36 hl (by decide) rfl (fun ls hl => ?_)
        refine lv_iload S.1 S.2.1 d_S_removePagesFrom_38 (lv_at hl 0 rfl) ?_
        refine lv_istore (lv' := [(6, .int 0), (5, .int 0), (4, .int (j_S_tableOf n V k x3)), (0, .ref (ad (6 + k))), (1, .int a1), (2, .int x2), (3, .int x3)]) S.1 S.2.1 d_S_removePagesFrom_40 hl (by decide) rfl (fun ls hl => ?_)
        refine w_S_removePagesFrom_h42 l D ad n cI cS cQ hE S hK 1025 ((0 : Int32).toNatClampNeg) k hk a1 x2 x3 (j_S_tableOf n V k x3) 0 V _ _ _ (by decide) (by decide) (by omega) hP hS (lv_sub hl [3, 4, 5, 6, 2, 0] rfl) (fun H locs ls hP hS hl => ?_)
        refine lv_iinc (v := x3 + 1) (lv' := [(3, .int (x3 + 1)), (0, .ref (ad (6 + k))), (1, .int a1), (2, .int x2)]) S.1 S.2.1 d_S_removePagesFrom_95 hl (k := 3) rfl rfl (by decide) rfl (fun ls hl => ?_)
        refine lv_goto (tgt := 8) S.1 S.2.1 d_S_removePagesFrom_98 (by decide) ?_
        have hn9 := hE.2
        have hB := lp_lt (B := 256) (by decide) (by decide) ek hi c12
        rw [show j_S_removePagesFrom_h8 n (f + 1) V k a1 x2 x3 = j_S_removePagesFrom_h8 n f (j_S_removePagesFrom_h42 n 1025 V k a1 x2 x3 (j_S_tableOf n V k x3) 0) k a1 x2 (x3 + 1) from by rw [j_S_removePagesFrom_h8, if_neg c12, if_neg c24]]
        exact ih (i + 1) k hk a1 x2 (x3 + 1) (j_S_removePagesFrom_h42 n 1025 V k a1 x2 x3 (j_S_tableOf n V k x3) 0) _ _ _ (by rw [ek]; exact nI_1 i) (by omega) (by omega) ha hP hS (lv_sub hl [1, 2, 3, 0] rfl)
      · refine lv_iload_n S.1 S.2.1 d_S_removePagesFrom_27 rfl (lv_at hl 2 rfl) ?_
        refine lv_sipush (v := 1024) S.1 S.2.1 d_S_removePagesFrom_28 (by decide) ?_
        refine lv_irem S.1 S.2.1 d_S_removePagesFrom_31 (by decide) ?_
        refine lv_goto (tgt := 36) S.1 S.2.1 d_S_removePagesFrom_32 (by decide) ?_
        refine lv_istore (lv' := [(5, .int (a1 - a1 / 1024 * 1024)), (4, .int (j_S_tableOf n V k x3)), (0, .ref (ad (6 + k))), (1, .int a1), (2, .int x2), (3, .int x3)]) S.1 S.2.1 d_S_removePagesFrom_36 hl (by decide) rfl (fun ls hl => ?_)
        refine lv_iload S.1 S.2.1 d_S_removePagesFrom_38 (lv_at hl 0 rfl) ?_
        refine lv_istore (lv' := [(6, .int (a1 - a1 / 1024 * 1024)), (5, .int (a1 - a1 / 1024 * 1024)), (4, .int (j_S_tableOf n V k x3)), (0, .ref (ad (6 + k))), (1, .int a1), (2, .int x2), (3, .int x3)]) S.1 S.2.1 d_S_removePagesFrom_40 hl (by decide) rfl (fun ls hl => ?_)
        refine w_S_removePagesFrom_h42 l D ad n cI cS cQ hE S hK 1025 (((a1 - a1 / 1024 * 1024) : Int32).toNatClampNeg) k hk a1 x2 x3 (j_S_tableOf n V k x3) (a1 - a1 / 1024 * 1024) V _ _ _ (rem_ek hqq ha) (rem_hi hqq ha) (by omega) hP hS (lv_sub hl [3, 4, 5, 6, 2, 0] rfl) (fun H locs ls hP hS hl => ?_)
        refine lv_iinc (v := x3 + 1) (lv' := [(3, .int (x3 + 1)), (0, .ref (ad (6 + k))), (1, .int a1), (2, .int x2)]) S.1 S.2.1 d_S_removePagesFrom_95 hl (k := 3) rfl rfl (by decide) rfl (fun ls hl => ?_)
        refine lv_goto (tgt := 8) S.1 S.2.1 d_S_removePagesFrom_98 (by decide) ?_
        have hn9 := hE.2
        have hB := lp_lt (B := 256) (by decide) (by decide) ek hi c12
        rw [show j_S_removePagesFrom_h8 n (f + 1) V k a1 x2 x3 = j_S_removePagesFrom_h8 n f (j_S_removePagesFrom_h42 n 1025 V k a1 x2 x3 (j_S_tableOf n V k x3) (a1 - a1 / 1024 * 1024)) k a1 x2 (x3 + 1) from by rw [j_S_removePagesFrom_h8, if_neg c12, if_pos c24]]
        exact ih (i + 1) k hk a1 x2 (x3 + 1) (j_S_removePagesFrom_h42 n 1025 V k a1 x2 x3 (j_S_tableOf n V k x3) (a1 - a1 / 1024 * 1024)) _ _ _ (by rw [ek]; exact nI_1 i) (by omega) (by omega) ha hP hS (lv_sub hl [1, 2, 3, 0] rfl)
/-- PageVault$Space.removePagesFrom(I)V -/
def j_S_removePagesFrom (n : Nat) (V : VS) (k : Nat) (a1 : Int32) : VS :=
  j_S_removePagesFrom_h8 n 257 V k a1 (a1 / 1024) (a1 / 1024)
set_option maxHeartbeats 4000000 in
set_option maxRecDepth 100000 in
theorem c_S_removePagesFrom (hE : xE ad n) (V : VS) (k : Nat) (hk : k < 16) (a1 : Int32) (qq : Nat) (hqq : qq < 2 ^ 30) (ha : a1 = nI qq) : XC l D ad n cI cS cQ y_S_removePagesFrom b_S_removePagesFrom 7 none ({ frames := 2, cells := 0, slots := 0, locals := 43 }) [.ref (ad (6 + k)), .int a1] V none (j_S_removePagesFrom n V k a1) := by
  refine FC_intro (by decide) (Nat.le_of_ble_eq_true rfl) ?_
  intro p e s m below meth c ls S hr hlk hK hP hS hl
  have S : CallFix p m c b_S_removePagesFrom 7 s _ TG "PageVault$Space" := S
  have hl : lv_has ls 7 [(0, .ref (ad (6 + k))), (1, .int a1)] := hl
  refine lv_iload_n S.1 S.2.1 d_S_removePagesFrom_0 rfl (lv_at hl 1 rfl) ?_
  refine lv_sipush (v := 1024) S.1 S.2.1 d_S_removePagesFrom_1 (by decide) ?_
  refine lv_idiv S.1 S.2.1 d_S_removePagesFrom_4 (by decide) ?_
  refine lv_istore_n (lv' := [(2, .int (a1 / 1024)), (0, .ref (ad (6 + k))), (1, .int a1)]) S.1 S.2.1 d_S_removePagesFrom_5 rfl hl (by decide) rfl (fun ls hl => ?_)
  refine lv_iload_n S.1 S.2.1 d_S_removePagesFrom_6 rfl (lv_at hl 0 rfl) ?_
  refine lv_istore_n (lv' := [(3, .int (a1 / 1024)), (2, .int (a1 / 1024)), (0, .ref (ad (6 + k))), (1, .int a1)]) S.1 S.2.1 d_S_removePagesFrom_7 rfl hl (by decide) rfl (fun ls hl => ?_)
  rw [show j_S_removePagesFrom n V k a1 = j_S_removePagesFrom_h8 n 257 V k a1 (a1 / 1024) (a1 / 1024) from by rw [j_S_removePagesFrom]]
  exact w_S_removePagesFrom_h8 l D ad n cI cS cQ hE qq hqq S hr hlk hK 257 (qq / 1024) k hk a1 (a1 / 1024) (a1 / 1024) V _ _ _ (div_ek hqq ha) (by omega) (by omega) ha hP hS (lv_sub hl [2, 3, 1, 0] rfl)
/-- PageVault$Space.close()V -/
def j_S_close (n : Nat) (V : VS) (k : Nat) : VS :=
  j_S_close_h7 n 257 (j_S_removePagesFrom n V k 0) k 0
set_option maxHeartbeats 4000000 in
set_option maxRecDepth 100000 in
theorem c_S_close (hE : xE ad n) (V : VS) (k : Nat) (hk : k < 16) : XC l D ad n cI cS cQ y_S_close b_S_close 2 none ({ frames := 3, cells := 0, slots := 0, locals := 69 }) [.ref (ad (6 + k))] V none (j_S_close n V k) := by
  refine FC_intro (by decide) (Nat.le_of_ble_eq_true rfl) ?_
  intro p e s m below meth c ls S hr hlk hK hP hS hl
  have S : CallFix p m c b_S_close 2 s _ TG "PageVault$Space" := S
  have hl : lv_has ls 2 [(0, .ref (ad (6 + k)))] := hl
  refine lv_aload_n S.1 S.2.1 d_S_close_0 rfl (lv_at hl 0 rfl) ?_
  refine lv_iconst (v := 0) S.1 S.2.1 d_S_close_1 (by decide) ?_
  refine x_callVv (As := [.int 0]) (rest := []) S hK ci_S_28 (c_S_removePagesFrom l D ad n cI cS cQ hE V k hk 0 0 (by decide) nI_0.symm) (x_recS hK hP hk) hP hS ⟨rfl, rfl, Nat.le_of_ble_eq_true rfl, Nat.le_of_ble_eq_true rfl⟩ rfl hl.1 rfl (Nat.le_of_ble_eq_true rfl) d_S_close_2 (fun H locs hP hS => ?_)
  refine lv_iconst (v := 0) S.1 S.2.1 d_S_close_5 (by decide) ?_
  refine lv_istore_n (lv' := [(1, .int 0), (0, .ref (ad (6 + k)))]) S.1 S.2.1 d_S_close_6 rfl hl (by decide) rfl (fun ls hl => ?_)
  rw [show j_S_close n V k = j_S_close_h7 n 257 (j_S_removePagesFrom n V k 0) k 0 from by rw [j_S_close]]
  exact w_S_close_h7 l D ad n cI cS cQ hE S hr hlk hK 257 0 k hk 0 (j_S_removePagesFrom n V k 0) _ _ _ nI_0.symm (by decide) (by decide) hP hS (lv_sub hl [1, 0] rfl)
/-- PageVault.drop(I)Z -/
def j_V_drop (n : Nat) (V : VS) (a1 : Int32) : Int32 × VS :=
  oc (j_V_find V a1) (
    (0, V)) (fun k1 =>
    (1, j_S_close n V k1))
set_option maxHeartbeats 4000000 in
set_option maxRecDepth 100000 in
theorem c_V_drop (hE : xE ad n) (V : VS) (a1 : Int32) : XC l D ad n cI cS cQ y_V_drop b_V_drop 3 (some .boolean) ({ frames := 4, cells := 0, slots := 0, locals := 90 }) [.ref (ad 0), .int a1] V (some (.int (j_V_drop n V a1).1)) ((j_V_drop n V a1).2) := by
  refine FC_intro (by decide) (Nat.le_of_ble_eq_true rfl) ?_
  intro p e s m below meth c ls S hr hlk hK hP hS hl
  have S : CallFix p m c b_V_drop 3 s _ TG "PageVault" := S
  have hl : lv_has ls 3 [(0, .ref (ad 0)), (1, .int a1)] := hl
  refine lv_aload_n S.1 S.2.1 d_V_drop_0 rfl (lv_at hl 0 rfl) ?_
  refine lv_iload_n S.1 S.2.1 d_V_drop_1 rfl (lv_at hl 1 rfl) ?_
  refine x_callVq (As := [.int a1]) (rest := []) S hK ci_V_50 (c_V_find l D ad n cI cS cQ hE V a1) (x_recV hK hP) hP hS ⟨rfl, rfl, Nat.le_of_ble_eq_true rfl, Nat.le_of_ble_eq_true rfl⟩ rfl hl.1 rfl (Nat.le_of_ble_eq_true rfl) d_V_drop_2 (fun hk1 H locs hP hS => ?_) (fun k1 hk1 H locs hP hS => ?_)
  · refine lv_astore_nN (lv' := [(2, .null), (0, .ref (ad 0)), (1, .int a1)]) S.1 S.2.1 d_V_drop_5 rfl hl (by decide) rfl (fun ls hl => ?_)
    refine lv_aload_nN S.1 S.2.1 d_V_drop_6 rfl (lv_at hl 0 rfl) ?_
    refine lv_ifnonnullN S.1 S.2.1 d_V_drop_7 ?_
    refine lv_iconst (v := 0) S.1 S.2.1 d_V_drop_10 (by decide) ?_
    rw [show j_V_drop n V a1 = (0, V) from by rw [j_V_drop, oc_none hk1]]
    exact x_zret (v := 0) S hr hlk rfl hP hS d_V_drop_11
  · refine lv_astore_n (lv' := [(2, .ref (ad (6 + k1))), (0, .ref (ad 0)), (1, .int a1)]) S.1 S.2.1 d_V_drop_5 rfl hl (by decide) rfl (fun ls hl => ?_)
    refine lv_aload_n S.1 S.2.1 d_V_drop_6 rfl (lv_at hl 0 rfl) ?_
    refine lv_ifnonnull (tgt := 12) S.1 S.2.1 d_V_drop_7 (by decide) ?_
    refine lv_aload_n S.1 S.2.1 d_V_drop_12 rfl (lv_at hl 0 rfl) ?_
    refine x_callVv (As := []) (rest := []) S hK ci_V_54 (c_S_close l D ad n cI cS cQ hE V k1 (find_lt hk1)) (x_recS hK hP (find_lt hk1)) hP hS ⟨rfl, rfl, Nat.le_of_ble_eq_true rfl, Nat.le_of_ble_eq_true rfl⟩ rfl hl.1 rfl (Nat.le_of_ble_eq_true rfl) d_V_drop_13 (fun H locs hP hS => ?_)
    refine lv_iconst (v := 1) S.1 S.2.1 d_V_drop_16 (by decide) ?_
    rw [show j_V_drop n V a1 = (1, j_S_close n V k1) from by rw [j_V_drop, oc_some hk1]]
    exact x_zret (v := 1) S hr hlk rfl hP hS d_V_drop_17
def j_S_hasPageIn_h8 (n : Nat) : Nat → VS → Nat → Int32 → Int32 → Int32
  | 0, V, _, _, _ => 0
  | f + 1, V, k, x2, x3 =>
      if x2 = (-1) then
        0
      else
        if 1024 ≤ x3 then
          0
        else
          if (j_F_word n V x2 x3) = 0 then
            j_S_hasPageIn_h8 n f V k x2 (x3 + 1)
          else
            1
set_option maxHeartbeats 4000000 in
set_option maxRecDepth 100000 in
theorem w_S_hasPageIn_h8 (hE : xE ad n) {p : Program} {e : Env} {s : State} {m : MethodId} {args : Array Value} {below : List Frame} {meth : Method} {c : Code} (S : CallFix p m c b_S_hasPageIn 4 s args TG "PageVault$Space") (hr : meth.sig.returnType = some .boolean) (hlk : meth.locks = false) (hK : xK D cI cS cQ s) :
    ∀ (f i : Nat) (k : Nat) (hk : k < 16) (x2 x3 : Int32) (V : VS) (H : Heap) (locs : List Loc) (ls : Array Slot), x3 = nI i → i < 2 ^ 30 → 1024 - i < f → XP D ad n cI cS cQ V H → va_S (iA ad (xN n)) s.heap H locs → lv_has ls 4 [(0, .ref (ad (6 + k))), (2, .int x2), (3, .int x3)] → W p l e ({ frames := 2, cells := 0, slots := 0, locals := 43 }) s m args below meth c H locs 0 0 (MQ below (gPost D ad (xN n) (some (.int (j_S_hasPageIn_h8 n f V k x2 x3))) (xc ad n cI cS cQ (V))) args s 0 0 (iA ad (xN n))) (F0 m 8 ls []) := by
  intro f
  induction f with
  | zero =>
    intro i k hk x2 x3 V H locs ls ek hi hf hP hS hl
    exact absurd hf (Nat.not_lt_zero _)
  | succ f ih =>
    intro i k hk x2 x3 V H locs ls ek hi hf hP hS hl
    refine lv_iload_n S.1 S.2.1 d_S_hasPageIn_8 rfl (lv_at hl 1 rfl) ?_
    refine lv_iconst (v := (-1)) S.1 S.2.1 d_S_hasPageIn_9 (by decide) ?_
    refine lv_icmp_eq (tgt := 40) S.1 S.2.1 d_S_hasPageIn_10 (by decide) (fun c10 => ?_) (fun c10 => ?_)
    · refine lv_iconst (v := 0) S.1 S.2.1 d_S_hasPageIn_40 (by decide) ?_
      rw [show j_S_hasPageIn_h8 n (f + 1) V k x2 x3 = 0 from by rw [j_S_hasPageIn_h8, if_pos c10]]
      exact x_zret (v := 0) S hr hlk rfl hP hS d_S_hasPageIn_41
    · refine lv_iload_n S.1 S.2.1 d_S_hasPageIn_13 rfl (lv_at hl 2 rfl) ?_
      refine lv_sipush (v := 1024) S.1 S.2.1 d_S_hasPageIn_14 (by decide) ?_
      refine lv_icmp_ge (tgt := 40) S.1 S.2.1 d_S_hasPageIn_17 (by decide) (fun c17 => ?_) (fun c17 => ?_)
      · refine lv_iconst (v := 0) S.1 S.2.1 d_S_hasPageIn_40 (by decide) ?_
        rw [show j_S_hasPageIn_h8 n (f + 1) V k x2 x3 = 0 from by rw [j_S_hasPageIn_h8, if_neg c10, if_pos c17]]
        exact x_zret (v := 0) S hr hlk rfl hP hS d_S_hasPageIn_41
      · refine lv_aload_n S.1 S.2.1 d_S_hasPageIn_20 rfl (lv_at hl 0 rfl) ?_
        refine x_get_sframes S hK hP hk tg_19 d_S_hasPageIn_21 ?_
        refine lv_iload_n S.1 S.2.1 d_S_hasPageIn_24 rfl (lv_at hl 1 rfl) ?_
        refine lv_iload_n S.1 S.2.1 d_S_hasPageIn_25 rfl (lv_at hl 2 rfl) ?_
        refine x_callVi (As := [.int x2, .int x3]) (rest := []) S hK ci_S_59 (c_F_word l D ad n cI cS cQ hE V x2 x3) (x_recF hK hP) hP hS ⟨rfl, rfl, Nat.le_of_ble_eq_true rfl, Nat.le_of_ble_eq_true rfl⟩ rfl hl.1 rfl (Nat.le_of_ble_eq_true rfl) d_S_hasPageIn_26 (fun H locs hP hS => ?_)
        refine lv_if_eq (tgt := 34) S.1 S.2.1 d_S_hasPageIn_29 (by decide) (fun c29 => ?_) (fun c29 => ?_)
        · refine lv_iinc (v := x3 + 1) (lv' := [(3, .int (x3 + 1)), (0, .ref (ad (6 + k))), (2, .int x2)]) S.1 S.2.1 d_S_hasPageIn_34 hl (k := 2) rfl rfl (by decide) rfl (fun ls hl => ?_)
          refine lv_goto (tgt := 8) S.1 S.2.1 d_S_hasPageIn_37 (by decide) ?_
          have hn9 := hE.2
          have hB := lp_lt (B := 1024) (by decide) (by decide) ek hi c17
          rw [show j_S_hasPageIn_h8 n (f + 1) V k x2 x3 = j_S_hasPageIn_h8 n f V k x2 (x3 + 1) from by rw [j_S_hasPageIn_h8, if_neg c10, if_neg c17, if_pos c29]]
          exact ih (i + 1) k hk x2 (x3 + 1) V _ _ _ (by rw [ek]; exact nI_1 i) (by omega) (by omega) hP hS (lv_sub hl [1, 2, 0] rfl)
        · refine lv_iconst (v := 1) S.1 S.2.1 d_S_hasPageIn_32 (by decide) ?_
          rw [show j_S_hasPageIn_h8 n (f + 1) V k x2 x3 = 1 from by rw [j_S_hasPageIn_h8, if_neg c10, if_neg c17, if_neg c29]]
          exact x_zret (v := 1) S hr hlk rfl hP hS d_S_hasPageIn_33
/-- PageVault$Space.hasPageIn(I)Z -/
def j_S_hasPageIn (n : Nat) (V : VS) (k : Nat) (a1 : Int32) : Int32 :=
  j_S_hasPageIn_h8 n 1025 V k (j_S_tableOf n V k a1) 0
set_option maxHeartbeats 4000000 in
set_option maxRecDepth 100000 in
theorem c_S_hasPageIn (hE : xE ad n) (V : VS) (k : Nat) (hk : k < 16) (a1 : Int32) : XC l D ad n cI cS cQ y_S_hasPageIn b_S_hasPageIn 4 (some .boolean) ({ frames := 2, cells := 0, slots := 0, locals := 43 }) [.ref (ad (6 + k)), .int a1] V (some (.int (j_S_hasPageIn n V k a1))) (V) := by
  refine FC_intro (by decide) (Nat.le_of_ble_eq_true rfl) ?_
  intro p e s m below meth c ls S hr hlk hK hP hS hl
  have S : CallFix p m c b_S_hasPageIn 4 s _ TG "PageVault$Space" := S
  have hl : lv_has ls 4 [(0, .ref (ad (6 + k))), (1, .int a1)] := hl
  refine lv_aload_n S.1 S.2.1 d_S_hasPageIn_0 rfl (lv_at hl 0 rfl) ?_
  refine lv_iload_n S.1 S.2.1 d_S_hasPageIn_1 rfl (lv_at hl 1 rfl) ?_
  refine x_callVi (As := [.int a1]) (rest := []) S hK ci_S_32 (c_S_tableOf l D ad n cI cS cQ hE V k hk a1) (x_recS hK hP hk) hP hS ⟨rfl, rfl, Nat.le_of_ble_eq_true rfl, Nat.le_of_ble_eq_true rfl⟩ rfl hl.1 rfl (Nat.le_of_ble_eq_true rfl) d_S_hasPageIn_2 (fun H locs hP hS => ?_)
  refine lv_istore_n (lv' := [(2, .int (j_S_tableOf n V k a1)), (0, .ref (ad (6 + k))), (1, .int a1)]) S.1 S.2.1 d_S_hasPageIn_5 rfl hl (by decide) rfl (fun ls hl => ?_)
  refine lv_iconst (v := 0) S.1 S.2.1 d_S_hasPageIn_6 (by decide) ?_
  refine lv_istore_n (lv' := [(3, .int 0), (2, .int (j_S_tableOf n V k a1)), (0, .ref (ad (6 + k))), (1, .int a1)]) S.1 S.2.1 d_S_hasPageIn_7 rfl hl (by decide) rfl (fun ls hl => ?_)
  rw [show j_S_hasPageIn n V k a1 = j_S_hasPageIn_h8 n 1025 V k (j_S_tableOf n V k a1) 0 from by rw [j_S_hasPageIn]]
  exact w_S_hasPageIn_h8 l D ad n cI cS cQ hE S hr hlk hK 1025 0 k hk (j_S_tableOf n V k a1) 0 V _ _ _ nI_0.symm (by decide) (by decide) hP hS (lv_sub hl [2, 1, 0] rfl)
def j_S_framesOfCopy_h4 (n : Nat) : Nat → VS → Nat → Int32 → Int32 → Int32
  | 0, V, _, _, _ => 0
  | f + 1, V, k, x1, x2 =>
      if 256 ≤ x2 then
        x1
      else
        if (j_S_hasPageIn n V k x2) = 0 then
          j_S_framesOfCopy_h4 n f V k x1 (x2 + 1)
        else
          j_S_framesOfCopy_h4 n f V k (x1 + 1) (x2 + 1)
set_option maxHeartbeats 4000000 in
set_option maxRecDepth 100000 in
theorem w_S_framesOfCopy_h4 (hE : xE ad n) {p : Program} {e : Env} {s : State} {m : MethodId} {args : Array Value} {below : List Frame} {meth : Method} {c : Code} (S : CallFix p m c b_S_framesOfCopy 3 s args TG "PageVault$Space") (hr : meth.sig.returnType = some .int) (hlk : meth.locks = false) (hK : xK D cI cS cQ s) :
    ∀ (f i : Nat) (k : Nat) (hk : k < 16) (x1 x2 : Int32) (V : VS) (H : Heap) (locs : List Loc) (ls : Array Slot), x2 = nI i → i < 2 ^ 30 → 256 - i < f → XP D ad n cI cS cQ V H → va_S (iA ad (xN n)) s.heap H locs → lv_has ls 3 [(0, .ref (ad (6 + k))), (1, .int x1), (2, .int x2)] → W p l e ({ frames := 3, cells := 0, slots := 0, locals := 66 }) s m args below meth c H locs 0 0 (MQ below (gPost D ad (xN n) (some (.int (j_S_framesOfCopy_h4 n f V k x1 x2))) (xc ad n cI cS cQ (V))) args s 0 0 (iA ad (xN n))) (F0 m 4 ls []) := by
  intro f
  induction f with
  | zero =>
    intro i k hk x1 x2 V H locs ls ek hi hf hP hS hl
    exact absurd hf (Nat.not_lt_zero _)
  | succ f ih =>
    intro i k hk x1 x2 V H locs ls ek hi hf hP hS hl
    refine lv_iload_n S.1 S.2.1 d_S_framesOfCopy_4 rfl (lv_at hl 2 rfl) ?_
    refine lv_sipush (v := 256) S.1 S.2.1 d_S_framesOfCopy_5 (by decide) ?_
    refine lv_icmp_ge (tgt := 28) S.1 S.2.1 d_S_framesOfCopy_8 (by decide) (fun c8 => ?_) (fun c8 => ?_)
    · refine lv_iload_n S.1 S.2.1 d_S_framesOfCopy_28 rfl (lv_at hl 1 rfl) ?_
      rw [show j_S_framesOfCopy_h4 n (f + 1) V k x1 x2 = x1 from by rw [j_S_framesOfCopy_h4, if_pos c8]]
      exact x_iret S hr hlk hP hS d_S_framesOfCopy_29
    · refine lv_aload_n S.1 S.2.1 d_S_framesOfCopy_11 rfl (lv_at hl 0 rfl) ?_
      refine lv_iload_n S.1 S.2.1 d_S_framesOfCopy_12 rfl (lv_at hl 2 rfl) ?_
      refine x_callVi (As := [.int x2]) (rest := []) S hK ci_S_42 (c_S_hasPageIn l D ad n cI cS cQ hE V k hk x2) (x_recS hK hP hk) hP hS ⟨rfl, rfl, Nat.le_of_ble_eq_true rfl, Nat.le_of_ble_eq_true rfl⟩ rfl hl.1 rfl (Nat.le_of_ble_eq_true rfl) d_S_framesOfCopy_13 (fun H locs hP hS => ?_)
      refine lv_if_eq (tgt := 22) S.1 S.2.1 d_S_framesOfCopy_16 (by decide) (fun c16 => ?_) (fun c16 => ?_)
      · refine lv_iinc (v := x2 + 1) (lv' := [(2, .int (x2 + 1)), (0, .ref (ad (6 + k))), (1, .int x1)]) S.1 S.2.1 d_S_framesOfCopy_22 hl (k := 2) rfl rfl (by decide) rfl (fun ls hl => ?_)
        refine lv_goto (tgt := 4) S.1 S.2.1 d_S_framesOfCopy_25 (by decide) ?_
        have hn9 := hE.2
        have hB := lp_lt (B := 256) (by decide) (by decide) ek hi c8
        rw [show j_S_framesOfCopy_h4 n (f + 1) V k x1 x2 = j_S_framesOfCopy_h4 n f V k x1 (x2 + 1) from by rw [j_S_framesOfCopy_h4, if_neg c8, if_pos c16]]
        exact ih (i + 1) k hk x1 (x2 + 1) V _ _ _ (by rw [ek]; exact nI_1 i) (by omega) (by omega) hP hS (lv_sub hl [1, 2, 0] rfl)
      · refine lv_iinc (v := x1 + 1) (lv' := [(1, .int (x1 + 1)), (0, .ref (ad (6 + k))), (2, .int x2)]) S.1 S.2.1 d_S_framesOfCopy_19 hl (k := 1) rfl rfl (by decide) rfl (fun ls hl => ?_)
        refine lv_iinc (v := x2 + 1) (lv' := [(2, .int (x2 + 1)), (1, .int (x1 + 1)), (0, .ref (ad (6 + k)))]) S.1 S.2.1 d_S_framesOfCopy_22 hl (k := 2) rfl rfl (by decide) rfl (fun ls hl => ?_)
        refine lv_goto (tgt := 4) S.1 S.2.1 d_S_framesOfCopy_25 (by decide) ?_
        have hn9 := hE.2
        have hB := lp_lt (B := 256) (by decide) (by decide) ek hi c8
        rw [show j_S_framesOfCopy_h4 n (f + 1) V k x1 x2 = j_S_framesOfCopy_h4 n f V k (x1 + 1) (x2 + 1) from by rw [j_S_framesOfCopy_h4, if_neg c8, if_neg c16]]
        exact ih (i + 1) k hk (x1 + 1) (x2 + 1) V _ _ _ (by rw [ek]; exact nI_1 i) (by omega) (by omega) hP hS (lv_sub hl [2, 1, 0] rfl)
/-- PageVault$Space.framesOfCopy()I -/
def j_S_framesOfCopy (n : Nat) (V : VS) (k : Nat) : Int32 :=
  j_S_framesOfCopy_h4 n 257 V k 1 0
set_option maxHeartbeats 4000000 in
set_option maxRecDepth 100000 in
theorem c_S_framesOfCopy (hE : xE ad n) (V : VS) (k : Nat) (hk : k < 16) : XC l D ad n cI cS cQ y_S_framesOfCopy b_S_framesOfCopy 3 (some .int) ({ frames := 3, cells := 0, slots := 0, locals := 66 }) [.ref (ad (6 + k))] V (some (.int (j_S_framesOfCopy n V k))) (V) := by
  refine FC_intro (by decide) (Nat.le_of_ble_eq_true rfl) ?_
  intro p e s m below meth c ls S hr hlk hK hP hS hl
  have S : CallFix p m c b_S_framesOfCopy 3 s _ TG "PageVault$Space" := S
  have hl : lv_has ls 3 [(0, .ref (ad (6 + k)))] := hl
  refine lv_iconst (v := 1) S.1 S.2.1 d_S_framesOfCopy_0 (by decide) ?_
  refine lv_istore_n (lv' := [(1, .int 1), (0, .ref (ad (6 + k)))]) S.1 S.2.1 d_S_framesOfCopy_1 rfl hl (by decide) rfl (fun ls hl => ?_)
  refine lv_iconst (v := 0) S.1 S.2.1 d_S_framesOfCopy_2 (by decide) ?_
  refine lv_istore_n (lv' := [(2, .int 0), (1, .int 1), (0, .ref (ad (6 + k)))]) S.1 S.2.1 d_S_framesOfCopy_3 rfl hl (by decide) rfl (fun ls hl => ?_)
  rw [show j_S_framesOfCopy n V k = j_S_framesOfCopy_h4 n 257 V k 1 0 from by rw [j_S_framesOfCopy]]
  exact w_S_framesOfCopy_h4 l D ad n cI cS cQ hE S hr hlk hK 257 0 k hk 1 0 V _ _ _ nI_0.symm (by decide) (by decide) hP hS (lv_sub hl [2, 1, 0] rfl)
/-- PageVault$Frames.hold(I)V -/
def j_F_hold (n : Nat) (V : VS) (a1 : Int32) : VS :=
  if (j_F_isFrame n a1) = 0 then
    V
  else
    s_hold V a1.toNatClampNeg ((v_hold V a1.toNatClampNeg) + 1)
set_option maxHeartbeats 4000000 in
set_option maxRecDepth 100000 in
theorem c_F_hold (hE : xE ad n) (V : VS) (a1 : Int32) : XC l D ad n cI cS cQ y_F_hold b_F_hold 2 none ({ frames := 1, cells := 0, slots := 0, locals := 21 }) [.ref (ad 1), .int a1] V none (j_F_hold n V a1) := by
  refine FC_intro (by decide) (Nat.le_of_ble_eq_true rfl) ?_
  intro p e s m below meth c ls S hr hlk hK hP hS hl
  have S : CallFix p m c b_F_hold 2 s _ TG "PageVault$Frames" := S
  have hl : lv_has ls 2 [(0, .ref (ad 1)), (1, .int a1)] := hl
  refine lv_aload_n S.1 S.2.1 d_F_hold_0 rfl (lv_at hl 0 rfl) ?_
  refine lv_iload_n S.1 S.2.1 d_F_hold_1 rfl (lv_at hl 1 rfl) ?_
  refine x_callVi (As := [.int a1]) (rest := []) S hK ci_F_30 (c_F_isFrame l D ad n cI cS cQ hE V a1) (x_recF hK hP) hP hS ⟨rfl, rfl, Nat.le_of_ble_eq_true rfl, Nat.le_of_ble_eq_true rfl⟩ rfl hl.1 rfl (Nat.le_of_ble_eq_true rfl) d_F_hold_2 (fun H locs hP hS => ?_)
  refine lv_if_eq (tgt := 18) S.1 S.2.1 d_F_hold_5 (by decide) (fun c5 => ?_) (fun c5 => ?_)
  · rw [show j_F_hold n V a1 = V from by rw [j_F_hold, if_pos c5]]
    exact x_vret S hr hlk hP hS d_F_hold_18
  · refine lv_aload_n S.1 S.2.1 d_F_hold_8 rfl (lv_at hl 0 rfl) ?_
    refine x_get_holders S hK hP tg_20 d_F_hold_9 ?_
    refine lv_iload_n S.1 S.2.1 d_F_hold_12 rfl (lv_at hl 1 rfl) ?_
    refine lv_dup2_11 S.1 S.2.1 d_F_hold_13 rfl rfl ?_
    refine x_ald_holders S hK hP (isFrame_in hE c5) d_F_hold_14 ?_
    refine lv_iconst (v := 1) S.1 S.2.1 d_F_hold_15 (by decide) ?_
    refine lv_iadd S.1 S.2.1 d_F_hold_16 ?_
    refine x_ast_holders S hE hK hP hS (isFrame_in hE c5) d_F_hold_17 (fun H locs hP hS => ?_)
    rw [show j_F_hold n V a1 = s_hold V a1.toNatClampNeg ((v_hold V a1.toNatClampNeg) + 1) from by rw [j_F_hold, if_neg c5]]
    exact x_vret S hr hlk hP hS d_F_hold_18
def j_S_shareRegion_h22 (n : Nat) : Nat → VS → Nat → Int32 → Int32 → VS
  | 0, V, _, _, _ => V
  | f + 1, V, k, x3, x4 =>
      if 1024 ≤ x4 then
        V
      else
        j_S_shareRegion_h22 n f (j_F_hold n V (j_V_frameOf (j_F_word n V x3 x4))) k x3 (x4 + 1)
set_option maxHeartbeats 4000000 in
set_option maxRecDepth 100000 in
theorem w_S_shareRegion_h22 (hE : xE ad n) {p : Program} {e : Env} {s : State} {m : MethodId} {args : Array Value} {below : List Frame} {meth : Method} {c : Code} (S : CallFix p m c b_S_shareRegion 5 s args TG "PageVault$Space") (hr : meth.sig.returnType = none) (hlk : meth.locks = false) (hK : xK D cI cS cQ s) :
    ∀ (f i : Nat) (k : Nat) (hk : k < 16) (x3 x4 : Int32) (V : VS) (H : Heap) (locs : List Loc) (ls : Array Slot), x4 = nI i → i < 2 ^ 30 → 1024 - i < f → XP D ad n cI cS cQ V H → va_S (iA ad (xN n)) s.heap H locs → lv_has ls 5 [(0, .ref (ad (6 + k))), (3, .int x3), (4, .int x4)] → W p l e ({ frames := 3, cells := 0, slots := 0, locals := 83 }) s m args below meth c H locs 0 0 (MQ below (gPost D ad (xN n) none (xc ad n cI cS cQ (j_S_shareRegion_h22 n f V k x3 x4))) args s 0 0 (iA ad (xN n))) (F0 m 22 ls []) := by
  intro f
  induction f with
  | zero =>
    intro i k hk x3 x4 V H locs ls ek hi hf hP hS hl
    exact absurd hf (Nat.not_lt_zero _)
  | succ f ih =>
    intro i k hk x3 x4 V H locs ls ek hi hf hP hS hl
    refine lv_iload S.1 S.2.1 d_S_shareRegion_22 (lv_at hl 2 rfl) ?_
    refine lv_sipush (v := 1024) S.1 S.2.1 d_S_shareRegion_24 (by decide) ?_
    refine lv_icmp_ge (tgt := 56) S.1 S.2.1 d_S_shareRegion_27 (by decide) (fun c27 => ?_) (fun c27 => ?_)
    · rw [show j_S_shareRegion_h22 n (f + 1) V k x3 x4 = V from by rw [j_S_shareRegion_h22, if_pos c27]]
      exact x_vret S hr hlk hP hS d_S_shareRegion_56
    · refine lv_aload_n S.1 S.2.1 d_S_shareRegion_30 rfl (lv_at hl 0 rfl) ?_
      refine x_get_sframes S hK hP hk tg_19 d_S_shareRegion_31 ?_
      refine lv_aload_n S.1 S.2.1 d_S_shareRegion_34 rfl (lv_at hl 0 rfl) ?_
      refine x_get_sframes S hK hP hk tg_19 d_S_shareRegion_35 ?_
      refine lv_iload_n S.1 S.2.1 d_S_shareRegion_38 rfl (lv_at hl 1 rfl) ?_
      refine lv_iload S.1 S.2.1 d_S_shareRegion_39 (lv_at hl 2 rfl) ?_
      refine x_callVi (As := [.int x3, .int x4]) (rest := [.ref (ad 1)]) S hK ci_S_59 (c_F_word l D ad n cI cS cQ hE V x3 x4) (x_recF hK hP) hP hS ⟨rfl, rfl, Nat.le_of_ble_eq_true rfl, Nat.le_of_ble_eq_true rfl⟩ rfl hl.1 rfl (Nat.le_of_ble_eq_true rfl) d_S_shareRegion_41 (fun H locs hP hS => ?_)
      refine x_callNi (As := [.int (j_F_word n V x3 x4)]) (rest := [.ref (ad 1)]) S hK ci_S_78 (hK.2 _ nl_0) (c_V_frameOf l D ad n cI cS cQ hE V (j_F_word n V x3 x4)) hP hS ⟨rfl, rfl, Nat.le_of_ble_eq_true rfl, Nat.le_of_ble_eq_true rfl⟩ rfl hl.1 rfl (Nat.le_of_ble_eq_true rfl) d_S_shareRegion_44 (fun H locs hP hS => ?_)
      refine x_callVv (As := [.int (j_V_frameOf (j_F_word n V x3 x4))]) (rest := []) S hK ci_S_91 (c_F_hold l D ad n cI cS cQ hE V (j_V_frameOf (j_F_word n V x3 x4))) (x_recF hK hP) hP hS ⟨rfl, rfl, Nat.le_of_ble_eq_true rfl, Nat.le_of_ble_eq_true rfl⟩ rfl hl.1 rfl (Nat.le_of_ble_eq_true rfl) d_S_shareRegion_47 (fun H locs hP hS => ?_)
      refine lv_iinc (v := x4 + 1) (lv' := [(4, .int (x4 + 1)), (0, .ref (ad (6 + k))), (3, .int x3)]) S.1 S.2.1 d_S_shareRegion_50 hl (k := 2) rfl rfl (by decide) rfl (fun ls hl => ?_)
      refine lv_goto (tgt := 22) S.1 S.2.1 d_S_shareRegion_53 (by decide) ?_
      have hn9 := hE.2
      have hB := lp_lt (B := 1024) (by decide) (by decide) ek hi c27
      rw [show j_S_shareRegion_h22 n (f + 1) V k x3 x4 = j_S_shareRegion_h22 n f (j_F_hold n V (j_V_frameOf (j_F_word n V x3 x4))) k x3 (x4 + 1) from by rw [j_S_shareRegion_h22, if_neg c27]]
      exact ih (i + 1) k hk x3 (x4 + 1) (j_F_hold n V (j_V_frameOf (j_F_word n V x3 x4))) _ _ _ (by rw [ek]; exact nI_1 i) (by omega) (by omega) hP hS (lv_sub hl [1, 2, 0] rfl)
/-- PageVault.entryOf(II)I -/
def j_V_entryOf (a0 : Int32) (a1 : Int32) : Int32 :=
  ((a0 + 1) <<< (4 &&& 31)) ||| a1
set_option maxHeartbeats 4000000 in
set_option maxRecDepth 100000 in
theorem c_V_entryOf (hE : xE ad n) (V : VS) (a0 : Int32) (a1 : Int32) : XC l D ad n cI cS cQ y_V_entryOf b_V_entryOf 2 (some .int) ({ frames := 0, cells := 0, slots := 0, locals := 0 }) [.int a0, .int a1] V (some (.int (j_V_entryOf a0 a1))) (V) := by
  refine FC_intro (by decide) (Nat.le_of_ble_eq_true rfl) ?_
  intro p e s m below meth c ls S hr hlk hK hP hS hl
  have S : CallFix p m c b_V_entryOf 2 s _ TG "PageVault" := S
  have hl : lv_has ls 2 [(0, .int a0), (1, .int a1)] := hl
  refine lv_iload_n S.1 S.2.1 d_V_entryOf_0 rfl (lv_at hl 0 rfl) ?_
  refine lv_iconst (v := 1) S.1 S.2.1 d_V_entryOf_1 (by decide) ?_
  refine lv_iadd S.1 S.2.1 d_V_entryOf_2 ?_
  refine lv_iconst (v := 4) S.1 S.2.1 d_V_entryOf_3 (by decide) ?_
  refine lv_ishl S.1 S.2.1 d_V_entryOf_4 ?_
  refine lv_iload_n S.1 S.2.1 d_V_entryOf_5 rfl (lv_at hl 1 rfl) ?_
  refine lv_ior S.1 S.2.1 d_V_entryOf_6 ?_
  rw [show j_V_entryOf a0 a1 = ((a0 + 1) <<< (4 &&& 31)) ||| a1 from by rw [j_V_entryOf]]
  exact x_iret S hr hlk hP hS d_V_entryOf_7
/-- PageVault$Space.addTable(I)I -/
def j_S_addTable (n : Nat) (V : VS) (k : Nat) (a1 : Int32) : Int32 × VS :=
  ((j_F_take n V).1, j_F_setWord n ((j_F_take n V).2) (v_root ((j_F_take n V).2) k) a1 (j_V_entryOf ((j_F_take n V).1) 0))
set_option maxHeartbeats 4000000 in
set_option maxRecDepth 100000 in
theorem c_S_addTable (hE : xE ad n) (V : VS) (k : Nat) (hk : k < 16) (a1 : Int32) : XC l D ad n cI cS cQ y_S_addTable b_S_addTable 3 (some .int) ({ frames := 2, cells := 0, slots := 0, locals := 61 }) [.ref (ad (6 + k)), .int a1] V (some (.int (j_S_addTable n V k a1).1)) ((j_S_addTable n V k a1).2) := by
  refine FC_intro (by decide) (Nat.le_of_ble_eq_true rfl) ?_
  intro p e s m below meth c ls S hr hlk hK hP hS hl
  have S : CallFix p m c b_S_addTable 3 s _ TG "PageVault$Space" := S
  have hl : lv_has ls 3 [(0, .ref (ad (6 + k))), (1, .int a1)] := hl
  refine lv_aload_n S.1 S.2.1 d_S_addTable_0 rfl (lv_at hl 0 rfl) ?_
  refine x_get_sframes S hK hP hk tg_19 d_S_addTable_1 ?_
  refine x_callVi (As := []) (rest := []) S hK ci_S_22 (c_F_take l D ad n cI cS cQ hE V) (x_recF hK hP) hP hS ⟨rfl, rfl, Nat.le_of_ble_eq_true rfl, Nat.le_of_ble_eq_true rfl⟩ rfl hl.1 rfl (Nat.le_of_ble_eq_true rfl) d_S_addTable_4 (fun H locs hP hS => ?_)
  refine lv_istore_n (lv' := [(2, .int ((j_F_take n V).1)), (0, .ref (ad (6 + k))), (1, .int a1)]) S.1 S.2.1 d_S_addTable_7 rfl hl (by decide) rfl (fun ls hl => ?_)
  refine lv_aload_n S.1 S.2.1 d_S_addTable_8 rfl (lv_at hl 1 rfl) ?_
  refine x_get_sframes S hK hP hk tg_19 d_S_addTable_9 ?_
  refine lv_aload_n S.1 S.2.1 d_S_addTable_12 rfl (lv_at hl 1 rfl) ?_
  refine x_get_root S hK hP hk tg_1 d_S_addTable_13 ?_
  refine lv_iload_n S.1 S.2.1 d_S_addTable_16 rfl (lv_at hl 2 rfl) ?_
  refine lv_iload_n S.1 S.2.1 d_S_addTable_17 rfl (lv_at hl 0 rfl) ?_
  refine lv_iconst (v := 0) S.1 S.2.1 d_S_addTable_18 (by decide) ?_
  refine x_callNi (As := [.int ((j_F_take n V).1), .int 0]) (rest := [.int a1, .int (v_root ((j_F_take n V).2) k), .ref (ad 1)]) S hK ci_S_72 (hK.2 _ nl_1) (c_V_entryOf l D ad n cI cS cQ hE ((j_F_take n V).2) ((j_F_take n V).1) 0) hP hS ⟨rfl, rfl, Nat.le_of_ble_eq_true rfl, Nat.le_of_ble_eq_true rfl⟩ rfl hl.1 rfl (Nat.le_of_ble_eq_true rfl) d_S_addTable_19 (fun H locs hP hS => ?_)
  refine x_callVv (As := [.int (v_root ((j_F_take n V).2) k), .int a1, .int (j_V_entryOf ((j_F_take n V).1) 0)]) (rest := []) S hK ci_S_62 (c_F_setWord l D ad n cI cS cQ hE ((j_F_take n V).2) (v_root ((j_F_take n V).2) k) a1 (j_V_entryOf ((j_F_take n V).1) 0)) (x_recF hK hP) hP hS ⟨rfl, rfl, Nat.le_of_ble_eq_true rfl, Nat.le_of_ble_eq_true rfl⟩ rfl hl.1 rfl (Nat.le_of_ble_eq_true rfl) d_S_addTable_22 (fun H locs hP hS => ?_)
  refine lv_iload_n S.1 S.2.1 d_S_addTable_25 rfl (lv_at hl 0 rfl) ?_
  rw [show j_S_addTable n V k a1 = ((j_F_take n V).1, j_F_setWord n ((j_F_take n V).2) (v_root ((j_F_take n V).2) k) a1 (j_V_entryOf ((j_F_take n V).1) 0)) from by rw [j_S_addTable]]
  exact x_iret S hr hlk hP hS d_S_addTable_26
/-- PageVault$Frames.copyWords(II)V -/
def j_F_copyWords (n : Nat) (V : VS) (a1 : Int32) (a2 : Int32) : VS :=
  if (j_F_isFrame n a1) = 0 then
    V
  else
    if (j_F_isFrame n a2) = 0 then
      V
    else
      s_row V a2.toNatClampNeg (v_words V a1.toNatClampNeg)
set_option maxHeartbeats 4000000 in
set_option maxRecDepth 100000 in
theorem c_F_copyWords (hE : xE ad n) (V : VS) (a1 : Int32) (a2 : Int32) : XC l D ad n cI cS cQ y_F_copyWords b_F_copyWords 3 none ({ frames := 1, cells := 0, slots := 0, locals := 40 }) [.ref (ad 1), .int a1, .int a2] V none (j_F_copyWords n V a1 a2) := by
  refine FC_intro (by decide) (Nat.le_of_ble_eq_true rfl) ?_
  intro p e s m below meth c ls S hr hlk hK hP hS hl
  have S : CallFix p m c b_F_copyWords 3 s _ TG "PageVault$Frames" := S
  have hl : lv_has ls 3 [(0, .ref (ad 1)), (1, .int a1), (2, .int a2)] := hl
  refine lv_aload_n S.1 S.2.1 d_F_copyWords_0 rfl (lv_at hl 0 rfl) ?_
  refine lv_iload_n S.1 S.2.1 d_F_copyWords_1 rfl (lv_at hl 1 rfl) ?_
  refine x_callVi (As := [.int a1]) (rest := []) S hK ci_F_30 (c_F_isFrame l D ad n cI cS cQ hE V a1) (x_recF hK hP) hP hS ⟨rfl, rfl, Nat.le_of_ble_eq_true rfl, Nat.le_of_ble_eq_true rfl⟩ rfl hl.1 rfl (Nat.le_of_ble_eq_true rfl) d_F_copyWords_2 (fun H locs hP hS => ?_)
  refine lv_if_eq (tgt := 36) S.1 S.2.1 d_F_copyWords_5 (by decide) (fun c5 => ?_) (fun c5 => ?_)
  · rw [show j_F_copyWords n V a1 a2 = V from by rw [j_F_copyWords, if_pos c5]]
    exact x_vret S hr hlk hP hS d_F_copyWords_36
  · refine lv_aload_n S.1 S.2.1 d_F_copyWords_8 rfl (lv_at hl 0 rfl) ?_
    refine lv_iload_n S.1 S.2.1 d_F_copyWords_9 rfl (lv_at hl 2 rfl) ?_
    refine x_callVi (As := [.int a2]) (rest := []) S hK ci_F_30 (c_F_isFrame l D ad n cI cS cQ hE V a2) (x_recF hK hP) hP hS ⟨rfl, rfl, Nat.le_of_ble_eq_true rfl, Nat.le_of_ble_eq_true rfl⟩ rfl hl.1 rfl (Nat.le_of_ble_eq_true rfl) d_F_copyWords_10 (fun H locs hP hS => ?_)
    refine lv_if_eq (tgt := 36) S.1 S.2.1 d_F_copyWords_13 (by decide) (fun c13 => ?_) (fun c13 => ?_)
    · rw [show j_F_copyWords n V a1 a2 = V from by rw [j_F_copyWords, if_neg c5, if_pos c13]]
      exact x_vret S hr hlk hP hS d_F_copyWords_36
    · refine lv_aload_n S.1 S.2.1 d_F_copyWords_16 rfl (lv_at hl 0 rfl) ?_
      refine x_get_words S hK hP tg_21 d_F_copyWords_17 ?_
      refine lv_iload_n S.1 S.2.1 d_F_copyWords_20 rfl (lv_at hl 1 rfl) ?_
      refine x_ald_words S hK hP (isFrame_in hE c5) d_F_copyWords_21 ?_
      refine lv_iconst (v := 0) S.1 S.2.1 d_F_copyWords_22 (by decide) ?_
      refine lv_aload_n S.1 S.2.1 d_F_copyWords_23 rfl (lv_at hl 0 rfl) ?_
      refine x_get_words S hK hP tg_21 d_F_copyWords_24 ?_
      refine lv_iload_n S.1 S.2.1 d_F_copyWords_27 rfl (lv_at hl 2 rfl) ?_
      refine x_ald_words S hK hP (isFrame_in hE c13) d_F_copyWords_28 ?_
      refine lv_iconst (v := 0) S.1 S.2.1 d_F_copyWords_29 (by decide) ?_
      refine lv_sipush (v := 1024) S.1 S.2.1 d_F_copyWords_30 (by decide) ?_
      refine x_copy S hl.1 hE hK hP hS (vin_lt (isFrame_in hE c5)) (vin_lt (isFrame_in hE c13)) tg_87 tg_88 tg_89 tg_90 (Nat.le_of_ble_eq_true rfl) (Nat.le_of_ble_eq_true rfl) d_F_copyWords_33 (fun H locs hP hS => ?_)
      rw [show j_F_copyWords n V a1 a2 = s_row V a2.toNatClampNeg (v_words V a1.toNatClampNeg) from by rw [j_F_copyWords, if_neg c5, if_neg c13]]
      exact x_vret S hr hlk hP hS d_F_copyWords_36
/-- PageVault$Space.shareRegion(LPageVault$Space;I)V -/
def j_S_shareRegion (n : Nat) (V : VS) (k : Nat) (q : Nat) (a2 : Int32) : VS :=
  j_S_shareRegion_h22 n 1025 (j_F_copyWords n ((j_S_addTable n V k a2).2) (j_S_tableOf n ((j_S_addTable n V k a2).2) q a2) ((j_S_addTable n V k a2).1)) k ((j_S_addTable n V k a2).1) 0
set_option maxHeartbeats 4000000 in
set_option maxRecDepth 100000 in
theorem c_S_shareRegion (hE : xE ad n) (V : VS) (k : Nat) (hk : k < 16) (q : Nat) (hq : q < 16) (a2 : Int32) : XC l D ad n cI cS cQ y_S_shareRegion b_S_shareRegion 5 none ({ frames := 3, cells := 0, slots := 0, locals := 83 }) [.ref (ad (6 + k)), .ref (ad (6 + q)), .int a2] V none (j_S_shareRegion n V k q a2) := by
  refine FC_intro (by decide) (Nat.le_of_ble_eq_true rfl) ?_
  intro p e s m below meth c ls S hr hlk hK hP hS hl
  have S : CallFix p m c b_S_shareRegion 5 s _ TG "PageVault$Space" := S
  have hl : lv_has ls 5 [(0, .ref (ad (6 + k))), (1, .ref (ad (6 + q))), (2, .int a2)] := hl
  refine lv_aload_n S.1 S.2.1 d_S_shareRegion_0 rfl (lv_at hl 0 rfl) ?_
  refine lv_iload_n S.1 S.2.1 d_S_shareRegion_1 rfl (lv_at hl 2 rfl) ?_
  refine x_callVi (As := [.int a2]) (rest := []) S hK ci_S_69 (c_S_addTable l D ad n cI cS cQ hE V k hk a2) (x_recS hK hP hk) hP hS ⟨rfl, rfl, Nat.le_of_ble_eq_true rfl, Nat.le_of_ble_eq_true rfl⟩ rfl hl.1 rfl (Nat.le_of_ble_eq_true rfl) d_S_shareRegion_2 (fun H locs hP hS => ?_)
  refine lv_istore_n (lv' := [(3, .int ((j_S_addTable n V k a2).1)), (0, .ref (ad (6 + k))), (1, .ref (ad (6 + q))), (2, .int a2)]) S.1 S.2.1 d_S_shareRegion_5 rfl hl (by decide) rfl (fun ls hl => ?_)
  refine lv_aload_n S.1 S.2.1 d_S_shareRegion_6 rfl (lv_at hl 1 rfl) ?_
  refine x_get_sframes S hK hP hk tg_19 d_S_shareRegion_7 ?_
  refine lv_aload_n S.1 S.2.1 d_S_shareRegion_10 rfl (lv_at hl 2 rfl) ?_
  refine lv_iload_n S.1 S.2.1 d_S_shareRegion_11 rfl (lv_at hl 3 rfl) ?_
  refine x_callVi (As := [.int a2]) (rest := [.ref (ad 1)]) S hK ci_S_32 (c_S_tableOf l D ad n cI cS cQ hE ((j_S_addTable n V k a2).2) q hq a2) (x_recS hK hP hq) hP hS ⟨rfl, rfl, Nat.le_of_ble_eq_true rfl, Nat.le_of_ble_eq_true rfl⟩ rfl hl.1 rfl (Nat.le_of_ble_eq_true rfl) d_S_shareRegion_12 (fun H locs hP hS => ?_)
  refine lv_iload_n S.1 S.2.1 d_S_shareRegion_15 rfl (lv_at hl 0 rfl) ?_
  refine x_callVv (As := [.int (j_S_tableOf n ((j_S_addTable n V k a2).2) q a2), .int ((j_S_addTable n V k a2).1)]) (rest := []) S hK ci_S_81 (c_F_copyWords l D ad n cI cS cQ hE ((j_S_addTable n V k a2).2) (j_S_tableOf n ((j_S_addTable n V k a2).2) q a2) ((j_S_addTable n V k a2).1)) (x_recF hK hP) hP hS ⟨rfl, rfl, Nat.le_of_ble_eq_true rfl, Nat.le_of_ble_eq_true rfl⟩ rfl hl.1 rfl (Nat.le_of_ble_eq_true rfl) d_S_shareRegion_16 (fun H locs hP hS => ?_)
  refine lv_iconst (v := 0) S.1 S.2.1 d_S_shareRegion_19 (by decide) ?_
  refine lv_istore (lv' := [(4, .int 0), (3, .int ((j_S_addTable n V k a2).1)), (0, .ref (ad (6 + k))), (1, .ref (ad (6 + q))), (2, .int a2)]) S.1 S.2.1 d_S_shareRegion_20 hl (by decide) rfl (fun ls hl => ?_)
  rw [show j_S_shareRegion n V k q a2 = j_S_shareRegion_h22 n 1025 (j_F_copyWords n ((j_S_addTable n V k a2).2) (j_S_tableOf n ((j_S_addTable n V k a2).2) q a2) ((j_S_addTable n V k a2).1)) k ((j_S_addTable n V k a2).1) 0 from by rw [j_S_shareRegion]]
  exact w_S_shareRegion_h22 l D ad n cI cS cQ hE S hr hlk hK 1025 0 k hk ((j_S_addTable n V k a2).1) 0 (j_F_copyWords n ((j_S_addTable n V k a2).2) (j_S_tableOf n ((j_S_addTable n V k a2).2) q a2) ((j_S_addTable n V k a2).1)) _ _ _ nI_0.symm (by decide) (by decide) hP hS (lv_sub hl [2, 1, 0] rfl)
def j_S_openAsCopy_h10 (n : Nat) : Nat → VS → Nat → Nat → Int32 → VS
  | 0, V, _, _, _ => V
  | f + 1, V, k, q, x2 =>
      if 256 ≤ x2 then
        V
      else
        if (j_S_hasPageIn n V q x2) = 0 then
          j_S_openAsCopy_h10 n f V k q (x2 + 1)
        else
          j_S_openAsCopy_h10 n f (j_S_shareRegion n V k q x2) k q (x2 + 1)
set_option maxHeartbeats 4000000 in
set_option maxRecDepth 100000 in
theorem w_S_openAsCopy_h10 (hE : xE ad n) {p : Program} {e : Env} {s : State} {m : MethodId} {args : Array Value} {below : List Frame} {meth : Method} {c : Code} (S : CallFix p m c b_S_openAsCopy 3 s args TG "PageVault$Space") (hr : meth.sig.returnType = none) (hlk : meth.locks = false) (hK : xK D cI cS cQ s) :
    ∀ (f i : Nat) (k : Nat) (hk : k < 16) (q : Nat) (hq : q < 16) (x2 : Int32) (V : VS) (H : Heap) (locs : List Loc) (ls : Array Slot), x2 = nI i → i < 2 ^ 30 → 256 - i < f → XP D ad n cI cS cQ V H → va_S (iA ad (xN n)) s.heap H locs → lv_has ls 3 [(0, .ref (ad (6 + k))), (1, .ref (ad (6 + q))), (2, .int x2)] → W p l e ({ frames := 4, cells := 0, slots := 0, locals := 107 }) s m args below meth c H locs 0 0 (MQ below (gPost D ad (xN n) none (xc ad n cI cS cQ (j_S_openAsCopy_h10 n f V k q x2))) args s 0 0 (iA ad (xN n))) (F0 m 10 ls []) := by
  intro f
  induction f with
  | zero =>
    intro i k hk q hq x2 V H locs ls ek hi hf hP hS hl
    exact absurd hf (Nat.not_lt_zero _)
  | succ f ih =>
    intro i k hk q hq x2 V H locs ls ek hi hf hP hS hl
    refine lv_iload_n S.1 S.2.1 d_S_openAsCopy_10 rfl (lv_at hl 2 rfl) ?_
    refine lv_sipush (v := 256) S.1 S.2.1 d_S_openAsCopy_11 (by decide) ?_
    refine lv_icmp_ge (tgt := 37) S.1 S.2.1 d_S_openAsCopy_14 (by decide) (fun c14 => ?_) (fun c14 => ?_)
    · rw [show j_S_openAsCopy_h10 n (f + 1) V k q x2 = V from by rw [j_S_openAsCopy_h10, if_pos c14]]
      exact x_vret S hr hlk hP hS d_S_openAsCopy_37
    · refine lv_aload_n S.1 S.2.1 d_S_openAsCopy_17 rfl (lv_at hl 1 rfl) ?_
      refine lv_iload_n S.1 S.2.1 d_S_openAsCopy_18 rfl (lv_at hl 2 rfl) ?_
      refine x_callVi (As := [.int x2]) (rest := []) S hK ci_S_42 (c_S_hasPageIn l D ad n cI cS cQ hE V q hq x2) (x_recS hK hP hq) hP hS ⟨rfl, rfl, Nat.le_of_ble_eq_true rfl, Nat.le_of_ble_eq_true rfl⟩ rfl hl.1 rfl (Nat.le_of_ble_eq_true rfl) d_S_openAsCopy_19 (fun H locs hP hS => ?_)
      refine lv_if_eq (tgt := 31) S.1 S.2.1 d_S_openAsCopy_22 (by decide) (fun c22 => ?_) (fun c22 => ?_)
      · refine lv_iinc (v := x2 + 1) (lv' := [(2, .int (x2 + 1)), (0, .ref (ad (6 + k))), (1, .ref (ad (6 + q)))]) S.1 S.2.1 d_S_openAsCopy_31 hl (k := 2) rfl rfl (by decide) rfl (fun ls hl => ?_)
        refine lv_goto (tgt := 10) S.1 S.2.1 d_S_openAsCopy_34 (by decide) ?_
        have hn9 := hE.2
        have hB := lp_lt (B := 256) (by decide) (by decide) ek hi c14
        rw [show j_S_openAsCopy_h10 n (f + 1) V k q x2 = j_S_openAsCopy_h10 n f V k q (x2 + 1) from by rw [j_S_openAsCopy_h10, if_neg c14, if_pos c22]]
        exact ih (i + 1) k hk q hq (x2 + 1) V _ _ _ (by rw [ek]; exact nI_1 i) (by omega) (by omega) hP hS (lv_sub hl [1, 2, 0] rfl)
      · refine lv_aload_n S.1 S.2.1 d_S_openAsCopy_25 rfl (lv_at hl 0 rfl) ?_
        refine lv_aload_n S.1 S.2.1 d_S_openAsCopy_26 rfl (lv_at hl 1 rfl) ?_
        refine lv_iload_n S.1 S.2.1 d_S_openAsCopy_27 rfl (lv_at hl 2 rfl) ?_
        refine x_callVv (As := [.ref (ad (6 + q)), .int x2]) (rest := []) S hK ci_S_46 (c_S_shareRegion l D ad n cI cS cQ hE V k hk q hq x2) (x_recS hK hP hk) hP hS ⟨rfl, rfl, Nat.le_of_ble_eq_true rfl, Nat.le_of_ble_eq_true rfl⟩ rfl hl.1 rfl (Nat.le_of_ble_eq_true rfl) d_S_openAsCopy_28 (fun H locs hP hS => ?_)
        refine lv_iinc (v := x2 + 1) (lv' := [(2, .int (x2 + 1)), (0, .ref (ad (6 + k))), (1, .ref (ad (6 + q)))]) S.1 S.2.1 d_S_openAsCopy_31 hl (k := 2) rfl rfl (by decide) rfl (fun ls hl => ?_)
        refine lv_goto (tgt := 10) S.1 S.2.1 d_S_openAsCopy_34 (by decide) ?_
        have hn9 := hE.2
        have hB := lp_lt (B := 256) (by decide) (by decide) ek hi c14
        rw [show j_S_openAsCopy_h10 n (f + 1) V k q x2 = j_S_openAsCopy_h10 n f (j_S_shareRegion n V k q x2) k q (x2 + 1) from by rw [j_S_openAsCopy_h10, if_neg c14, if_neg c22]]
        exact ih (i + 1) k hk q hq (x2 + 1) (j_S_shareRegion n V k q x2) _ _ _ (by rw [ek]; exact nI_1 i) (by omega) (by omega) hP hS (lv_sub hl [1, 2, 0] rfl)
end XW
end
section
section XW
variable (l : Launch) (D : va_G) (ad : Nat → Nat) (n : Nat) (cI cS cQ : ClassId)
/-- PageVault$Space.openAsCopy(LPageVault$Space;)V -/
def j_S_openAsCopy (n : Nat) (V : VS) (k : Nat) (q : Nat) : VS :=
  j_S_openAsCopy_h10 n 257 (j_S_open n V k (v_len V q)) k q 0
set_option maxHeartbeats 4000000 in
set_option maxRecDepth 100000 in
theorem c_S_openAsCopy (hE : xE ad n) (V : VS) (k : Nat) (hk : k < 16) (q : Nat) (hq : q < 16) : XC l D ad n cI cS cQ y_S_openAsCopy b_S_openAsCopy 3 none ({ frames := 4, cells := 0, slots := 0, locals := 107 }) [.ref (ad (6 + k)), .ref (ad (6 + q))] V none (j_S_openAsCopy n V k q) := by
  refine FC_intro (by decide) (Nat.le_of_ble_eq_true rfl) ?_
  intro p e s m below meth c ls S hr hlk hK hP hS hl
  have S : CallFix p m c b_S_openAsCopy 3 s _ TG "PageVault$Space" := S
  have hl : lv_has ls 3 [(0, .ref (ad (6 + k))), (1, .ref (ad (6 + q)))] := hl
  refine lv_aload_n S.1 S.2.1 d_S_openAsCopy_0 rfl (lv_at hl 0 rfl) ?_
  refine lv_aload_n S.1 S.2.1 d_S_openAsCopy_1 rfl (lv_at hl 1 rfl) ?_
  refine x_get_length S hK hP hq tg_30 d_S_openAsCopy_2 ?_
  refine x_callVv (As := [.int (v_len V q)]) (rest := []) S hK ci_S_39 (c_S_open l D ad n cI cS cQ hE V k hk (v_len V q)) (x_recS hK hP hk) hP hS ⟨rfl, rfl, Nat.le_of_ble_eq_true rfl, Nat.le_of_ble_eq_true rfl⟩ rfl hl.1 rfl (Nat.le_of_ble_eq_true rfl) d_S_openAsCopy_5 (fun H locs hP hS => ?_)
  refine lv_iconst (v := 0) S.1 S.2.1 d_S_openAsCopy_8 (by decide) ?_
  refine lv_istore_n (lv' := [(2, .int 0), (0, .ref (ad (6 + k))), (1, .ref (ad (6 + q)))]) S.1 S.2.1 d_S_openAsCopy_9 rfl hl (by decide) rfl (fun ls hl => ?_)
  rw [show j_S_openAsCopy n V k q = j_S_openAsCopy_h10 n 257 (j_S_open n V k (v_len V q)) k q 0 from by rw [j_S_openAsCopy]]
  exact w_S_openAsCopy_h10 l D ad n cI cS cQ hE S hr hlk hK 257 0 k hk q hq 0 (j_S_open n V k (v_len V q)) _ _ _ nI_0.symm (by decide) (by decide) hP hS (lv_sub hl [1, 2, 0] rfl)
/-- PageVault.fork(I)I -/
def j_V_fork (n : Nat) (V : VS) (a1 : Int32) : Int32 × VS :=
  oc (j_V_find V a1) (
    ((-1), V)) (fun k1 =>
    if (j_V_leastUnused V) = (-1) then
      ((-1), V)
    else
      if (j_S_framesOfCopy n V k1) ≤ (j_F_spare V) then
        (j_V_leastUnused V, j_S_openAsCopy n V ((j_V_leastUnused V).toNatClampNeg) k1)
      else
        ((-1), V))
set_option maxHeartbeats 4000000 in
set_option maxRecDepth 100000 in
theorem c_V_fork (hE : xE ad n) (V : VS) (a1 : Int32) : XC l D ad n cI cS cQ y_V_fork b_V_fork 4 (some .int) ({ frames := 5, cells := 0, slots := 0, locals := 129 }) [.ref (ad 0), .int a1] V (some (.int (j_V_fork n V a1).1)) ((j_V_fork n V a1).2) := by
  refine FC_intro (by decide) (Nat.le_of_ble_eq_true rfl) ?_
  intro p e s m below meth c ls S hr hlk hK hP hS hl
  have S : CallFix p m c b_V_fork 4 s _ TG "PageVault" := S
  have hl : lv_has ls 4 [(0, .ref (ad 0)), (1, .int a1)] := hl
  refine lv_aload_n S.1 S.2.1 d_V_fork_0 rfl (lv_at hl 0 rfl) ?_
  refine lv_iload_n S.1 S.2.1 d_V_fork_1 rfl (lv_at hl 1 rfl) ?_
  refine x_callVq (As := [.int a1]) (rest := []) S hK ci_V_50 (c_V_find l D ad n cI cS cQ hE V a1) (x_recV hK hP) hP hS ⟨rfl, rfl, Nat.le_of_ble_eq_true rfl, Nat.le_of_ble_eq_true rfl⟩ rfl hl.1 rfl (Nat.le_of_ble_eq_true rfl) d_V_fork_2 (fun hk1 H locs hP hS => ?_) (fun k1 hk1 H locs hP hS => ?_)
  · refine lv_astore_nN (lv' := [(2, .null), (0, .ref (ad 0)), (1, .int a1)]) S.1 S.2.1 d_V_fork_5 rfl hl (by decide) rfl (fun ls hl => ?_)
    refine lv_aload_n S.1 S.2.1 d_V_fork_6 rfl (lv_at hl 1 rfl) ?_
    refine x_callVi (As := []) (rest := []) S hK ci_V_40 (c_V_leastUnused l D ad n cI cS cQ hE V) (x_recV hK hP) hP hS ⟨rfl, rfl, Nat.le_of_ble_eq_true rfl, Nat.le_of_ble_eq_true rfl⟩ rfl hl.1 rfl (Nat.le_of_ble_eq_true rfl) d_V_fork_7 (fun H locs hP hS => ?_)
    refine lv_istore_n (lv' := [(3, .int (j_V_leastUnused V)), (2, .null), (0, .ref (ad 0)), (1, .int a1)]) S.1 S.2.1 d_V_fork_10 rfl hl (by decide) rfl (fun ls hl => ?_)
    refine lv_aload_nN S.1 S.2.1 d_V_fork_11 rfl (lv_at hl 1 rfl) ?_
    refine lv_ifnullN (tgt := 34) S.1 S.2.1 d_V_fork_12 (by decide) ?_
    refine lv_iconst (v := (-1)) S.1 S.2.1 d_V_fork_34 (by decide) ?_
    rw [show j_V_fork n V a1 = ((-1), V) from by rw [j_V_fork, oc_none hk1]]
    exact x_iret S hr hlk hP hS d_V_fork_35
  · refine lv_astore_n (lv' := [(2, .ref (ad (6 + k1))), (0, .ref (ad 0)), (1, .int a1)]) S.1 S.2.1 d_V_fork_5 rfl hl (by decide) rfl (fun ls hl => ?_)
    refine lv_aload_n S.1 S.2.1 d_V_fork_6 rfl (lv_at hl 1 rfl) ?_
    refine x_callVi (As := []) (rest := []) S hK ci_V_40 (c_V_leastUnused l D ad n cI cS cQ hE V) (x_recV hK hP) hP hS ⟨rfl, rfl, Nat.le_of_ble_eq_true rfl, Nat.le_of_ble_eq_true rfl⟩ rfl hl.1 rfl (Nat.le_of_ble_eq_true rfl) d_V_fork_7 (fun H locs hP hS => ?_)
    refine lv_istore_n (lv' := [(3, .int (j_V_leastUnused V)), (2, .ref (ad (6 + k1))), (0, .ref (ad 0)), (1, .int a1)]) S.1 S.2.1 d_V_fork_10 rfl hl (by decide) rfl (fun ls hl => ?_)
    refine lv_aload_n S.1 S.2.1 d_V_fork_11 rfl (lv_at hl 1 rfl) ?_
    refine lv_ifnull S.1 S.2.1 d_V_fork_12 ?_
    refine lv_iload_n S.1 S.2.1 d_V_fork_15 rfl (lv_at hl 0 rfl) ?_
    refine lv_iconst (v := (-1)) S.1 S.2.1 d_V_fork_16 (by decide) ?_
    refine lv_icmp_eq (tgt := 34) S.1 S.2.1 d_V_fork_17 (by decide) (fun c17 => ?_) (fun c17 => ?_)
    · refine lv_iconst (v := (-1)) S.1 S.2.1 d_V_fork_34 (by decide) ?_
      rw [show j_V_fork n V a1 = ((-1), V) from by rw [j_V_fork, oc_some hk1, if_pos c17]]
      exact x_iret S hr hlk hP hS d_V_fork_35
    · refine lv_aload_n S.1 S.2.1 d_V_fork_20 rfl (lv_at hl 2 rfl) ?_
      refine x_get_frames S hK hP tg_12 d_V_fork_21 ?_
      refine x_callVi (As := []) (rest := []) S hK ci_V_44 (c_F_spare l D ad n cI cS cQ hE V) (x_recF hK hP) hP hS ⟨rfl, rfl, Nat.le_of_ble_eq_true rfl, Nat.le_of_ble_eq_true rfl⟩ rfl hl.1 rfl (Nat.le_of_ble_eq_true rfl) d_V_fork_24 (fun H locs hP hS => ?_)
      refine lv_aload_n S.1 S.2.1 d_V_fork_27 rfl (lv_at hl 1 rfl) ?_
      refine x_callVi (As := []) (rest := [.int (j_F_spare V)]) S hK ci_V_57 (c_S_framesOfCopy l D ad n cI cS cQ hE V k1 (find_lt hk1)) (x_recS hK hP (find_lt hk1)) hP hS ⟨rfl, rfl, Nat.le_of_ble_eq_true rfl, Nat.le_of_ble_eq_true rfl⟩ rfl hl.1 rfl (Nat.le_of_ble_eq_true rfl) d_V_fork_28 (fun H locs hP hS => ?_)
      refine lv_icmp_ge (tgt := 36) S.1 S.2.1 d_V_fork_31 (by decide) (fun c31 => ?_) (fun c31 => ?_)
      · refine lv_aload_n S.1 S.2.1 d_V_fork_36 rfl (lv_at hl 2 rfl) ?_
        refine x_get_spaces S hK hP tg_0 d_V_fork_37 ?_
        refine lv_iload_n S.1 S.2.1 d_V_fork_40 rfl (lv_at hl 0 rfl) ?_
        refine x_ald_spaces S hK hP (lu_in c17) d_V_fork_41 ?_
        refine lv_aload_n S.1 S.2.1 d_V_fork_42 rfl (lv_at hl 1 rfl) ?_
        refine x_callVv (As := [.ref (ad (6 + k1))]) (rest := []) S hK ci_V_60 (c_S_openAsCopy l D ad n cI cS cQ hE V ((j_V_leastUnused V).toNatClampNeg) (vin_lt (lu_in c17)) k1 (find_lt hk1)) (x_recS hK hP (vin_lt (lu_in c17))) hP hS ⟨rfl, rfl, Nat.le_of_ble_eq_true rfl, Nat.le_of_ble_eq_true rfl⟩ rfl hl.1 rfl (Nat.le_of_ble_eq_true rfl) d_V_fork_43 (fun H locs hP hS => ?_)
        refine lv_iload_n S.1 S.2.1 d_V_fork_46 rfl (lv_at hl 0 rfl) ?_
        rw [show j_V_fork n V a1 = (j_V_leastUnused V, j_S_openAsCopy n V ((j_V_leastUnused V).toNatClampNeg) k1) from by rw [j_V_fork, oc_some hk1, if_neg c17, if_pos c31]]
        exact x_iret S hr hlk hP hS d_V_fork_47
      · refine lv_iconst (v := (-1)) S.1 S.2.1 d_V_fork_34 (by decide) ?_
        rw [show j_V_fork n V a1 = ((-1), V) from by rw [j_V_fork, oc_some hk1, if_neg c17, if_neg c31]]
        exact x_iret S hr hlk hP hS d_V_fork_35
/-- PageVault.isUsers(I)Z -/
def j_V_isUsers (a0 : Int32) : Int32 :=
  if a0 < 0 then
    0
  else
    if 1073741824 ≤ a0 then
      0
    else
      1
set_option maxHeartbeats 4000000 in
set_option maxRecDepth 100000 in
theorem c_V_isUsers (hE : xE ad n) (V : VS) (a0 : Int32) : XC l D ad n cI cS cQ y_V_isUsers b_V_isUsers 1 (some .boolean) ({ frames := 0, cells := 0, slots := 0, locals := 0 }) [.int a0] V (some (.int (j_V_isUsers a0))) (V) := by
  refine FC_intro (by decide) (Nat.le_of_ble_eq_true rfl) ?_
  intro p e s m below meth c ls S hr hlk hK hP hS hl
  have S : CallFix p m c b_V_isUsers 1 s _ TG "PageVault" := S
  have hl : lv_has ls 1 [(0, .int a0)] := hl
  refine lv_iload_n S.1 S.2.1 d_V_isUsers_0 rfl (lv_at hl 0 rfl) ?_
  refine lv_if_lt (tgt := 14) S.1 S.2.1 d_V_isUsers_1 (by decide) (fun c1 => ?_) (fun c1 => ?_)
  · refine lv_iconst (v := 0) S.1 S.2.1 d_V_isUsers_14 (by decide) ?_
    rw [show j_V_isUsers a0 = 0 from by rw [j_V_isUsers, if_pos c1]]
    exact x_zret (v := 0) S hr hlk rfl hP hS d_V_isUsers_15
  · refine lv_iload_n S.1 S.2.1 d_V_isUsers_4 rfl (lv_at hl 0 rfl) ?_
    refine lv_ldc (v := 1073741824) S.1 S.2.1 S.2.2.2.1 (S.2.2.2.2 _ tg_104) d_V_isUsers_5 ?_
    refine lv_icmp_ge (tgt := 14) S.1 S.2.1 d_V_isUsers_7 (by decide) (fun c7 => ?_) (fun c7 => ?_)
    · refine lv_iconst (v := 0) S.1 S.2.1 d_V_isUsers_14 (by decide) ?_
      rw [show j_V_isUsers a0 = 0 from by rw [j_V_isUsers, if_neg c1, if_pos c7]]
      exact x_zret (v := 0) S hr hlk rfl hP hS d_V_isUsers_15
    · refine lv_iconst (v := 1) S.1 S.2.1 d_V_isUsers_10 (by decide) ?_
      refine lv_goto (tgt := 15) S.1 S.2.1 d_V_isUsers_11 (by decide) ?_
      rw [show j_V_isUsers a0 = 1 from by rw [j_V_isUsers, if_neg c1, if_neg c7]]
      exact x_zret (v := 1) S hr hlk rfl hP hS d_V_isUsers_15
/-- PageVault.beginsPage(I)Z -/
def j_V_beginsPage (a0 : Int32) : Int32 :=
  if (j_V_isUsers a0) = 0 then
    0
  else
    if (a0 - a0 / 4096 * 4096) = 0 then
      1
    else
      0
set_option maxHeartbeats 4000000 in
set_option maxRecDepth 100000 in
theorem c_V_beginsPage (hE : xE ad n) (V : VS) (a0 : Int32) : XC l D ad n cI cS cQ y_V_beginsPage b_V_beginsPage 1 (some .boolean) ({ frames := 1, cells := 0, slots := 0, locals := 20 }) [.int a0] V (some (.int (j_V_beginsPage a0))) (V) := by
  refine FC_intro (by decide) (Nat.le_of_ble_eq_true rfl) ?_
  intro p e s m below meth c ls S hr hlk hK hP hS hl
  have S : CallFix p m c b_V_beginsPage 1 s _ TG "PageVault" := S
  have hl : lv_has ls 1 [(0, .int a0)] := hl
  refine lv_iload_n S.1 S.2.1 d_V_beginsPage_0 rfl (lv_at hl 0 rfl) ?_
  refine x_callSi (As := [.int a0]) (rest := []) S hK ci_V_135 (c_V_isUsers l D ad n cI cS cQ hE V a0) hP hS ⟨rfl, rfl, Nat.le_of_ble_eq_true rfl, Nat.le_of_ble_eq_true rfl⟩ rfl hl.1 rfl (Nat.le_of_ble_eq_true rfl) d_V_beginsPage_1 (fun H locs hP hS => ?_)
  refine lv_if_eq (tgt := 19) S.1 S.2.1 d_V_beginsPage_4 (by decide) (fun c4 => ?_) (fun c4 => ?_)
  · refine lv_iconst (v := 0) S.1 S.2.1 d_V_beginsPage_19 (by decide) ?_
    rw [show j_V_beginsPage a0 = 0 from by rw [j_V_beginsPage, if_pos c4]]
    exact x_zret (v := 0) S hr hlk rfl hP hS d_V_beginsPage_20
  · refine lv_iload_n S.1 S.2.1 d_V_beginsPage_7 rfl (lv_at hl 0 rfl) ?_
    refine lv_sipush (v := 4096) S.1 S.2.1 d_V_beginsPage_8 (by decide) ?_
    refine lv_irem S.1 S.2.1 d_V_beginsPage_11 (by decide) ?_
    refine lv_if_ne (tgt := 19) S.1 S.2.1 d_V_beginsPage_12 (by decide) (fun c12 => ?_) (fun c12 => ?_)
    · refine lv_iconst (v := 0) S.1 S.2.1 d_V_beginsPage_19 (by decide) ?_
      rw [show j_V_beginsPage a0 = 0 from by rw [j_V_beginsPage, if_neg c4, if_neg c12]]
      exact x_zret (v := 0) S hr hlk rfl hP hS d_V_beginsPage_20
    · refine lv_iconst (v := 1) S.1 S.2.1 d_V_beginsPage_15 (by decide) ?_
      refine lv_goto (tgt := 20) S.1 S.2.1 d_V_beginsPage_16 (by decide) ?_
      rw [show j_V_beginsPage a0 = 1 from by rw [j_V_beginsPage, if_neg c4, if_pos c12]]
      exact x_zret (v := 1) S hr hlk rfl hP hS d_V_beginsPage_20
/-- PageVault.areFlags(I)Z -/
def j_V_areFlags (a0 : Int32) : Int32 :=
  if a0 < 0 then
    0
  else
    if 15 < a0 then
      0
    else
      1
set_option maxHeartbeats 4000000 in
set_option maxRecDepth 100000 in
theorem c_V_areFlags (hE : xE ad n) (V : VS) (a0 : Int32) : XC l D ad n cI cS cQ y_V_areFlags b_V_areFlags 1 (some .boolean) ({ frames := 0, cells := 0, slots := 0, locals := 0 }) [.int a0] V (some (.int (j_V_areFlags a0))) (V) := by
  refine FC_intro (by decide) (Nat.le_of_ble_eq_true rfl) ?_
  intro p e s m below meth c ls S hr hlk hK hP hS hl
  have S : CallFix p m c b_V_areFlags 1 s _ TG "PageVault" := S
  have hl : lv_has ls 1 [(0, .int a0)] := hl
  refine lv_iload_n S.1 S.2.1 d_V_areFlags_0 rfl (lv_at hl 0 rfl) ?_
  refine lv_if_lt (tgt := 14) S.1 S.2.1 d_V_areFlags_1 (by decide) (fun c1 => ?_) (fun c1 => ?_)
  · refine lv_iconst (v := 0) S.1 S.2.1 d_V_areFlags_14 (by decide) ?_
    rw [show j_V_areFlags a0 = 0 from by rw [j_V_areFlags, if_pos c1]]
    exact x_zret (v := 0) S hr hlk rfl hP hS d_V_areFlags_15
  · refine lv_iload_n S.1 S.2.1 d_V_areFlags_4 rfl (lv_at hl 0 rfl) ?_
    refine lv_bipush (v := 15) S.1 S.2.1 d_V_areFlags_5 (by decide) ?_
    refine lv_icmp_gt (tgt := 14) S.1 S.2.1 d_V_areFlags_7 (by decide) (fun c7 => ?_) (fun c7 => ?_)
    · refine lv_iconst (v := 0) S.1 S.2.1 d_V_areFlags_14 (by decide) ?_
      rw [show j_V_areFlags a0 = 0 from by rw [j_V_areFlags, if_neg c1, if_pos c7]]
      exact x_zret (v := 0) S hr hlk rfl hP hS d_V_areFlags_15
    · refine lv_iconst (v := 1) S.1 S.2.1 d_V_areFlags_10 (by decide) ?_
      refine lv_goto (tgt := 15) S.1 S.2.1 d_V_areFlags_11 (by decide) ?_
      rw [show j_V_areFlags a0 = 1 from by rw [j_V_areFlags, if_neg c1, if_neg c7]]
      exact x_zret (v := 1) S hr hlk rfl hP hS d_V_areFlags_15
/-- PageVault$Space.slotOf(I)I -/
def j_S_slotOf (a0 : Int32) : Int32 :=
  (ju a0 12) &&& 1023
set_option maxHeartbeats 4000000 in
set_option maxRecDepth 100000 in
theorem c_S_slotOf (hE : xE ad n) (V : VS) (a0 : Int32) : XC l D ad n cI cS cQ y_S_slotOf b_S_slotOf 1 (some .int) ({ frames := 0, cells := 0, slots := 0, locals := 0 }) [.int a0] V (some (.int (j_S_slotOf a0))) (V) := by
  refine FC_intro (by decide) (Nat.le_of_ble_eq_true rfl) ?_
  intro p e s m below meth c ls S hr hlk hK hP hS hl
  have S : CallFix p m c b_S_slotOf 1 s _ TG "PageVault$Space" := S
  have hl : lv_has ls 1 [(0, .int a0)] := hl
  refine lv_iload_n S.1 S.2.1 d_S_slotOf_0 rfl (lv_at hl 0 rfl) ?_
  refine lv_bipush (v := 12) S.1 S.2.1 d_S_slotOf_1 (by decide) ?_
  refine lv_iushr (v := ju a0 12) S.1 S.2.1 d_S_slotOf_3 rfl ?_
  refine lv_sipush (v := 1023) S.1 S.2.1 d_S_slotOf_4 (by decide) ?_
  refine lv_iand S.1 S.2.1 d_S_slotOf_7 ?_
  rw [show j_S_slotOf a0 = (ju a0 12) &&& 1023 from by rw [j_S_slotOf]]
  exact x_iret S hr hlk hP hS d_S_slotOf_8
/-- PageVault$Space.entryAt(I)I -/
def j_S_entryAt (n : Nat) (V : VS) (k : Nat) (a1 : Int32) : Int32 :=
  j_F_word n V (j_S_tableOf n V k (ju a1 22)) (j_S_slotOf a1)
set_option maxHeartbeats 4000000 in
set_option maxRecDepth 100000 in
theorem c_S_entryAt (hE : xE ad n) (V : VS) (k : Nat) (hk : k < 16) (a1 : Int32) : XC l D ad n cI cS cQ y_S_entryAt b_S_entryAt 2 (some .int) ({ frames := 2, cells := 0, slots := 0, locals := 43 }) [.ref (ad (6 + k)), .int a1] V (some (.int (j_S_entryAt n V k a1))) (V) := by
  refine FC_intro (by decide) (Nat.le_of_ble_eq_true rfl) ?_
  intro p e s m below meth c ls S hr hlk hK hP hS hl
  have S : CallFix p m c b_S_entryAt 2 s _ TG "PageVault$Space" := S
  have hl : lv_has ls 2 [(0, .ref (ad (6 + k))), (1, .int a1)] := hl
  refine lv_aload_n S.1 S.2.1 d_S_entryAt_0 rfl (lv_at hl 0 rfl) ?_
  refine x_get_sframes S hK hP hk tg_19 d_S_entryAt_1 ?_
  refine lv_aload_n S.1 S.2.1 d_S_entryAt_4 rfl (lv_at hl 0 rfl) ?_
  refine lv_iload_n S.1 S.2.1 d_S_entryAt_5 rfl (lv_at hl 1 rfl) ?_
  refine lv_bipush (v := 22) S.1 S.2.1 d_S_entryAt_6 (by decide) ?_
  refine lv_iushr (v := ju a1 22) S.1 S.2.1 d_S_entryAt_8 rfl ?_
  refine x_callVi (As := [.int (ju a1 22)]) (rest := [.ref (ad 1)]) S hK ci_S_32 (c_S_tableOf l D ad n cI cS cQ hE V k hk (ju a1 22)) (x_recS hK hP hk) hP hS ⟨rfl, rfl, Nat.le_of_ble_eq_true rfl, Nat.le_of_ble_eq_true rfl⟩ rfl hl.1 rfl (Nat.le_of_ble_eq_true rfl) d_S_entryAt_9 (fun H locs hP hS => ?_)
  refine lv_iload_n S.1 S.2.1 d_S_entryAt_12 rfl (lv_at hl 1 rfl) ?_
  refine x_callSi (As := [.int a1]) (rest := [.int (j_S_tableOf n V k (ju a1 22)), .ref (ad 1)]) S hK ci_S_56 (c_S_slotOf l D ad n cI cS cQ hE V a1) hP hS ⟨rfl, rfl, Nat.le_of_ble_eq_true rfl, Nat.le_of_ble_eq_true rfl⟩ rfl hl.1 rfl (Nat.le_of_ble_eq_true rfl) d_S_entryAt_13 (fun H locs hP hS => ?_)
  refine x_callVi (As := [.int (j_S_tableOf n V k (ju a1 22)), .int (j_S_slotOf a1)]) (rest := []) S hK ci_S_59 (c_F_word l D ad n cI cS cQ hE V (j_S_tableOf n V k (ju a1 22)) (j_S_slotOf a1)) (x_recF hK hP) hP hS ⟨rfl, rfl, Nat.le_of_ble_eq_true rfl, Nat.le_of_ble_eq_true rfl⟩ rfl hl.1 rfl (Nat.le_of_ble_eq_true rfl) d_S_entryAt_16 (fun H locs hP hS => ?_)
  rw [show j_S_entryAt n V k a1 = j_F_word n V (j_S_tableOf n V k (ju a1 22)) (j_S_slotOf a1) from by rw [j_S_entryAt]]
  exact x_iret S hr hlk hP hS d_S_entryAt_19
/-- PageVault$Space.addPage(II)I -/
def j_S_addPage (n : Nat) (V : VS) (k : Nat) (a1 : Int32) (a2 : Int32) : Int32 × VS :=
  if (j_S_tableOf n V k (ju a1 22)) = (-1) then
    if 2 ≤ (j_F_spare V) then
      if (j_S_tableOf n V k (ju a1 22)) = (-1) then
        ((j_F_take n ((j_S_addTable n V k (ju a1 22)).2)).1, j_F_setWord n ((j_F_take n ((j_S_addTable n V k (ju a1 22)).2)).2) ((j_S_addTable n V k (ju a1 22)).1) (j_S_slotOf a1) (j_V_entryOf ((j_F_take n ((j_S_addTable n V k (ju a1 22)).2)).1) a2))
      else
        ((j_F_take n V).1, j_F_setWord n ((j_F_take n V).2) (j_S_tableOf n V k (ju a1 22)) (j_S_slotOf a1) (j_V_entryOf ((j_F_take n V).1) a2))
    else
      ((-1), V)
  else
    if 1 ≤ (j_F_spare V) then
      if (j_S_tableOf n V k (ju a1 22)) = (-1) then
        ((j_F_take n ((j_S_addTable n V k (ju a1 22)).2)).1, j_F_setWord n ((j_F_take n ((j_S_addTable n V k (ju a1 22)).2)).2) ((j_S_addTable n V k (ju a1 22)).1) (j_S_slotOf a1) (j_V_entryOf ((j_F_take n ((j_S_addTable n V k (ju a1 22)).2)).1) a2))
      else
        ((j_F_take n V).1, j_F_setWord n ((j_F_take n V).2) (j_S_tableOf n V k (ju a1 22)) (j_S_slotOf a1) (j_V_entryOf ((j_F_take n V).1) a2))
    else
      ((-1), V)
set_option maxHeartbeats 4000000 in
set_option maxRecDepth 100000 in
theorem c_S_addPage (hE : xE ad n) (V : VS) (k : Nat) (hk : k < 16) (a1 : Int32) (a2 : Int32) : XC l D ad n cI cS cQ y_S_addPage b_S_addPage 6 (some .int) ({ frames := 3, cells := 0, slots := 0, locals := 83 }) [.ref (ad (6 + k)), .int a1, .int a2] V (some (.int (j_S_addPage n V k a1 a2).1)) ((j_S_addPage n V k a1 a2).2) := by
  refine FC_intro (by decide) (Nat.le_of_ble_eq_true rfl) ?_
  intro p e s m below meth c ls S hr hlk hK hP hS hl
  have S : CallFix p m c b_S_addPage 6 s _ TG "PageVault$Space" := S
  have hl : lv_has ls 6 [(0, .ref (ad (6 + k))), (1, .int a1), (2, .int a2)] := hl
  refine lv_iload_n S.1 S.2.1 d_S_addPage_0 rfl (lv_at hl 1 rfl) ?_
  refine lv_bipush (v := 22) S.1 S.2.1 d_S_addPage_1 (by decide) ?_
  refine lv_iushr (v := ju a1 22) S.1 S.2.1 d_S_addPage_3 rfl ?_
  refine lv_istore_n (lv' := [(3, .int (ju a1 22)), (0, .ref (ad (6 + k))), (1, .int a1), (2, .int a2)]) S.1 S.2.1 d_S_addPage_4 rfl hl (by decide) rfl (fun ls hl => ?_)
  refine lv_aload_n S.1 S.2.1 d_S_addPage_5 rfl (lv_at hl 1 rfl) ?_
  refine lv_iload_n S.1 S.2.1 d_S_addPage_6 rfl (lv_at hl 0 rfl) ?_
  refine x_callVi (As := [.int (ju a1 22)]) (rest := []) S hK ci_S_32 (c_S_tableOf l D ad n cI cS cQ hE V k hk (ju a1 22)) (x_recS hK hP hk) hP hS ⟨rfl, rfl, Nat.le_of_ble_eq_true rfl, Nat.le_of_ble_eq_true rfl⟩ rfl hl.1 rfl (Nat.le_of_ble_eq_true rfl) d_S_addPage_7 (fun H locs hP hS => ?_)
  refine lv_istore (lv' := [(4, .int (j_S_tableOf n V k (ju a1 22))), (3, .int (ju a1 22)), (0, .ref (ad (6 + k))), (1, .int a1), (2, .int a2)]) S.1 S.2.1 d_S_addPage_10 hl (by decide) rfl (fun ls hl => ?_)
  refine lv_aload_n S.1 S.2.1 d_S_addPage_12 rfl (lv_at hl 2 rfl) ?_
  refine x_get_sframes S hK hP hk tg_19 d_S_addPage_13 ?_
  refine x_callVi (As := []) (rest := []) S hK ci_S_66 (c_F_spare l D ad n cI cS cQ hE V) (x_recF hK hP) hP hS ⟨rfl, rfl, Nat.le_of_ble_eq_true rfl, Nat.le_of_ble_eq_true rfl⟩ rfl hl.1 rfl (Nat.le_of_ble_eq_true rfl) d_S_addPage_16 (fun H locs hP hS => ?_)
  refine lv_iload S.1 S.2.1 d_S_addPage_19 (lv_at hl 0 rfl) ?_
  refine lv_iconst (v := (-1)) S.1 S.2.1 d_S_addPage_21 (by decide) ?_
  refine lv_icmp_ne (tgt := 29) S.1 S.2.1 d_S_addPage_22 (by decide) (fun c22 => ?_) (fun c22 => ?_)
  · refine lv_iconst (v := 1) S.1 S.2.1 d_S_addPage_29 (by decide) ?_
    refine lv_icmp_ge (tgt := 35) S.1 S.2.1 d_S_addPage_30 (by decide) (fun c30 => ?_) (fun c30 => ?_)
    · refine lv_iload S.1 S.2.1 d_S_addPage_35 (lv_at hl 0 rfl) ?_
      refine lv_iconst (v := (-1)) S.1 S.2.1 d_S_addPage_37 (by decide) ?_
      refine lv_icmp_ne (tgt := 48) S.1 S.2.1 d_S_addPage_38 (by decide) (fun c38 => ?_) (fun c38 => ?_)
      · refine lv_aload_n S.1 S.2.1 d_S_addPage_48 rfl (lv_at hl 2 rfl) ?_
        refine x_get_sframes S hK hP hk tg_19 d_S_addPage_49 ?_
        refine x_callVi (As := []) (rest := []) S hK ci_S_22 (c_F_take l D ad n cI cS cQ hE V) (x_recF hK hP) hP hS ⟨rfl, rfl, Nat.le_of_ble_eq_true rfl, Nat.le_of_ble_eq_true rfl⟩ rfl hl.1 rfl (Nat.le_of_ble_eq_true rfl) d_S_addPage_52 (fun H locs hP hS => ?_)
        refine lv_istore (lv' := [(5, .int ((j_F_take n V).1)), (4, .int (j_S_tableOf n V k (ju a1 22))), (3, .int (ju a1 22)), (0, .ref (ad (6 + k))), (1, .int a1), (2, .int a2)]) S.1 S.2.1 d_S_addPage_55 hl (by decide) rfl (fun ls hl => ?_)
        refine lv_aload_n S.1 S.2.1 d_S_addPage_57 rfl (lv_at hl 3 rfl) ?_
        refine x_get_sframes S hK hP hk tg_19 d_S_addPage_58 ?_
        refine lv_iload S.1 S.2.1 d_S_addPage_61 (lv_at hl 1 rfl) ?_
        refine lv_iload_n S.1 S.2.1 d_S_addPage_63 rfl (lv_at hl 4 rfl) ?_
        refine x_callSi (As := [.int a1]) (rest := [.int (j_S_tableOf n V k (ju a1 22)), .ref (ad 1)]) S hK ci_S_56 (c_S_slotOf l D ad n cI cS cQ hE ((j_F_take n V).2) a1) hP hS ⟨rfl, rfl, Nat.le_of_ble_eq_true rfl, Nat.le_of_ble_eq_true rfl⟩ rfl hl.1 rfl (Nat.le_of_ble_eq_true rfl) d_S_addPage_64 (fun H locs hP hS => ?_)
        refine lv_iload S.1 S.2.1 d_S_addPage_67 (lv_at hl 0 rfl) ?_
        refine lv_iload_n S.1 S.2.1 d_S_addPage_69 rfl (lv_at hl 5 rfl) ?_
        refine x_callNi (As := [.int ((j_F_take n V).1), .int a2]) (rest := [.int (j_S_slotOf a1), .int (j_S_tableOf n V k (ju a1 22)), .ref (ad 1)]) S hK ci_S_72 (hK.2 _ nl_1) (c_V_entryOf l D ad n cI cS cQ hE ((j_F_take n V).2) ((j_F_take n V).1) a2) hP hS ⟨rfl, rfl, Nat.le_of_ble_eq_true rfl, Nat.le_of_ble_eq_true rfl⟩ rfl hl.1 rfl (Nat.le_of_ble_eq_true rfl) d_S_addPage_70 (fun H locs hP hS => ?_)
        refine x_callVv (As := [.int (j_S_tableOf n V k (ju a1 22)), .int (j_S_slotOf a1), .int (j_V_entryOf ((j_F_take n V).1) a2)]) (rest := []) S hK ci_S_62 (c_F_setWord l D ad n cI cS cQ hE ((j_F_take n V).2) (j_S_tableOf n V k (ju a1 22)) (j_S_slotOf a1) (j_V_entryOf ((j_F_take n V).1) a2)) (x_recF hK hP) hP hS ⟨rfl, rfl, Nat.le_of_ble_eq_true rfl, Nat.le_of_ble_eq_true rfl⟩ rfl hl.1 rfl (Nat.le_of_ble_eq_true rfl) d_S_addPage_73 (fun H locs hP hS => ?_)
        refine lv_iload S.1 S.2.1 d_S_addPage_76 (lv_at hl 0 rfl) ?_
        rw [show j_S_addPage n V k a1 a2 = ((j_F_take n V).1, j_F_setWord n ((j_F_take n V).2) (j_S_tableOf n V k (ju a1 22)) (j_S_slotOf a1) (j_V_entryOf ((j_F_take n V).1) a2)) from by rw [j_S_addPage, if_neg c22, if_pos c30, if_neg c38]]
        exact x_iret S hr hlk hP hS d_S_addPage_78
      · refine lv_aload_n S.1 S.2.1 d_S_addPage_41 rfl (lv_at hl 2 rfl) ?_
        refine lv_iload_n S.1 S.2.1 d_S_addPage_42 rfl (lv_at hl 1 rfl) ?_
        refine x_callVi (As := [.int (ju a1 22)]) (rest := []) S hK ci_S_69 (c_S_addTable l D ad n cI cS cQ hE V k hk (ju a1 22)) (x_recS hK hP hk) hP hS ⟨rfl, rfl, Nat.le_of_ble_eq_true rfl, Nat.le_of_ble_eq_true rfl⟩ rfl hl.1 rfl (Nat.le_of_ble_eq_true rfl) d_S_addPage_43 (fun H locs hP hS => ?_)
        refine lv_istore (lv' := [(4, .int ((j_S_addTable n V k (ju a1 22)).1)), (3, .int (ju a1 22)), (0, .ref (ad (6 + k))), (1, .int a1), (2, .int a2)]) S.1 S.2.1 d_S_addPage_46 hl (by decide) rfl (fun ls hl => ?_)
        refine lv_aload_n S.1 S.2.1 d_S_addPage_48 rfl (lv_at hl 2 rfl) ?_
        refine x_get_sframes S hK hP hk tg_19 d_S_addPage_49 ?_
        refine x_callVi (As := []) (rest := []) S hK ci_S_22 (c_F_take l D ad n cI cS cQ hE ((j_S_addTable n V k (ju a1 22)).2)) (x_recF hK hP) hP hS ⟨rfl, rfl, Nat.le_of_ble_eq_true rfl, Nat.le_of_ble_eq_true rfl⟩ rfl hl.1 rfl (Nat.le_of_ble_eq_true rfl) d_S_addPage_52 (fun H locs hP hS => ?_)
        refine lv_istore (lv' := [(5, .int ((j_F_take n ((j_S_addTable n V k (ju a1 22)).2)).1)), (4, .int ((j_S_addTable n V k (ju a1 22)).1)), (3, .int (ju a1 22)), (0, .ref (ad (6 + k))), (1, .int a1), (2, .int a2)]) S.1 S.2.1 d_S_addPage_55 hl (by decide) rfl (fun ls hl => ?_)
        refine lv_aload_n S.1 S.2.1 d_S_addPage_57 rfl (lv_at hl 3 rfl) ?_
        refine x_get_sframes S hK hP hk tg_19 d_S_addPage_58 ?_
        refine lv_iload S.1 S.2.1 d_S_addPage_61 (lv_at hl 1 rfl) ?_
        refine lv_iload_n S.1 S.2.1 d_S_addPage_63 rfl (lv_at hl 4 rfl) ?_
        refine x_callSi (As := [.int a1]) (rest := [.int ((j_S_addTable n V k (ju a1 22)).1), .ref (ad 1)]) S hK ci_S_56 (c_S_slotOf l D ad n cI cS cQ hE ((j_F_take n ((j_S_addTable n V k (ju a1 22)).2)).2) a1) hP hS ⟨rfl, rfl, Nat.le_of_ble_eq_true rfl, Nat.le_of_ble_eq_true rfl⟩ rfl hl.1 rfl (Nat.le_of_ble_eq_true rfl) d_S_addPage_64 (fun H locs hP hS => ?_)
        refine lv_iload S.1 S.2.1 d_S_addPage_67 (lv_at hl 0 rfl) ?_
        refine lv_iload_n S.1 S.2.1 d_S_addPage_69 rfl (lv_at hl 5 rfl) ?_
        refine x_callNi (As := [.int ((j_F_take n ((j_S_addTable n V k (ju a1 22)).2)).1), .int a2]) (rest := [.int (j_S_slotOf a1), .int ((j_S_addTable n V k (ju a1 22)).1), .ref (ad 1)]) S hK ci_S_72 (hK.2 _ nl_1) (c_V_entryOf l D ad n cI cS cQ hE ((j_F_take n ((j_S_addTable n V k (ju a1 22)).2)).2) ((j_F_take n ((j_S_addTable n V k (ju a1 22)).2)).1) a2) hP hS ⟨rfl, rfl, Nat.le_of_ble_eq_true rfl, Nat.le_of_ble_eq_true rfl⟩ rfl hl.1 rfl (Nat.le_of_ble_eq_true rfl) d_S_addPage_70 (fun H locs hP hS => ?_)
        refine x_callVv (As := [.int ((j_S_addTable n V k (ju a1 22)).1), .int (j_S_slotOf a1), .int (j_V_entryOf ((j_F_take n ((j_S_addTable n V k (ju a1 22)).2)).1) a2)]) (rest := []) S hK ci_S_62 (c_F_setWord l D ad n cI cS cQ hE ((j_F_take n ((j_S_addTable n V k (ju a1 22)).2)).2) ((j_S_addTable n V k (ju a1 22)).1) (j_S_slotOf a1) (j_V_entryOf ((j_F_take n ((j_S_addTable n V k (ju a1 22)).2)).1) a2)) (x_recF hK hP) hP hS ⟨rfl, rfl, Nat.le_of_ble_eq_true rfl, Nat.le_of_ble_eq_true rfl⟩ rfl hl.1 rfl (Nat.le_of_ble_eq_true rfl) d_S_addPage_73 (fun H locs hP hS => ?_)
        refine lv_iload S.1 S.2.1 d_S_addPage_76 (lv_at hl 0 rfl) ?_
        rw [show j_S_addPage n V k a1 a2 = ((j_F_take n ((j_S_addTable n V k (ju a1 22)).2)).1, j_F_setWord n ((j_F_take n ((j_S_addTable n V k (ju a1 22)).2)).2) ((j_S_addTable n V k (ju a1 22)).1) (j_S_slotOf a1) (j_V_entryOf ((j_F_take n ((j_S_addTable n V k (ju a1 22)).2)).1) a2)) from by rw [j_S_addPage, if_neg c22, if_pos c30, if_pos c38]]
        exact x_iret S hr hlk hP hS d_S_addPage_78
    · refine lv_iconst (v := (-1)) S.1 S.2.1 d_S_addPage_33 (by decide) ?_
      rw [show j_S_addPage n V k a1 a2 = ((-1), V) from by rw [j_S_addPage, if_neg c22, if_neg c30]]
      exact x_iret S hr hlk hP hS d_S_addPage_34
  · refine lv_iconst (v := 2) S.1 S.2.1 d_S_addPage_25 (by decide) ?_
    refine lv_goto (tgt := 30) S.1 S.2.1 d_S_addPage_26 (by decide) ?_
    refine lv_icmp_ge (tgt := 35) S.1 S.2.1 d_S_addPage_30 (by decide) (fun c30 => ?_) (fun c30 => ?_)
    · refine lv_iload S.1 S.2.1 d_S_addPage_35 (lv_at hl 0 rfl) ?_
      refine lv_iconst (v := (-1)) S.1 S.2.1 d_S_addPage_37 (by decide) ?_
      refine lv_icmp_ne (tgt := 48) S.1 S.2.1 d_S_addPage_38 (by decide) (fun c38 => ?_) (fun c38 => ?_)
      · refine lv_aload_n S.1 S.2.1 d_S_addPage_48 rfl (lv_at hl 2 rfl) ?_
        refine x_get_sframes S hK hP hk tg_19 d_S_addPage_49 ?_
        refine x_callVi (As := []) (rest := []) S hK ci_S_22 (c_F_take l D ad n cI cS cQ hE V) (x_recF hK hP) hP hS ⟨rfl, rfl, Nat.le_of_ble_eq_true rfl, Nat.le_of_ble_eq_true rfl⟩ rfl hl.1 rfl (Nat.le_of_ble_eq_true rfl) d_S_addPage_52 (fun H locs hP hS => ?_)
        refine lv_istore (lv' := [(5, .int ((j_F_take n V).1)), (4, .int (j_S_tableOf n V k (ju a1 22))), (3, .int (ju a1 22)), (0, .ref (ad (6 + k))), (1, .int a1), (2, .int a2)]) S.1 S.2.1 d_S_addPage_55 hl (by decide) rfl (fun ls hl => ?_)
        refine lv_aload_n S.1 S.2.1 d_S_addPage_57 rfl (lv_at hl 3 rfl) ?_
        refine x_get_sframes S hK hP hk tg_19 d_S_addPage_58 ?_
        refine lv_iload S.1 S.2.1 d_S_addPage_61 (lv_at hl 1 rfl) ?_
        refine lv_iload_n S.1 S.2.1 d_S_addPage_63 rfl (lv_at hl 4 rfl) ?_
        refine x_callSi (As := [.int a1]) (rest := [.int (j_S_tableOf n V k (ju a1 22)), .ref (ad 1)]) S hK ci_S_56 (c_S_slotOf l D ad n cI cS cQ hE ((j_F_take n V).2) a1) hP hS ⟨rfl, rfl, Nat.le_of_ble_eq_true rfl, Nat.le_of_ble_eq_true rfl⟩ rfl hl.1 rfl (Nat.le_of_ble_eq_true rfl) d_S_addPage_64 (fun H locs hP hS => ?_)
        refine lv_iload S.1 S.2.1 d_S_addPage_67 (lv_at hl 0 rfl) ?_
        refine lv_iload_n S.1 S.2.1 d_S_addPage_69 rfl (lv_at hl 5 rfl) ?_
        refine x_callNi (As := [.int ((j_F_take n V).1), .int a2]) (rest := [.int (j_S_slotOf a1), .int (j_S_tableOf n V k (ju a1 22)), .ref (ad 1)]) S hK ci_S_72 (hK.2 _ nl_1) (c_V_entryOf l D ad n cI cS cQ hE ((j_F_take n V).2) ((j_F_take n V).1) a2) hP hS ⟨rfl, rfl, Nat.le_of_ble_eq_true rfl, Nat.le_of_ble_eq_true rfl⟩ rfl hl.1 rfl (Nat.le_of_ble_eq_true rfl) d_S_addPage_70 (fun H locs hP hS => ?_)
        refine x_callVv (As := [.int (j_S_tableOf n V k (ju a1 22)), .int (j_S_slotOf a1), .int (j_V_entryOf ((j_F_take n V).1) a2)]) (rest := []) S hK ci_S_62 (c_F_setWord l D ad n cI cS cQ hE ((j_F_take n V).2) (j_S_tableOf n V k (ju a1 22)) (j_S_slotOf a1) (j_V_entryOf ((j_F_take n V).1) a2)) (x_recF hK hP) hP hS ⟨rfl, rfl, Nat.le_of_ble_eq_true rfl, Nat.le_of_ble_eq_true rfl⟩ rfl hl.1 rfl (Nat.le_of_ble_eq_true rfl) d_S_addPage_73 (fun H locs hP hS => ?_)
        refine lv_iload S.1 S.2.1 d_S_addPage_76 (lv_at hl 0 rfl) ?_
        rw [show j_S_addPage n V k a1 a2 = ((j_F_take n V).1, j_F_setWord n ((j_F_take n V).2) (j_S_tableOf n V k (ju a1 22)) (j_S_slotOf a1) (j_V_entryOf ((j_F_take n V).1) a2)) from by rw [j_S_addPage, if_pos c22, if_pos c30, if_neg c38]]
        exact x_iret S hr hlk hP hS d_S_addPage_78
      · refine lv_aload_n S.1 S.2.1 d_S_addPage_41 rfl (lv_at hl 2 rfl) ?_
        refine lv_iload_n S.1 S.2.1 d_S_addPage_42 rfl (lv_at hl 1 rfl) ?_
        refine x_callVi (As := [.int (ju a1 22)]) (rest := []) S hK ci_S_69 (c_S_addTable l D ad n cI cS cQ hE V k hk (ju a1 22)) (x_recS hK hP hk) hP hS ⟨rfl, rfl, Nat.le_of_ble_eq_true rfl, Nat.le_of_ble_eq_true rfl⟩ rfl hl.1 rfl (Nat.le_of_ble_eq_true rfl) d_S_addPage_43 (fun H locs hP hS => ?_)
        refine lv_istore (lv' := [(4, .int ((j_S_addTable n V k (ju a1 22)).1)), (3, .int (ju a1 22)), (0, .ref (ad (6 + k))), (1, .int a1), (2, .int a2)]) S.1 S.2.1 d_S_addPage_46 hl (by decide) rfl (fun ls hl => ?_)
        refine lv_aload_n S.1 S.2.1 d_S_addPage_48 rfl (lv_at hl 2 rfl) ?_
        refine x_get_sframes S hK hP hk tg_19 d_S_addPage_49 ?_
        refine x_callVi (As := []) (rest := []) S hK ci_S_22 (c_F_take l D ad n cI cS cQ hE ((j_S_addTable n V k (ju a1 22)).2)) (x_recF hK hP) hP hS ⟨rfl, rfl, Nat.le_of_ble_eq_true rfl, Nat.le_of_ble_eq_true rfl⟩ rfl hl.1 rfl (Nat.le_of_ble_eq_true rfl) d_S_addPage_52 (fun H locs hP hS => ?_)
        refine lv_istore (lv' := [(5, .int ((j_F_take n ((j_S_addTable n V k (ju a1 22)).2)).1)), (4, .int ((j_S_addTable n V k (ju a1 22)).1)), (3, .int (ju a1 22)), (0, .ref (ad (6 + k))), (1, .int a1), (2, .int a2)]) S.1 S.2.1 d_S_addPage_55 hl (by decide) rfl (fun ls hl => ?_)
        refine lv_aload_n S.1 S.2.1 d_S_addPage_57 rfl (lv_at hl 3 rfl) ?_
        refine x_get_sframes S hK hP hk tg_19 d_S_addPage_58 ?_
        refine lv_iload S.1 S.2.1 d_S_addPage_61 (lv_at hl 1 rfl) ?_
        refine lv_iload_n S.1 S.2.1 d_S_addPage_63 rfl (lv_at hl 4 rfl) ?_
        refine x_callSi (As := [.int a1]) (rest := [.int ((j_S_addTable n V k (ju a1 22)).1), .ref (ad 1)]) S hK ci_S_56 (c_S_slotOf l D ad n cI cS cQ hE ((j_F_take n ((j_S_addTable n V k (ju a1 22)).2)).2) a1) hP hS ⟨rfl, rfl, Nat.le_of_ble_eq_true rfl, Nat.le_of_ble_eq_true rfl⟩ rfl hl.1 rfl (Nat.le_of_ble_eq_true rfl) d_S_addPage_64 (fun H locs hP hS => ?_)
        refine lv_iload S.1 S.2.1 d_S_addPage_67 (lv_at hl 0 rfl) ?_
        refine lv_iload_n S.1 S.2.1 d_S_addPage_69 rfl (lv_at hl 5 rfl) ?_
        refine x_callNi (As := [.int ((j_F_take n ((j_S_addTable n V k (ju a1 22)).2)).1), .int a2]) (rest := [.int (j_S_slotOf a1), .int ((j_S_addTable n V k (ju a1 22)).1), .ref (ad 1)]) S hK ci_S_72 (hK.2 _ nl_1) (c_V_entryOf l D ad n cI cS cQ hE ((j_F_take n ((j_S_addTable n V k (ju a1 22)).2)).2) ((j_F_take n ((j_S_addTable n V k (ju a1 22)).2)).1) a2) hP hS ⟨rfl, rfl, Nat.le_of_ble_eq_true rfl, Nat.le_of_ble_eq_true rfl⟩ rfl hl.1 rfl (Nat.le_of_ble_eq_true rfl) d_S_addPage_70 (fun H locs hP hS => ?_)
        refine x_callVv (As := [.int ((j_S_addTable n V k (ju a1 22)).1), .int (j_S_slotOf a1), .int (j_V_entryOf ((j_F_take n ((j_S_addTable n V k (ju a1 22)).2)).1) a2)]) (rest := []) S hK ci_S_62 (c_F_setWord l D ad n cI cS cQ hE ((j_F_take n ((j_S_addTable n V k (ju a1 22)).2)).2) ((j_S_addTable n V k (ju a1 22)).1) (j_S_slotOf a1) (j_V_entryOf ((j_F_take n ((j_S_addTable n V k (ju a1 22)).2)).1) a2)) (x_recF hK hP) hP hS ⟨rfl, rfl, Nat.le_of_ble_eq_true rfl, Nat.le_of_ble_eq_true rfl⟩ rfl hl.1 rfl (Nat.le_of_ble_eq_true rfl) d_S_addPage_73 (fun H locs hP hS => ?_)
        refine lv_iload S.1 S.2.1 d_S_addPage_76 (lv_at hl 0 rfl) ?_
        rw [show j_S_addPage n V k a1 a2 = ((j_F_take n ((j_S_addTable n V k (ju a1 22)).2)).1, j_F_setWord n ((j_F_take n ((j_S_addTable n V k (ju a1 22)).2)).2) ((j_S_addTable n V k (ju a1 22)).1) (j_S_slotOf a1) (j_V_entryOf ((j_F_take n ((j_S_addTable n V k (ju a1 22)).2)).1) a2)) from by rw [j_S_addPage, if_pos c22, if_pos c30, if_pos c38]]
        exact x_iret S hr hlk hP hS d_S_addPage_78
    · refine lv_iconst (v := (-1)) S.1 S.2.1 d_S_addPage_33 (by decide) ?_
      rw [show j_S_addPage n V k a1 a2 = ((-1), V) from by rw [j_S_addPage, if_pos c22, if_neg c30]]
      exact x_iret S hr hlk hP hS d_S_addPage_34
/-- PageVault$Space.reach(I)V -/
def j_S_reach (V : VS) (k : Nat) (a1 : Int32) : VS :=
  s_len V k (if (v_len V k) < a1 then a1 else v_len V k)
set_option maxHeartbeats 4000000 in
set_option maxRecDepth 100000 in
theorem c_S_reach (hE : xE ad n) (V : VS) (k : Nat) (hk : k < 16) (a1 : Int32) : XC l D ad n cI cS cQ y_S_reach b_S_reach 2 none ({ frames := 1, cells := 0, slots := 0, locals := 40 }) [.ref (ad (6 + k)), .int a1] V none (j_S_reach V k a1) := by
  refine FC_intro (by decide) (Nat.le_of_ble_eq_true rfl) ?_
  intro p e s m below meth c ls S hr hlk hK hP hS hl
  have S : CallFix p m c b_S_reach 2 s _ TG "PageVault$Space" := S
  have hl : lv_has ls 2 [(0, .ref (ad (6 + k))), (1, .int a1)] := hl
  refine lv_aload_n S.1 S.2.1 d_S_reach_0 rfl (lv_at hl 0 rfl) ?_
  refine lv_aload_n S.1 S.2.1 d_S_reach_1 rfl (lv_at hl 0 rfl) ?_
  refine x_get_length S hK hP hk tg_30 d_S_reach_2 ?_
  refine lv_iload_n S.1 S.2.1 d_S_reach_5 rfl (lv_at hl 1 rfl) ?_
  refine va_mmax S.1 S.2.1 (S.2.2.1.trans hl.1.symm) S.2.2.2.1 (S.2.2.2.2 _ tg_126) (S.2.2.2.2 _ tg_127) (S.2.2.2.2 _ tg_128) (S.2.2.2.2 _ tg_129) (Nat.le_of_ble_eq_true rfl) (Nat.le_of_ble_eq_true rfl) (Nat.zero_le _) (Nat.zero_le _) d_S_reach_6 ?_
  refine x_put_length S hE hK hP hS hk tg_30 d_S_reach_9 (fun H locs hP hS => ?_)
  rw [show j_S_reach V k a1 = s_len V k (if (v_len V k) < a1 then a1 else v_len V k) from by rw [j_S_reach]]
  exact x_vret S hr hlk hP hS d_S_reach_12
/-- PageVault.map(III)I -/
def j_V_map (n : Nat) (V : VS) (a1 : Int32) (a2 : Int32) (a3 : Int32) : Int32 × VS :=
  oc (j_V_find V a1) (
    ((-1), V)) (fun k1 =>
    if (j_V_beginsPage a2) = 0 then
      ((-1), V)
    else
      if (j_V_areFlags a3) = 0 then
        ((-1), V)
      else
        if (j_S_entryAt n V k1 a2) = 0 then
          if ((j_S_addPage n V k1 a2 a3).1) = (-1) then
            ((-2), (j_S_addPage n V k1 a2 a3).2)
          else
            (0, j_S_reach ((j_S_addPage n V k1 a2 a3).2) k1 (a2 + 4096))
        else
          ((-1), V))
set_option maxHeartbeats 4000000 in
set_option maxRecDepth 100000 in
theorem c_V_map (hE : xE ad n) (V : VS) (a1 : Int32) (a2 : Int32) (a3 : Int32) : XC l D ad n cI cS cQ y_V_map b_V_map 5 (some .int) ({ frames := 4, cells := 0, slots := 0, locals := 108 }) [.ref (ad 0), .int a1, .int a2, .int a3] V (some (.int (j_V_map n V a1 a2 a3).1)) ((j_V_map n V a1 a2 a3).2) := by
  refine FC_intro (by decide) (Nat.le_of_ble_eq_true rfl) ?_
  intro p e s m below meth c ls S hr hlk hK hP hS hl
  have S : CallFix p m c b_V_map 5 s _ TG "PageVault" := S
  have hl : lv_has ls 5 [(0, .ref (ad 0)), (1, .int a1), (2, .int a2), (3, .int a3)] := hl
  refine lv_aload_n S.1 S.2.1 d_V_map_0 rfl (lv_at hl 0 rfl) ?_
  refine lv_iload_n S.1 S.2.1 d_V_map_1 rfl (lv_at hl 1 rfl) ?_
  refine x_callVq (As := [.int a1]) (rest := []) S hK ci_V_50 (c_V_find l D ad n cI cS cQ hE V a1) (x_recV hK hP) hP hS ⟨rfl, rfl, Nat.le_of_ble_eq_true rfl, Nat.le_of_ble_eq_true rfl⟩ rfl hl.1 rfl (Nat.le_of_ble_eq_true rfl) d_V_map_2 (fun hk1 H locs hP hS => ?_) (fun k1 hk1 H locs hP hS => ?_)
  · refine lv_astoreN (lv' := [(4, .null), (0, .ref (ad 0)), (1, .int a1), (2, .int a2), (3, .int a3)]) S.1 S.2.1 d_V_map_5 hl (by decide) rfl (fun ls hl => ?_)
    refine lv_aloadN S.1 S.2.1 d_V_map_7 (lv_at hl 0 rfl) ?_
    refine lv_ifnullN (tgt := 35) S.1 S.2.1 d_V_map_9 (by decide) ?_
    refine lv_iconst (v := (-1)) S.1 S.2.1 d_V_map_35 (by decide) ?_
    rw [show j_V_map n V a1 a2 a3 = ((-1), V) from by rw [j_V_map, oc_none hk1]]
    exact x_iret S hr hlk hP hS d_V_map_36
  · refine lv_astore (lv' := [(4, .ref (ad (6 + k1))), (0, .ref (ad 0)), (1, .int a1), (2, .int a2), (3, .int a3)]) S.1 S.2.1 d_V_map_5 hl (by decide) rfl (fun ls hl => ?_)
    refine lv_aload S.1 S.2.1 d_V_map_7 (lv_at hl 0 rfl) ?_
    refine lv_ifnull S.1 S.2.1 d_V_map_9 ?_
    refine lv_iload_n S.1 S.2.1 d_V_map_12 rfl (lv_at hl 3 rfl) ?_
    refine x_callSi (As := [.int a2]) (rest := []) S hK ci_V_64 (c_V_beginsPage l D ad n cI cS cQ hE V a2) hP hS ⟨rfl, rfl, Nat.le_of_ble_eq_true rfl, Nat.le_of_ble_eq_true rfl⟩ rfl hl.1 rfl (Nat.le_of_ble_eq_true rfl) d_V_map_13 (fun H locs hP hS => ?_)
    refine lv_if_eq (tgt := 35) S.1 S.2.1 d_V_map_16 (by decide) (fun c16 => ?_) (fun c16 => ?_)
    · refine lv_iconst (v := (-1)) S.1 S.2.1 d_V_map_35 (by decide) ?_
      rw [show j_V_map n V a1 a2 a3 = ((-1), V) from by rw [j_V_map, oc_some hk1, if_pos c16]]
      exact x_iret S hr hlk hP hS d_V_map_36
    · refine lv_iload_n S.1 S.2.1 d_V_map_19 rfl (lv_at hl 4 rfl) ?_
      refine x_callSi (As := [.int a3]) (rest := []) S hK ci_V_68 (c_V_areFlags l D ad n cI cS cQ hE V a3) hP hS ⟨rfl, rfl, Nat.le_of_ble_eq_true rfl, Nat.le_of_ble_eq_true rfl⟩ rfl hl.1 rfl (Nat.le_of_ble_eq_true rfl) d_V_map_20 (fun H locs hP hS => ?_)
      refine lv_if_eq (tgt := 35) S.1 S.2.1 d_V_map_23 (by decide) (fun c23 => ?_) (fun c23 => ?_)
      · refine lv_iconst (v := (-1)) S.1 S.2.1 d_V_map_35 (by decide) ?_
        rw [show j_V_map n V a1 a2 a3 = ((-1), V) from by rw [j_V_map, oc_some hk1, if_neg c16, if_pos c23]]
        exact x_iret S hr hlk hP hS d_V_map_36
      · refine lv_aload S.1 S.2.1 d_V_map_26 (lv_at hl 0 rfl) ?_
        refine lv_iload_n S.1 S.2.1 d_V_map_28 rfl (lv_at hl 3 rfl) ?_
        refine x_callVi (As := [.int a2]) (rest := []) S hK ci_V_71 (c_S_entryAt l D ad n cI cS cQ hE V k1 (find_lt hk1) a2) (x_recS hK hP (find_lt hk1)) hP hS ⟨rfl, rfl, Nat.le_of_ble_eq_true rfl, Nat.le_of_ble_eq_true rfl⟩ rfl hl.1 rfl (Nat.le_of_ble_eq_true rfl) d_V_map_29 (fun H locs hP hS => ?_)
        refine lv_if_eq (tgt := 37) S.1 S.2.1 d_V_map_32 (by decide) (fun c32 => ?_) (fun c32 => ?_)
        · refine lv_aload S.1 S.2.1 d_V_map_37 (lv_at hl 0 rfl) ?_
          refine lv_iload_n S.1 S.2.1 d_V_map_39 rfl (lv_at hl 3 rfl) ?_
          refine lv_iload_n S.1 S.2.1 d_V_map_40 rfl (lv_at hl 4 rfl) ?_
          refine x_callVi (As := [.int a2, .int a3]) (rest := []) S hK ci_V_75 (c_S_addPage l D ad n cI cS cQ hE V k1 (find_lt hk1) a2 a3) (x_recS hK hP (find_lt hk1)) hP hS ⟨rfl, rfl, Nat.le_of_ble_eq_true rfl, Nat.le_of_ble_eq_true rfl⟩ rfl hl.1 rfl (Nat.le_of_ble_eq_true rfl) d_V_map_41 (fun H locs hP hS => ?_)
          refine lv_iconst (v := (-1)) S.1 S.2.1 d_V_map_44 (by decide) ?_
          refine lv_icmp_ne (tgt := 51) S.1 S.2.1 d_V_map_45 (by decide) (fun c45 => ?_) (fun c45 => ?_)
          · refine lv_aload S.1 S.2.1 d_V_map_51 (lv_at hl 0 rfl) ?_
            refine lv_iload_n S.1 S.2.1 d_V_map_53 rfl (lv_at hl 3 rfl) ?_
            refine lv_sipush (v := 4096) S.1 S.2.1 d_V_map_54 (by decide) ?_
            refine lv_iadd S.1 S.2.1 d_V_map_57 ?_
            refine x_callVv (As := [.int (a2 + 4096)]) (rest := []) S hK ci_V_78 (c_S_reach l D ad n cI cS cQ hE ((j_S_addPage n V k1 a2 a3).2) k1 (find_lt hk1) (a2 + 4096)) (x_recS hK hP (find_lt hk1)) hP hS ⟨rfl, rfl, Nat.le_of_ble_eq_true rfl, Nat.le_of_ble_eq_true rfl⟩ rfl hl.1 rfl (Nat.le_of_ble_eq_true rfl) d_V_map_58 (fun H locs hP hS => ?_)
            refine lv_iconst (v := 0) S.1 S.2.1 d_V_map_61 (by decide) ?_
            rw [show j_V_map n V a1 a2 a3 = (0, j_S_reach ((j_S_addPage n V k1 a2 a3).2) k1 (a2 + 4096)) from by rw [j_V_map, oc_some hk1, if_neg c16, if_neg c23, if_pos c32, if_neg c45]]
            exact x_iret S hr hlk hP hS d_V_map_62
          · refine lv_bipush (v := (-2)) S.1 S.2.1 d_V_map_48 (by decide) ?_
            rw [show j_V_map n V a1 a2 a3 = ((-2), (j_S_addPage n V k1 a2 a3).2) from by rw [j_V_map, oc_some hk1, if_neg c16, if_neg c23, if_pos c32, if_pos c45]]
            exact x_iret S hr hlk hP hS d_V_map_50
        · refine lv_iconst (v := (-1)) S.1 S.2.1 d_V_map_35 (by decide) ?_
          rw [show j_V_map n V a1 a2 a3 = ((-1), V) from by rw [j_V_map, oc_some hk1, if_neg c16, if_neg c23, if_neg c32]]
          exact x_iret S hr hlk hP hS d_V_map_36
/-- PageVault$Space.setEntry(II)V -/
def j_S_setEntry (n : Nat) (V : VS) (k : Nat) (a1 : Int32) (a2 : Int32) : VS :=
  j_F_setWord n V (j_S_tableOf n V k (ju a1 22)) (j_S_slotOf a1) a2
set_option maxHeartbeats 4000000 in
set_option maxRecDepth 100000 in
theorem c_S_setEntry (hE : xE ad n) (V : VS) (k : Nat) (hk : k < 16) (a1 : Int32) (a2 : Int32) : XC l D ad n cI cS cQ y_S_setEntry b_S_setEntry 3 none ({ frames := 2, cells := 0, slots := 0, locals := 43 }) [.ref (ad (6 + k)), .int a1, .int a2] V none (j_S_setEntry n V k a1 a2) := by
  refine FC_intro (by decide) (Nat.le_of_ble_eq_true rfl) ?_
  intro p e s m below meth c ls S hr hlk hK hP hS hl
  have S : CallFix p m c b_S_setEntry 3 s _ TG "PageVault$Space" := S
  have hl : lv_has ls 3 [(0, .ref (ad (6 + k))), (1, .int a1), (2, .int a2)] := hl
  refine lv_aload_n S.1 S.2.1 d_S_setEntry_0 rfl (lv_at hl 0 rfl) ?_
  refine x_get_sframes S hK hP hk tg_19 d_S_setEntry_1 ?_
  refine lv_aload_n S.1 S.2.1 d_S_setEntry_4 rfl (lv_at hl 0 rfl) ?_
  refine lv_iload_n S.1 S.2.1 d_S_setEntry_5 rfl (lv_at hl 1 rfl) ?_
  refine lv_bipush (v := 22) S.1 S.2.1 d_S_setEntry_6 (by decide) ?_
  refine lv_iushr (v := ju a1 22) S.1 S.2.1 d_S_setEntry_8 rfl ?_
  refine x_callVi (As := [.int (ju a1 22)]) (rest := [.ref (ad 1)]) S hK ci_S_32 (c_S_tableOf l D ad n cI cS cQ hE V k hk (ju a1 22)) (x_recS hK hP hk) hP hS ⟨rfl, rfl, Nat.le_of_ble_eq_true rfl, Nat.le_of_ble_eq_true rfl⟩ rfl hl.1 rfl (Nat.le_of_ble_eq_true rfl) d_S_setEntry_9 (fun H locs hP hS => ?_)
  refine lv_iload_n S.1 S.2.1 d_S_setEntry_12 rfl (lv_at hl 1 rfl) ?_
  refine x_callSi (As := [.int a1]) (rest := [.int (j_S_tableOf n V k (ju a1 22)), .ref (ad 1)]) S hK ci_S_56 (c_S_slotOf l D ad n cI cS cQ hE V a1) hP hS ⟨rfl, rfl, Nat.le_of_ble_eq_true rfl, Nat.le_of_ble_eq_true rfl⟩ rfl hl.1 rfl (Nat.le_of_ble_eq_true rfl) d_S_setEntry_13 (fun H locs hP hS => ?_)
  refine lv_iload_n S.1 S.2.1 d_S_setEntry_16 rfl (lv_at hl 2 rfl) ?_
  refine x_callVv (As := [.int (j_S_tableOf n V k (ju a1 22)), .int (j_S_slotOf a1), .int a2]) (rest := []) S hK ci_S_62 (c_F_setWord l D ad n cI cS cQ hE V (j_S_tableOf n V k (ju a1 22)) (j_S_slotOf a1) a2) (x_recF hK hP) hP hS ⟨rfl, rfl, Nat.le_of_ble_eq_true rfl, Nat.le_of_ble_eq_true rfl⟩ rfl hl.1 rfl (Nat.le_of_ble_eq_true rfl) d_S_setEntry_17 (fun H locs hP hS => ?_)
  rw [show j_S_setEntry n V k a1 a2 = j_F_setWord n V (j_S_tableOf n V k (ju a1 22)) (j_S_slotOf a1) a2 from by rw [j_S_setEntry]]
  exact x_vret S hr hlk hP hS d_S_setEntry_20
/-- PageVault.protect(III)Z -/
def j_V_protect (n : Nat) (V : VS) (a1 : Int32) (a2 : Int32) (a3 : Int32) : Int32 × VS :=
  oc (j_V_find V a1) (
    (0, V)) (fun k1 =>
    if (j_V_beginsPage a2) = 0 then
      (0, V)
    else
      if (j_V_areFlags a3) = 0 then
        (0, V)
      else
        if (j_S_entryAt n V k1 a2) = 0 then
          (0, V)
        else
          (1, j_S_setEntry n V k1 a2 (j_V_entryOf (j_V_frameOf (j_S_entryAt n V k1 a2)) a3)))
end XW
end
section
section XW
variable (l : Launch) (D : va_G) (ad : Nat → Nat) (n : Nat) (cI cS cQ : ClassId)
set_option maxHeartbeats 4000000 in
set_option maxRecDepth 100000 in
theorem c_V_protect (hE : xE ad n) (V : VS) (a1 : Int32) (a2 : Int32) (a3 : Int32) : XC l D ad n cI cS cQ y_V_protect b_V_protect 6 (some .boolean) ({ frames := 3, cells := 0, slots := 0, locals := 65 }) [.ref (ad 0), .int a1, .int a2, .int a3] V (some (.int (j_V_protect n V a1 a2 a3).1)) ((j_V_protect n V a1 a2 a3).2) := by
  refine FC_intro (by decide) (Nat.le_of_ble_eq_true rfl) ?_
  intro p e s m below meth c ls S hr hlk hK hP hS hl
  have S : CallFix p m c b_V_protect 6 s _ TG "PageVault" := S
  have hl : lv_has ls 6 [(0, .ref (ad 0)), (1, .int a1), (2, .int a2), (3, .int a3)] := hl
  refine lv_aload_n S.1 S.2.1 d_V_protect_0 rfl (lv_at hl 0 rfl) ?_
  refine lv_iload_n S.1 S.2.1 d_V_protect_1 rfl (lv_at hl 1 rfl) ?_
  refine x_callVq (As := [.int a1]) (rest := []) S hK ci_V_50 (c_V_find l D ad n cI cS cQ hE V a1) (x_recV hK hP) hP hS ⟨rfl, rfl, Nat.le_of_ble_eq_true rfl, Nat.le_of_ble_eq_true rfl⟩ rfl hl.1 rfl (Nat.le_of_ble_eq_true rfl) d_V_protect_2 (fun hk1 H locs hP hS => ?_) (fun k1 hk1 H locs hP hS => ?_)
  · refine lv_astoreN (lv' := [(4, .null), (0, .ref (ad 0)), (1, .int a1), (2, .int a2), (3, .int a3)]) S.1 S.2.1 d_V_protect_5 hl (by decide) rfl (fun ls hl => ?_)
    refine lv_aloadN S.1 S.2.1 d_V_protect_7 (lv_at hl 0 rfl) ?_
    refine lv_ifnullN (tgt := 26) S.1 S.2.1 d_V_protect_9 (by decide) ?_
    refine lv_iconst (v := 0) S.1 S.2.1 d_V_protect_26 (by decide) ?_
    rw [show j_V_protect n V a1 a2 a3 = (0, V) from by rw [j_V_protect, oc_none hk1]]
    exact x_zret (v := 0) S hr hlk rfl hP hS d_V_protect_27
  · refine lv_astore (lv' := [(4, .ref (ad (6 + k1))), (0, .ref (ad 0)), (1, .int a1), (2, .int a2), (3, .int a3)]) S.1 S.2.1 d_V_protect_5 hl (by decide) rfl (fun ls hl => ?_)
    refine lv_aload S.1 S.2.1 d_V_protect_7 (lv_at hl 0 rfl) ?_
    refine lv_ifnull S.1 S.2.1 d_V_protect_9 ?_
    refine lv_iload_n S.1 S.2.1 d_V_protect_12 rfl (lv_at hl 3 rfl) ?_
    refine x_callSi (As := [.int a2]) (rest := []) S hK ci_V_64 (c_V_beginsPage l D ad n cI cS cQ hE V a2) hP hS ⟨rfl, rfl, Nat.le_of_ble_eq_true rfl, Nat.le_of_ble_eq_true rfl⟩ rfl hl.1 rfl (Nat.le_of_ble_eq_true rfl) d_V_protect_13 (fun H locs hP hS => ?_)
    refine lv_if_eq (tgt := 26) S.1 S.2.1 d_V_protect_16 (by decide) (fun c16 => ?_) (fun c16 => ?_)
    · refine lv_iconst (v := 0) S.1 S.2.1 d_V_protect_26 (by decide) ?_
      rw [show j_V_protect n V a1 a2 a3 = (0, V) from by rw [j_V_protect, oc_some hk1, if_pos c16]]
      exact x_zret (v := 0) S hr hlk rfl hP hS d_V_protect_27
    · refine lv_iload_n S.1 S.2.1 d_V_protect_19 rfl (lv_at hl 4 rfl) ?_
      refine x_callSi (As := [.int a3]) (rest := []) S hK ci_V_68 (c_V_areFlags l D ad n cI cS cQ hE V a3) hP hS ⟨rfl, rfl, Nat.le_of_ble_eq_true rfl, Nat.le_of_ble_eq_true rfl⟩ rfl hl.1 rfl (Nat.le_of_ble_eq_true rfl) d_V_protect_20 (fun H locs hP hS => ?_)
      refine lv_if_ne (tgt := 28) S.1 S.2.1 d_V_protect_23 (by decide) (fun c23 => ?_) (fun c23 => ?_)
      · refine lv_aload S.1 S.2.1 d_V_protect_28 (lv_at hl 0 rfl) ?_
        refine lv_iload_n S.1 S.2.1 d_V_protect_30 rfl (lv_at hl 3 rfl) ?_
        refine x_callVi (As := [.int a2]) (rest := []) S hK ci_V_71 (c_S_entryAt l D ad n cI cS cQ hE V k1 (find_lt hk1) a2) (x_recS hK hP (find_lt hk1)) hP hS ⟨rfl, rfl, Nat.le_of_ble_eq_true rfl, Nat.le_of_ble_eq_true rfl⟩ rfl hl.1 rfl (Nat.le_of_ble_eq_true rfl) d_V_protect_31 (fun H locs hP hS => ?_)
        refine lv_istore (lv' := [(5, .int (j_S_entryAt n V k1 a2)), (4, .ref (ad (6 + k1))), (0, .ref (ad 0)), (1, .int a1), (2, .int a2), (3, .int a3)]) S.1 S.2.1 d_V_protect_34 hl (by decide) rfl (fun ls hl => ?_)
        refine lv_iload S.1 S.2.1 d_V_protect_36 (lv_at hl 0 rfl) ?_
        refine lv_if_ne (tgt := 43) S.1 S.2.1 d_V_protect_38 (by decide) (fun c38 => ?_) (fun c38 => ?_)
        · refine lv_aload S.1 S.2.1 d_V_protect_43 (lv_at hl 1 rfl) ?_
          refine lv_iload_n S.1 S.2.1 d_V_protect_45 rfl (lv_at hl 4 rfl) ?_
          refine lv_iload S.1 S.2.1 d_V_protect_46 (lv_at hl 0 rfl) ?_
          refine x_callSi (As := [.int (j_S_entryAt n V k1 a2)]) (rest := [.int a2, .ref (ad (6 + k1))]) S hK ci_V_81 (c_V_frameOf l D ad n cI cS cQ hE V (j_S_entryAt n V k1 a2)) hP hS ⟨rfl, rfl, Nat.le_of_ble_eq_true rfl, Nat.le_of_ble_eq_true rfl⟩ rfl hl.1 rfl (Nat.le_of_ble_eq_true rfl) d_V_protect_48 (fun H locs hP hS => ?_)
          refine lv_iload_n S.1 S.2.1 d_V_protect_51 rfl (lv_at hl 5 rfl) ?_
          refine x_callSi (As := [.int (j_V_frameOf (j_S_entryAt n V k1 a2)), .int a3]) (rest := [.int a2, .ref (ad (6 + k1))]) S hK ci_V_84 (c_V_entryOf l D ad n cI cS cQ hE V (j_V_frameOf (j_S_entryAt n V k1 a2)) a3) hP hS ⟨rfl, rfl, Nat.le_of_ble_eq_true rfl, Nat.le_of_ble_eq_true rfl⟩ rfl hl.1 rfl (Nat.le_of_ble_eq_true rfl) d_V_protect_52 (fun H locs hP hS => ?_)
          refine x_callVv (As := [.int a2, .int (j_V_entryOf (j_V_frameOf (j_S_entryAt n V k1 a2)) a3)]) (rest := []) S hK ci_V_87 (c_S_setEntry l D ad n cI cS cQ hE V k1 (find_lt hk1) a2 (j_V_entryOf (j_V_frameOf (j_S_entryAt n V k1 a2)) a3)) (x_recS hK hP (find_lt hk1)) hP hS ⟨rfl, rfl, Nat.le_of_ble_eq_true rfl, Nat.le_of_ble_eq_true rfl⟩ rfl hl.1 rfl (Nat.le_of_ble_eq_true rfl) d_V_protect_55 (fun H locs hP hS => ?_)
          refine lv_iconst (v := 1) S.1 S.2.1 d_V_protect_58 (by decide) ?_
          rw [show j_V_protect n V a1 a2 a3 = (1, j_S_setEntry n V k1 a2 (j_V_entryOf (j_V_frameOf (j_S_entryAt n V k1 a2)) a3)) from by rw [j_V_protect, oc_some hk1, if_neg c16, if_neg c23, if_neg c38]]
          exact x_zret (v := 1) S hr hlk rfl hP hS d_V_protect_59
        · refine lv_iconst (v := 0) S.1 S.2.1 d_V_protect_41 (by decide) ?_
          rw [show j_V_protect n V a1 a2 a3 = (0, V) from by rw [j_V_protect, oc_some hk1, if_neg c16, if_neg c23, if_pos c38]]
          exact x_zret (v := 0) S hr hlk rfl hP hS d_V_protect_42
      · refine lv_iconst (v := 0) S.1 S.2.1 d_V_protect_26 (by decide) ?_
        rw [show j_V_protect n V a1 a2 a3 = (0, V) from by rw [j_V_protect, oc_some hk1, if_neg c16, if_pos c23]]
        exact x_zret (v := 0) S hr hlk rfl hP hS d_V_protect_27
/-- PageVault$Space.length()I -/
def j_S_length (V : VS) (k : Nat) : Int32 :=
  v_len V k
set_option maxHeartbeats 4000000 in
set_option maxRecDepth 100000 in
theorem c_S_length (hE : xE ad n) (V : VS) (k : Nat) (hk : k < 16) : XC l D ad n cI cS cQ y_S_length b_S_length 1 (some .int) ({ frames := 0, cells := 0, slots := 0, locals := 0 }) [.ref (ad (6 + k))] V (some (.int (j_S_length V k))) (V) := by
  refine FC_intro (by decide) (Nat.le_of_ble_eq_true rfl) ?_
  intro p e s m below meth c ls S hr hlk hK hP hS hl
  have S : CallFix p m c b_S_length 1 s _ TG "PageVault$Space" := S
  have hl : lv_has ls 1 [(0, .ref (ad (6 + k)))] := hl
  refine lv_aload_n S.1 S.2.1 d_S_length_0 rfl (lv_at hl 0 rfl) ?_
  refine x_get_length S hK hP hk tg_30 d_S_length_1 ?_
  rw [show j_S_length V k = v_len V k from by rw [j_S_length]]
  exact x_iret S hr hlk hP hS d_S_length_4
/-- PageVault$Space.resize(I)V -/
def j_S_resize (n : Nat) (V : VS) (k : Nat) (a1 : Int32) : VS :=
  if (v_len V k) ≤ a1 then
    s_len V k a1
  else
    s_len (j_S_removePagesFrom n V k (ju ((a1 + 4096) - 1) 12)) k a1
set_option maxHeartbeats 4000000 in
set_option maxRecDepth 100000 in
theorem c_S_resize (hE : xE ad n) (V : VS) (k : Nat) (hk : k < 16) (a1 : Int32) : XC l D ad n cI cS cQ y_S_resize b_S_resize 2 none ({ frames := 3, cells := 0, slots := 0, locals := 69 }) [.ref (ad (6 + k)), .int a1] V none (j_S_resize n V k a1) := by
  refine FC_intro (by decide) (Nat.le_of_ble_eq_true rfl) ?_
  intro p e s m below meth c ls S hr hlk hK hP hS hl
  have S : CallFix p m c b_S_resize 2 s _ TG "PageVault$Space" := S
  have hl : lv_has ls 2 [(0, .ref (ad (6 + k))), (1, .int a1)] := hl
  refine lv_iload_n S.1 S.2.1 d_S_resize_0 rfl (lv_at hl 1 rfl) ?_
  refine lv_aload_n S.1 S.2.1 d_S_resize_1 rfl (lv_at hl 0 rfl) ?_
  refine x_get_length S hK hP hk tg_30 d_S_resize_2 ?_
  refine lv_icmp_ge (tgt := 22) S.1 S.2.1 d_S_resize_5 (by decide) (fun c5 => ?_) (fun c5 => ?_)
  · refine lv_aload_n S.1 S.2.1 d_S_resize_22 rfl (lv_at hl 0 rfl) ?_
    refine lv_iload_n S.1 S.2.1 d_S_resize_23 rfl (lv_at hl 1 rfl) ?_
    refine x_put_length S hE hK hP hS hk tg_30 d_S_resize_24 (fun H locs hP hS => ?_)
    rw [show j_S_resize n V k a1 = s_len V k a1 from by rw [j_S_resize, if_pos c5]]
    exact x_vret S hr hlk hP hS d_S_resize_27
  · refine lv_aload_n S.1 S.2.1 d_S_resize_8 rfl (lv_at hl 0 rfl) ?_
    refine lv_iload_n S.1 S.2.1 d_S_resize_9 rfl (lv_at hl 1 rfl) ?_
    refine lv_sipush (v := 4096) S.1 S.2.1 d_S_resize_10 (by decide) ?_
    refine lv_iadd S.1 S.2.1 d_S_resize_13 ?_
    refine lv_iconst (v := 1) S.1 S.2.1 d_S_resize_14 (by decide) ?_
    refine lv_isub S.1 S.2.1 d_S_resize_15 ?_
    refine lv_bipush (v := 12) S.1 S.2.1 d_S_resize_16 (by decide) ?_
    refine lv_iushr (v := ju ((a1 + 4096) - 1) 12) S.1 S.2.1 d_S_resize_18 rfl ?_
    refine x_callVv (As := [.int (ju ((a1 + 4096) - 1) 12)]) (rest := []) S hK ci_S_28 (c_S_removePagesFrom l D ad n cI cS cQ hE V k hk (ju ((a1 + 4096) - 1) 12) _ (ju12_lt (a1 + 4096 - 1)) (ju12 (a1 + 4096 - 1))) (x_recS hK hP hk) hP hS ⟨rfl, rfl, Nat.le_of_ble_eq_true rfl, Nat.le_of_ble_eq_true rfl⟩ rfl hl.1 rfl (Nat.le_of_ble_eq_true rfl) d_S_resize_19 (fun H locs hP hS => ?_)
    refine lv_aload_n S.1 S.2.1 d_S_resize_22 rfl (lv_at hl 0 rfl) ?_
    refine lv_iload_n S.1 S.2.1 d_S_resize_23 rfl (lv_at hl 1 rfl) ?_
    refine x_put_length S hE hK hP hS hk tg_30 d_S_resize_24 (fun H locs hP hS => ?_)
    rw [show j_S_resize n V k a1 = s_len (j_S_removePagesFrom n V k (ju ((a1 + 4096) - 1) 12)) k a1 from by rw [j_S_resize, if_neg c5]]
    exact x_vret S hr hlk hP hS d_S_resize_27
/-- PageVault.grow(II)I -/
def j_V_grow (n : Nat) (V : VS) (a1 : Int32) (a2 : Int32) : Int32 × VS :=
  oc (j_V_find V a1) (
    ((-1), V)) (fun k1 =>
    if (lg_cmp (((j_S_length V k1).toInt64) + a2.toInt64) 0) < 0 then
      ((-1), V)
    else
      if (lg_cmp (((j_S_length V k1).toInt64) + a2.toInt64) 1073741824) ≤ 0 then
        (j_S_length V k1, j_S_resize n V k1 ((((j_S_length V k1).toInt64) + a2.toInt64).toInt32))
      else
        ((-1), V))
set_option maxHeartbeats 4000000 in
set_option maxRecDepth 100000 in
theorem c_V_grow (hE : xE ad n) (V : VS) (a1 : Int32) (a2 : Int32) : XC l D ad n cI cS cQ y_V_grow b_V_grow 7 (some .int) ({ frames := 4, cells := 0, slots := 0, locals := 90 }) [.ref (ad 0), .int a1, .int a2] V (some (.int (j_V_grow n V a1 a2).1)) ((j_V_grow n V a1 a2).2) := by
  refine FC_intro (by decide) (Nat.le_of_ble_eq_true rfl) ?_
  intro p e s m below meth c ls S hr hlk hK hP hS hl
  have S : CallFix p m c b_V_grow 7 s _ TG "PageVault" := S
  have hl : lv_has ls 7 [(0, .ref (ad 0)), (1, .int a1), (2, .int a2)] := hl
  refine lv_aload_n S.1 S.2.1 d_V_grow_0 rfl (lv_at hl 0 rfl) ?_
  refine lv_iload_n S.1 S.2.1 d_V_grow_1 rfl (lv_at hl 1 rfl) ?_
  refine x_callVq (As := [.int a1]) (rest := []) S hK ci_V_50 (c_V_find l D ad n cI cS cQ hE V a1) (x_recV hK hP) hP hS ⟨rfl, rfl, Nat.le_of_ble_eq_true rfl, Nat.le_of_ble_eq_true rfl⟩ rfl hl.1 rfl (Nat.le_of_ble_eq_true rfl) d_V_grow_2 (fun hk1 H locs hP hS => ?_) (fun k1 hk1 H locs hP hS => ?_)
  · refine lv_astore_nN (lv' := [(3, .null), (0, .ref (ad 0)), (1, .int a1), (2, .int a2)]) S.1 S.2.1 d_V_grow_5 rfl hl (by decide) rfl (fun ls hl => ?_)
    refine lv_aload_nN S.1 S.2.1 d_V_grow_6 rfl (lv_at hl 0 rfl) ?_
    refine lv_ifnonnullN S.1 S.2.1 d_V_grow_7 ?_
    refine lv_iconst (v := (-1)) S.1 S.2.1 d_V_grow_10 (by decide) ?_
    rw [show j_V_grow n V a1 a2 = ((-1), V) from by rw [j_V_grow, oc_none hk1]]
    exact x_iret S hr hlk hP hS d_V_grow_11
  · refine lv_astore_n (lv' := [(3, .ref (ad (6 + k1))), (0, .ref (ad 0)), (1, .int a1), (2, .int a2)]) S.1 S.2.1 d_V_grow_5 rfl hl (by decide) rfl (fun ls hl => ?_)
    refine lv_aload_n S.1 S.2.1 d_V_grow_6 rfl (lv_at hl 0 rfl) ?_
    refine lv_ifnonnull (tgt := 12) S.1 S.2.1 d_V_grow_7 (by decide) ?_
    refine lv_aload_n S.1 S.2.1 d_V_grow_12 rfl (lv_at hl 0 rfl) ?_
    refine x_callVi (As := []) (rest := []) S hK ci_V_91 (c_S_length l D ad n cI cS cQ hE V k1 (find_lt hk1)) (x_recS hK hP (find_lt hk1)) hP hS ⟨rfl, rfl, Nat.le_of_ble_eq_true rfl, Nat.le_of_ble_eq_true rfl⟩ rfl hl.1 rfl (Nat.le_of_ble_eq_true rfl) d_V_grow_13 (fun H locs hP hS => ?_)
    refine lv_istore (lv' := [(4, .int (j_S_length V k1)), (3, .ref (ad (6 + k1))), (0, .ref (ad 0)), (1, .int a1), (2, .int a2)]) S.1 S.2.1 d_V_grow_16 hl (by decide) rfl (fun ls hl => ?_)
    refine lv_iload S.1 S.2.1 d_V_grow_18 (lv_at hl 0 rfl) ?_
    refine lv_i2l (v := (j_S_length V k1).toInt64) S.1 S.2.1 d_V_grow_20 rfl ?_
    refine lv_iload_n S.1 S.2.1 d_V_grow_21 rfl (lv_at hl 4 rfl) ?_
    refine lv_i2l (v := a2.toInt64) S.1 S.2.1 d_V_grow_22 rfl ?_
    refine lv_ladd S.1 S.2.1 d_V_grow_23 ?_
    refine lv_lstore (lv' := [(5, .long (((j_S_length V k1).toInt64) + a2.toInt64)), (4, .int (j_S_length V k1)), (3, .ref (ad (6 + k1))), (0, .ref (ad 0)), (1, .int a1), (2, .int a2)]) S.1 S.2.1 d_V_grow_24 hl (by decide) rfl (fun ls hl => ?_)
    refine lv_lload S.1 S.2.1 d_V_grow_26 (lv_at hl 0 rfl) ?_
    refine lv_lconst (v := 0) S.1 S.2.1 d_V_grow_28 rfl ?_
    refine W.lcmp S.1 S.2.1 d_V_grow_29 ?_
    refine lv_if_lt (tgt := 42) S.1 S.2.1 d_V_grow_30 (by decide) (fun c30 => ?_) (fun c30 => ?_)
    · refine lv_iconst (v := (-1)) S.1 S.2.1 d_V_grow_42 (by decide) ?_
      rw [show j_V_grow n V a1 a2 = ((-1), V) from by rw [j_V_grow, oc_some hk1, if_pos c30]]
      exact x_iret S hr hlk hP hS d_V_grow_43
    · refine lv_lload S.1 S.2.1 d_V_grow_33 (lv_at hl 0 rfl) ?_
      refine lv_ldc2 (v := 1073741824) S.1 S.2.1 S.2.2.2.1 (S.2.2.2.2 _ tg_144) d_V_grow_35 ?_
      refine W.lcmp S.1 S.2.1 d_V_grow_38 ?_
      refine lv_if_le (tgt := 44) S.1 S.2.1 d_V_grow_39 (by decide) (fun c39 => ?_) (fun c39 => ?_)
      · refine lv_aload_n S.1 S.2.1 d_V_grow_44 rfl (lv_at hl 2 rfl) ?_
        refine lv_lload S.1 S.2.1 d_V_grow_45 (lv_at hl 0 rfl) ?_
        refine lv_l2i (v := (((j_S_length V k1).toInt64) + a2.toInt64).toInt32) S.1 S.2.1 d_V_grow_47 rfl ?_
        refine x_callVv (As := [.int ((((j_S_length V k1).toInt64) + a2.toInt64).toInt32)]) (rest := []) S hK ci_V_96 (c_S_resize l D ad n cI cS cQ hE V k1 (find_lt hk1) ((((j_S_length V k1).toInt64) + a2.toInt64).toInt32)) (x_recS hK hP (find_lt hk1)) hP hS ⟨rfl, rfl, Nat.le_of_ble_eq_true rfl, Nat.le_of_ble_eq_true rfl⟩ rfl hl.1 rfl (Nat.le_of_ble_eq_true rfl) d_V_grow_48 (fun H locs hP hS => ?_)
        refine lv_iload S.1 S.2.1 d_V_grow_51 (lv_at hl 1 rfl) ?_
        rw [show j_V_grow n V a1 a2 = (j_S_length V k1, j_S_resize n V k1 ((((j_S_length V k1).toInt64) + a2.toInt64).toInt32)) from by rw [j_V_grow, oc_some hk1, if_neg c30, if_pos c39]]
        exact x_iret S hr hlk hP hS d_V_grow_53
      · refine lv_iconst (v := (-1)) S.1 S.2.1 d_V_grow_42 (by decide) ?_
        rw [show j_V_grow n V a1 a2 = ((-1), V) from by rw [j_V_grow, oc_some hk1, if_neg c30, if_neg c39]]
        exact x_iret S hr hlk hP hS d_V_grow_43
/-- PageVault.size(I)I -/
def j_V_size (V : VS) (a1 : Int32) : Int32 :=
  oc (j_V_find V a1) (
    (-1)) (fun k1 =>
    j_S_length V k1)
set_option maxHeartbeats 4000000 in
set_option maxRecDepth 100000 in
theorem c_V_size (hE : xE ad n) (V : VS) (a1 : Int32) : XC l D ad n cI cS cQ y_V_size b_V_size 3 (some .int) ({ frames := 2, cells := 0, slots := 0, locals := 41 }) [.ref (ad 0), .int a1] V (some (.int (j_V_size V a1))) (V) := by
  refine FC_intro (by decide) (Nat.le_of_ble_eq_true rfl) ?_
  intro p e s m below meth c ls S hr hlk hK hP hS hl
  have S : CallFix p m c b_V_size 3 s _ TG "PageVault" := S
  have hl : lv_has ls 3 [(0, .ref (ad 0)), (1, .int a1)] := hl
  refine lv_aload_n S.1 S.2.1 d_V_size_0 rfl (lv_at hl 0 rfl) ?_
  refine lv_iload_n S.1 S.2.1 d_V_size_1 rfl (lv_at hl 1 rfl) ?_
  refine x_callVq (As := [.int a1]) (rest := []) S hK ci_V_50 (c_V_find l D ad n cI cS cQ hE V a1) (x_recV hK hP) hP hS ⟨rfl, rfl, Nat.le_of_ble_eq_true rfl, Nat.le_of_ble_eq_true rfl⟩ rfl hl.1 rfl (Nat.le_of_ble_eq_true rfl) d_V_size_2 (fun hk1 H locs hP hS => ?_) (fun k1 hk1 H locs hP hS => ?_)
  · refine lv_astore_nN (lv' := [(2, .null), (0, .ref (ad 0)), (1, .int a1)]) S.1 S.2.1 d_V_size_5 rfl hl (by decide) rfl (fun ls hl => ?_)
    refine lv_aload_nN S.1 S.2.1 d_V_size_6 rfl (lv_at hl 0 rfl) ?_
    refine lv_ifnonnullN S.1 S.2.1 d_V_size_7 ?_
    refine lv_iconst (v := (-1)) S.1 S.2.1 d_V_size_10 (by decide) ?_
    refine lv_goto (tgt := 18) S.1 S.2.1 d_V_size_11 (by decide) ?_
    rw [show j_V_size V a1 = (-1) from by rw [j_V_size, oc_none hk1]]
    exact x_iret S hr hlk hP hS d_V_size_18
  · refine lv_astore_n (lv' := [(2, .ref (ad (6 + k1))), (0, .ref (ad 0)), (1, .int a1)]) S.1 S.2.1 d_V_size_5 rfl hl (by decide) rfl (fun ls hl => ?_)
    refine lv_aload_n S.1 S.2.1 d_V_size_6 rfl (lv_at hl 0 rfl) ?_
    refine lv_ifnonnull (tgt := 14) S.1 S.2.1 d_V_size_7 (by decide) ?_
    refine lv_aload_n S.1 S.2.1 d_V_size_14 rfl (lv_at hl 0 rfl) ?_
    refine x_callVi (As := []) (rest := []) S hK ci_V_91 (c_S_length l D ad n cI cS cQ hE V k1 (find_lt hk1)) (x_recS hK hP (find_lt hk1)) hP hS ⟨rfl, rfl, Nat.le_of_ble_eq_true rfl, Nat.le_of_ble_eq_true rfl⟩ rfl hl.1 rfl (Nat.le_of_ble_eq_true rfl) d_V_size_15 (fun H locs hP hS => ?_)
    rw [show j_V_size V a1 = j_S_length V k1 from by rw [j_V_size, oc_some hk1]]
    exact x_iret S hr hlk hP hS d_V_size_18
/-- PageVault.isStraight(II)Z -/
def j_V_isStraight (a0 : Int32) (a1 : Int32) : Int32 :=
  if a1 = 1 then
    if (a0 - a0 / a1 * a1) = 0 then
      1
    else
      0
  else
    if a1 = 2 then
      if (a0 - a0 / a1 * a1) = 0 then
        1
      else
        0
    else
      if a1 = 4 then
        if (a0 - a0 / a1 * a1) = 0 then
          1
        else
          0
      else
        0
set_option maxHeartbeats 4000000 in
set_option maxRecDepth 100000 in
theorem c_V_isStraight (hE : xE ad n) (V : VS) (a0 : Int32) (a1 : Int32) : XC l D ad n cI cS cQ y_V_isStraight b_V_isStraight 2 (some .boolean) ({ frames := 0, cells := 0, slots := 0, locals := 0 }) [.int a0, .int a1] V (some (.int (j_V_isStraight a0 a1))) (V) := by
  refine FC_intro (by decide) (Nat.le_of_ble_eq_true rfl) ?_
  intro p e s m below meth c ls S hr hlk hK hP hS hl
  have S : CallFix p m c b_V_isStraight 2 s _ TG "PageVault" := S
  have hl : lv_has ls 2 [(0, .int a0), (1, .int a1)] := hl
  refine lv_iload_n S.1 S.2.1 d_V_isStraight_0 rfl (lv_at hl 1 rfl) ?_
  refine lv_iconst (v := 1) S.1 S.2.1 d_V_isStraight_1 (by decide) ?_
  refine lv_icmp_eq (tgt := 15) S.1 S.2.1 d_V_isStraight_2 (by decide) (fun c2 => ?_) (fun c2 => ?_)
  · refine lv_iload_n S.1 S.2.1 d_V_isStraight_15 rfl (lv_at hl 0 rfl) ?_
    refine lv_iload_n S.1 S.2.1 d_V_isStraight_16 rfl (lv_at hl 1 rfl) ?_
    refine lv_irem S.1 S.2.1 d_V_isStraight_17 (by rw [c2]; decide) ?_
    refine lv_if_ne (tgt := 25) S.1 S.2.1 d_V_isStraight_18 (by decide) (fun c18 => ?_) (fun c18 => ?_)
    · refine lv_iconst (v := 0) S.1 S.2.1 d_V_isStraight_25 (by decide) ?_
      rw [show j_V_isStraight a0 a1 = 0 from by rw [j_V_isStraight, if_pos c2, if_neg c18]]
      exact x_zret (v := 0) S hr hlk rfl hP hS d_V_isStraight_26
    · refine lv_iconst (v := 1) S.1 S.2.1 d_V_isStraight_21 (by decide) ?_
      refine lv_goto (tgt := 26) S.1 S.2.1 d_V_isStraight_22 (by decide) ?_
      rw [show j_V_isStraight a0 a1 = 1 from by rw [j_V_isStraight, if_pos c2, if_pos c18]]
      exact x_zret (v := 1) S hr hlk rfl hP hS d_V_isStraight_26
  · refine lv_iload_n S.1 S.2.1 d_V_isStraight_5 rfl (lv_at hl 1 rfl) ?_
    refine lv_iconst (v := 2) S.1 S.2.1 d_V_isStraight_6 (by decide) ?_
    refine lv_icmp_eq (tgt := 15) S.1 S.2.1 d_V_isStraight_7 (by decide) (fun c7 => ?_) (fun c7 => ?_)
    · refine lv_iload_n S.1 S.2.1 d_V_isStraight_15 rfl (lv_at hl 0 rfl) ?_
      refine lv_iload_n S.1 S.2.1 d_V_isStraight_16 rfl (lv_at hl 1 rfl) ?_
      refine lv_irem S.1 S.2.1 d_V_isStraight_17 (by rw [c7]; decide) ?_
      refine lv_if_ne (tgt := 25) S.1 S.2.1 d_V_isStraight_18 (by decide) (fun c18 => ?_) (fun c18 => ?_)
      · refine lv_iconst (v := 0) S.1 S.2.1 d_V_isStraight_25 (by decide) ?_
        rw [show j_V_isStraight a0 a1 = 0 from by rw [j_V_isStraight, if_neg c2, if_pos c7, if_neg c18]]
        exact x_zret (v := 0) S hr hlk rfl hP hS d_V_isStraight_26
      · refine lv_iconst (v := 1) S.1 S.2.1 d_V_isStraight_21 (by decide) ?_
        refine lv_goto (tgt := 26) S.1 S.2.1 d_V_isStraight_22 (by decide) ?_
        rw [show j_V_isStraight a0 a1 = 1 from by rw [j_V_isStraight, if_neg c2, if_pos c7, if_pos c18]]
        exact x_zret (v := 1) S hr hlk rfl hP hS d_V_isStraight_26
    · refine lv_iload_n S.1 S.2.1 d_V_isStraight_10 rfl (lv_at hl 1 rfl) ?_
      refine lv_iconst (v := 4) S.1 S.2.1 d_V_isStraight_11 (by decide) ?_
      refine lv_icmp_ne (tgt := 25) S.1 S.2.1 d_V_isStraight_12 (by decide) (fun c12 => ?_) (fun c12 => ?_)
      · refine lv_iconst (v := 0) S.1 S.2.1 d_V_isStraight_25 (by decide) ?_
        rw [show j_V_isStraight a0 a1 = 0 from by rw [j_V_isStraight, if_neg c2, if_neg c7, if_neg c12]]
        exact x_zret (v := 0) S hr hlk rfl hP hS d_V_isStraight_26
      · refine lv_iload_n S.1 S.2.1 d_V_isStraight_15 rfl (lv_at hl 0 rfl) ?_
        refine lv_iload_n S.1 S.2.1 d_V_isStraight_16 rfl (lv_at hl 1 rfl) ?_
        refine lv_irem S.1 S.2.1 d_V_isStraight_17 (by rw [c12]; decide) ?_
        refine lv_if_ne (tgt := 25) S.1 S.2.1 d_V_isStraight_18 (by decide) (fun c18 => ?_) (fun c18 => ?_)
        · refine lv_iconst (v := 0) S.1 S.2.1 d_V_isStraight_25 (by decide) ?_
          rw [show j_V_isStraight a0 a1 = 0 from by rw [j_V_isStraight, if_neg c2, if_neg c7, if_pos c12, if_neg c18]]
          exact x_zret (v := 0) S hr hlk rfl hP hS d_V_isStraight_26
        · refine lv_iconst (v := 1) S.1 S.2.1 d_V_isStraight_21 (by decide) ?_
          refine lv_goto (tgt := 26) S.1 S.2.1 d_V_isStraight_22 (by decide) ?_
          rw [show j_V_isStraight a0 a1 = 1 from by rw [j_V_isStraight, if_neg c2, if_neg c7, if_pos c12, if_pos c18]]
          exact x_zret (v := 1) S hr hlk rfl hP hS d_V_isStraight_26
/-- PageVault.trapped(I)I -/
def j_V_trapped (V : VS) (a1 : Int32) : Int32 × VS :=
  ((-1), s_trap V a1)
set_option maxHeartbeats 4000000 in
set_option maxRecDepth 100000 in
theorem c_V_trapped (hE : xE ad n) (V : VS) (a1 : Int32) : XC l D ad n cI cS cQ y_V_trapped b_V_trapped 2 (some .int) ({ frames := 0, cells := 0, slots := 0, locals := 0 }) [.ref (ad 0), .int a1] V (some (.int (j_V_trapped V a1).1)) ((j_V_trapped V a1).2) := by
  refine FC_intro (by decide) (Nat.le_of_ble_eq_true rfl) ?_
  intro p e s m below meth c ls S hr hlk hK hP hS hl
  have S : CallFix p m c b_V_trapped 2 s _ TG "PageVault" := S
  have hl : lv_has ls 2 [(0, .ref (ad 0)), (1, .int a1)] := hl
  refine lv_aload_n S.1 S.2.1 d_V_trapped_0 rfl (lv_at hl 0 rfl) ?_
  refine lv_iload_n S.1 S.2.1 d_V_trapped_1 rfl (lv_at hl 1 rfl) ?_
  refine x_put_trap S hE hK hP hS tg_149 d_V_trapped_2 (fun H locs hP hS => ?_)
  refine lv_iconst (v := (-1)) S.1 S.2.1 d_V_trapped_5 (by decide) ?_
  rw [show j_V_trapped V a1 = ((-1), s_trap V a1) from by rw [j_V_trapped]]
  exact x_iret S hr hlk hP hS d_V_trapped_6
/-- PageVault.touch(LPageVault$Space;II)I -/
def j_V_touchN (V : VS) (a2 : Int32) (a3 : Int32) : Int32 × VS :=
  ((j_V_trapped V 1).1, (j_V_trapped V 1).2)
set_option maxHeartbeats 4000000 in
set_option maxRecDepth 100000 in
theorem c_V_touchN (hE : xE ad n) (V : VS) (a2 : Int32) (a3 : Int32) : XC l D ad n cI cS cQ y_V_touch b_V_touch 6 (some .int) ({ frames := 5, cells := 0, slots := 0, locals := 131 }) [.ref (ad 0), .null, .int a2, .int a3] V (some (.int (j_V_touchN V a2 a3).1)) ((j_V_touchN V a2 a3).2) := by
  refine FC_intro (by decide) (Nat.le_of_ble_eq_true rfl) ?_
  intro p e s m below meth c ls S hr hlk hK hP hS hl
  have S : CallFix p m c b_V_touch 6 s _ TG "PageVault" := S
  have hl : lv_has ls 6 [(0, .ref (ad 0)), (1, .null), (2, .int a2), (3, .int a3)] := hl
  refine lv_aload_nN S.1 S.2.1 d_V_touch_0 rfl (lv_at hl 1 rfl) ?_
  refine lv_ifnullN (tgt := 11) S.1 S.2.1 d_V_touch_1 (by decide) ?_
  refine lv_aload_n S.1 S.2.1 d_V_touch_11 rfl (lv_at hl 0 rfl) ?_
  refine lv_iconst (v := 1) S.1 S.2.1 d_V_touch_12 (by decide) ?_
  refine x_callVi (As := [.int 1]) (rest := []) S hK ci_V_111 (c_V_trapped l D ad n cI cS cQ hE V 1) (x_recV hK hP) hP hS ⟨rfl, rfl, Nat.le_of_ble_eq_true rfl, Nat.le_of_ble_eq_true rfl⟩ rfl hl.1 rfl (Nat.le_of_ble_eq_true rfl) d_V_touch_13 (fun H locs hP hS => ?_)
  rw [show j_V_touchN V a2 a3 = ((j_V_trapped V 1).1, (j_V_trapped V 1).2) from by rw [j_V_touchN]]
  exact x_iret S hr hlk hP hS d_V_touch_16
/-- PageVault$Frames.wordOf(I)I -/
def j_F_wordOf (a0 : Int32) : Int32 :=
  ju (a0 &&& 4095) 2
set_option maxHeartbeats 4000000 in
set_option maxRecDepth 100000 in
theorem c_F_wordOf (hE : xE ad n) (V : VS) (a0 : Int32) : XC l D ad n cI cS cQ y_F_wordOf b_F_wordOf 1 (some .int) ({ frames := 0, cells := 0, slots := 0, locals := 0 }) [.int a0] V (some (.int (j_F_wordOf a0))) (V) := by
  refine FC_intro (by decide) (Nat.le_of_ble_eq_true rfl) ?_
  intro p e s m below meth c ls S hr hlk hK hP hS hl
  have S : CallFix p m c b_F_wordOf 1 s _ TG "PageVault$Frames" := S
  have hl : lv_has ls 1 [(0, .int a0)] := hl
  refine lv_iload_n S.1 S.2.1 d_F_wordOf_0 rfl (lv_at hl 0 rfl) ?_
  refine lv_sipush (v := 4095) S.1 S.2.1 d_F_wordOf_1 (by decide) ?_
  refine lv_iand S.1 S.2.1 d_F_wordOf_4 ?_
  refine lv_iconst (v := 2) S.1 S.2.1 d_F_wordOf_5 (by decide) ?_
  refine lv_iushr (v := ju (a0 &&& 4095) 2) S.1 S.2.1 d_F_wordOf_6 rfl ?_
  rw [show j_F_wordOf a0 = ju (a0 &&& 4095) 2 from by rw [j_F_wordOf]]
  exact x_iret S hr hlk hP hS d_F_wordOf_7
/-- PageVault$Frames.bitOf(I)I -/
def j_F_bitOf (a0 : Int32) : Int32 :=
  (a0 &&& 3) * 8
set_option maxHeartbeats 4000000 in
set_option maxRecDepth 100000 in
theorem c_F_bitOf (hE : xE ad n) (V : VS) (a0 : Int32) : XC l D ad n cI cS cQ y_F_bitOf b_F_bitOf 1 (some .int) ({ frames := 0, cells := 0, slots := 0, locals := 0 }) [.int a0] V (some (.int (j_F_bitOf a0))) (V) := by
  refine FC_intro (by decide) (Nat.le_of_ble_eq_true rfl) ?_
  intro p e s m below meth c ls S hr hlk hK hP hS hl
  have S : CallFix p m c b_F_bitOf 1 s _ TG "PageVault$Frames" := S
  have hl : lv_has ls 1 [(0, .int a0)] := hl
  refine lv_iload_n S.1 S.2.1 d_F_bitOf_0 rfl (lv_at hl 0 rfl) ?_
  refine lv_iconst (v := 3) S.1 S.2.1 d_F_bitOf_1 (by decide) ?_
  refine lv_iand S.1 S.2.1 d_F_bitOf_2 ?_
  refine lv_bipush (v := 8) S.1 S.2.1 d_F_bitOf_3 (by decide) ?_
  refine lv_imul S.1 S.2.1 d_F_bitOf_5 ?_
  rw [show j_F_bitOf a0 = (a0 &&& 3) * 8 from by rw [j_F_bitOf]]
  exact x_iret S hr hlk hP hS d_F_bitOf_6
/-- PageVault$Frames.mask(I)I -/
def j_F_mask (a0 : Int32) : Int32 :=
  ju (-1) (32 - (8 * a0))
set_option maxHeartbeats 4000000 in
set_option maxRecDepth 100000 in
theorem c_F_mask (hE : xE ad n) (V : VS) (a0 : Int32) : XC l D ad n cI cS cQ y_F_mask b_F_mask 1 (some .int) ({ frames := 0, cells := 0, slots := 0, locals := 0 }) [.int a0] V (some (.int (j_F_mask a0))) (V) := by
  refine FC_intro (by decide) (Nat.le_of_ble_eq_true rfl) ?_
  intro p e s m below meth c ls S hr hlk hK hP hS hl
  have S : CallFix p m c b_F_mask 1 s _ TG "PageVault$Frames" := S
  have hl : lv_has ls 1 [(0, .int a0)] := hl
  refine lv_iconst (v := (-1)) S.1 S.2.1 d_F_mask_0 (by decide) ?_
  refine lv_bipush (v := 32) S.1 S.2.1 d_F_mask_1 (by decide) ?_
  refine lv_bipush (v := 8) S.1 S.2.1 d_F_mask_3 (by decide) ?_
  refine lv_iload_n S.1 S.2.1 d_F_mask_5 rfl (lv_at hl 0 rfl) ?_
  refine lv_imul S.1 S.2.1 d_F_mask_6 ?_
  refine lv_isub S.1 S.2.1 d_F_mask_7 ?_
  refine lv_iushr (v := ju (-1) (32 - (8 * a0))) S.1 S.2.1 d_F_mask_8 rfl ?_
  rw [show j_F_mask a0 = ju (-1) (32 - (8 * a0)) from by rw [j_F_mask]]
  exact x_iret S hr hlk hP hS d_F_mask_9
/-- PageVault$Frames.read(III)I -/
def j_F_read (n : Nat) (V : VS) (a1 : Int32) (a2 : Int32) (a3 : Int32) : Int32 :=
  (ju (j_F_word n V a1 (j_F_wordOf a2)) (j_F_bitOf a2)) &&& (j_F_mask a3)
set_option maxHeartbeats 4000000 in
set_option maxRecDepth 100000 in
theorem c_F_read (hE : xE ad n) (V : VS) (a1 : Int32) (a2 : Int32) (a3 : Int32) : XC l D ad n cI cS cQ y_F_read b_F_read 4 (some .int) ({ frames := 1, cells := 0, slots := 0, locals := 22 }) [.ref (ad 1), .int a1, .int a2, .int a3] V (some (.int (j_F_read n V a1 a2 a3))) (V) := by
  refine FC_intro (by decide) (Nat.le_of_ble_eq_true rfl) ?_
  intro p e s m below meth c ls S hr hlk hK hP hS hl
  have S : CallFix p m c b_F_read 4 s _ TG "PageVault$Frames" := S
  have hl : lv_has ls 4 [(0, .ref (ad 1)), (1, .int a1), (2, .int a2), (3, .int a3)] := hl
  refine lv_aload_n S.1 S.2.1 d_F_read_0 rfl (lv_at hl 0 rfl) ?_
  refine lv_iload_n S.1 S.2.1 d_F_read_1 rfl (lv_at hl 1 rfl) ?_
  refine lv_iload_n S.1 S.2.1 d_F_read_2 rfl (lv_at hl 2 rfl) ?_
  refine x_callSi (As := [.int a2]) (rest := [.int a1, .ref (ad 1)]) S hK ci_F_40 (c_F_wordOf l D ad n cI cS cQ hE V a2) hP hS ⟨rfl, rfl, Nat.le_of_ble_eq_true rfl, Nat.le_of_ble_eq_true rfl⟩ rfl hl.1 rfl (Nat.le_of_ble_eq_true rfl) d_F_read_3 (fun H locs hP hS => ?_)
  refine x_callVi (As := [.int a1, .int (j_F_wordOf a2)]) (rest := []) S hK ci_F_44 (c_F_word l D ad n cI cS cQ hE V a1 (j_F_wordOf a2)) (x_recF hK hP) hP hS ⟨rfl, rfl, Nat.le_of_ble_eq_true rfl, Nat.le_of_ble_eq_true rfl⟩ rfl hl.1 rfl (Nat.le_of_ble_eq_true rfl) d_F_read_6 (fun H locs hP hS => ?_)
  refine lv_iload_n S.1 S.2.1 d_F_read_9 rfl (lv_at hl 2 rfl) ?_
  refine x_callSi (As := [.int a2]) (rest := [.int (j_F_word n V a1 (j_F_wordOf a2))]) S hK ci_F_48 (c_F_bitOf l D ad n cI cS cQ hE V a2) hP hS ⟨rfl, rfl, Nat.le_of_ble_eq_true rfl, Nat.le_of_ble_eq_true rfl⟩ rfl hl.1 rfl (Nat.le_of_ble_eq_true rfl) d_F_read_10 (fun H locs hP hS => ?_)
  refine lv_iushr (v := ju (j_F_word n V a1 (j_F_wordOf a2)) (j_F_bitOf a2)) S.1 S.2.1 d_F_read_13 rfl ?_
  refine lv_iload_n S.1 S.2.1 d_F_read_14 rfl (lv_at hl 3 rfl) ?_
  refine x_callSi (As := [.int a3]) (rest := [.int (ju (j_F_word n V a1 (j_F_wordOf a2)) (j_F_bitOf a2))]) S hK ci_F_51 (c_F_mask l D ad n cI cS cQ hE V a3) hP hS ⟨rfl, rfl, Nat.le_of_ble_eq_true rfl, Nat.le_of_ble_eq_true rfl⟩ rfl hl.1 rfl (Nat.le_of_ble_eq_true rfl) d_F_read_15 (fun H locs hP hS => ?_)
  refine lv_iand S.1 S.2.1 d_F_read_18 ?_
  rw [show j_F_read n V a1 a2 a3 = (ju (j_F_word n V a1 (j_F_wordOf a2)) (j_F_bitOf a2)) &&& (j_F_mask a3) from by rw [j_F_read]]
  exact x_iret S hr hlk hP hS d_F_read_19
/-- PageVault$Frames.holders(I)I -/
def j_F_holders (n : Nat) (V : VS) (a1 : Int32) : Int32 :=
  if (j_F_isFrame n a1) = 0 then
    0
  else
    v_hold V a1.toNatClampNeg
set_option maxHeartbeats 4000000 in
set_option maxRecDepth 100000 in
theorem c_F_holders (hE : xE ad n) (V : VS) (a1 : Int32) : XC l D ad n cI cS cQ y_F_holders b_F_holders 2 (some .int) ({ frames := 1, cells := 0, slots := 0, locals := 21 }) [.ref (ad 1), .int a1] V (some (.int (j_F_holders n V a1))) (V) := by
  refine FC_intro (by decide) (Nat.le_of_ble_eq_true rfl) ?_
  intro p e s m below meth c ls S hr hlk hK hP hS hl
  have S : CallFix p m c b_F_holders 2 s _ TG "PageVault$Frames" := S
  have hl : lv_has ls 2 [(0, .ref (ad 1)), (1, .int a1)] := hl
  refine lv_aload_n S.1 S.2.1 d_F_holders_0 rfl (lv_at hl 0 rfl) ?_
  refine lv_iload_n S.1 S.2.1 d_F_holders_1 rfl (lv_at hl 1 rfl) ?_
  refine x_callVi (As := [.int a1]) (rest := []) S hK ci_F_30 (c_F_isFrame l D ad n cI cS cQ hE V a1) (x_recF hK hP) hP hS ⟨rfl, rfl, Nat.le_of_ble_eq_true rfl, Nat.le_of_ble_eq_true rfl⟩ rfl hl.1 rfl (Nat.le_of_ble_eq_true rfl) d_F_holders_2 (fun H locs hP hS => ?_)
  refine lv_if_eq (tgt := 17) S.1 S.2.1 d_F_holders_5 (by decide) (fun c5 => ?_) (fun c5 => ?_)
  · refine lv_iconst (v := 0) S.1 S.2.1 d_F_holders_17 (by decide) ?_
    rw [show j_F_holders n V a1 = 0 from by rw [j_F_holders, if_pos c5]]
    exact x_iret S hr hlk hP hS d_F_holders_18
  · refine lv_aload_n S.1 S.2.1 d_F_holders_8 rfl (lv_at hl 0 rfl) ?_
    refine x_get_holders S hK hP tg_20 d_F_holders_9 ?_
    refine lv_iload_n S.1 S.2.1 d_F_holders_12 rfl (lv_at hl 1 rfl) ?_
    refine x_ald_holders S hK hP (isFrame_in hE c5) d_F_holders_13 ?_
    refine lv_goto (tgt := 18) S.1 S.2.1 d_F_holders_14 (by decide) ?_
    rw [show j_F_holders n V a1 = v_hold V a1.toNatClampNeg from by rw [j_F_holders, if_neg c5]]
    exact x_iret S hr hlk hP hS d_F_holders_18
/-- PageVault.flagsOf(I)I -/
def j_V_flagsOf (a0 : Int32) : Int32 :=
  a0 &&& 15
set_option maxHeartbeats 4000000 in
set_option maxRecDepth 100000 in
theorem c_V_flagsOf (hE : xE ad n) (V : VS) (a0 : Int32) : XC l D ad n cI cS cQ y_V_flagsOf b_V_flagsOf 1 (some .int) ({ frames := 0, cells := 0, slots := 0, locals := 0 }) [.int a0] V (some (.int (j_V_flagsOf a0))) (V) := by
  refine FC_intro (by decide) (Nat.le_of_ble_eq_true rfl) ?_
  intro p e s m below meth c ls S hr hlk hK hP hS hl
  have S : CallFix p m c b_V_flagsOf 1 s _ TG "PageVault" := S
  have hl : lv_has ls 1 [(0, .int a0)] := hl
  refine lv_iload_n S.1 S.2.1 d_V_flagsOf_0 rfl (lv_at hl 0 rfl) ?_
  refine lv_bipush (v := 15) S.1 S.2.1 d_V_flagsOf_1 (by decide) ?_
  refine lv_iand S.1 S.2.1 d_V_flagsOf_3 ?_
  rw [show j_V_flagsOf a0 = a0 &&& 15 from by rw [j_V_flagsOf]]
  exact x_iret S hr hlk hP hS d_V_flagsOf_4
/-- PageVault$Space.partPage(I)I -/
def j_S_partPage (n : Nat) (V : VS) (k : Nat) (a1 : Int32) : Int32 × VS :=
  if ((j_F_take n V).1) = (-1) then
    ((-1), (j_F_take n V).2)
  else
    ((j_F_take n V).1, j_S_setEntry n (j_F_release n (j_F_copyWords n ((j_F_take n V).2) (j_V_frameOf (j_S_entryAt n ((j_F_take n V).2) k a1)) ((j_F_take n V).1)) (j_V_frameOf (j_S_entryAt n ((j_F_take n V).2) k a1))) k a1 (j_V_entryOf ((j_F_take n V).1) (j_V_flagsOf (j_S_entryAt n ((j_F_take n V).2) k a1))))
set_option maxHeartbeats 4000000 in
set_option maxRecDepth 100000 in
theorem c_S_partPage (hE : xE ad n) (V : VS) (k : Nat) (hk : k < 16) (a1 : Int32) : XC l D ad n cI cS cQ y_S_partPage b_S_partPage 4 (some .int) ({ frames := 3, cells := 0, slots := 0, locals := 65 }) [.ref (ad (6 + k)), .int a1] V (some (.int (j_S_partPage n V k a1).1)) ((j_S_partPage n V k a1).2) := by
  refine FC_intro (by decide) (Nat.le_of_ble_eq_true rfl) ?_
  intro p e s m below meth c ls S hr hlk hK hP hS hl
  have S : CallFix p m c b_S_partPage 4 s _ TG "PageVault$Space" := S
  have hl : lv_has ls 4 [(0, .ref (ad (6 + k))), (1, .int a1)] := hl
  refine lv_aload_n S.1 S.2.1 d_S_partPage_0 rfl (lv_at hl 0 rfl) ?_
  refine x_get_sframes S hK hP hk tg_19 d_S_partPage_1 ?_
  refine x_callVi (As := []) (rest := []) S hK ci_S_22 (c_F_take l D ad n cI cS cQ hE V) (x_recF hK hP) hP hS ⟨rfl, rfl, Nat.le_of_ble_eq_true rfl, Nat.le_of_ble_eq_true rfl⟩ rfl hl.1 rfl (Nat.le_of_ble_eq_true rfl) d_S_partPage_4 (fun H locs hP hS => ?_)
  refine lv_istore_n (lv' := [(2, .int ((j_F_take n V).1)), (0, .ref (ad (6 + k))), (1, .int a1)]) S.1 S.2.1 d_S_partPage_7 rfl hl (by decide) rfl (fun ls hl => ?_)
  refine lv_iload_n S.1 S.2.1 d_S_partPage_8 rfl (lv_at hl 0 rfl) ?_
  refine lv_iconst (v := (-1)) S.1 S.2.1 d_S_partPage_9 (by decide) ?_
  refine lv_icmp_ne (tgt := 15) S.1 S.2.1 d_S_partPage_10 (by decide) (fun c10 => ?_) (fun c10 => ?_)
  · refine lv_aload_n S.1 S.2.1 d_S_partPage_15 rfl (lv_at hl 1 rfl) ?_
    refine lv_iload_n S.1 S.2.1 d_S_partPage_16 rfl (lv_at hl 2 rfl) ?_
    refine x_callVi (As := [.int a1]) (rest := []) S hK ci_S_75 (c_S_entryAt l D ad n cI cS cQ hE ((j_F_take n V).2) k hk a1) (x_recS hK hP hk) hP hS ⟨rfl, rfl, Nat.le_of_ble_eq_true rfl, Nat.le_of_ble_eq_true rfl⟩ rfl hl.1 rfl (Nat.le_of_ble_eq_true rfl) d_S_partPage_17 (fun H locs hP hS => ?_)
    refine lv_istore_n (lv' := [(3, .int (j_S_entryAt n ((j_F_take n V).2) k a1)), (2, .int ((j_F_take n V).1)), (0, .ref (ad (6 + k))), (1, .int a1)]) S.1 S.2.1 d_S_partPage_20 rfl hl (by decide) rfl (fun ls hl => ?_)
    refine lv_aload_n S.1 S.2.1 d_S_partPage_21 rfl (lv_at hl 2 rfl) ?_
    refine x_get_sframes S hK hP hk tg_19 d_S_partPage_22 ?_
    refine lv_iload_n S.1 S.2.1 d_S_partPage_25 rfl (lv_at hl 0 rfl) ?_
    refine x_callNi (As := [.int (j_S_entryAt n ((j_F_take n V).2) k a1)]) (rest := [.ref (ad 1)]) S hK ci_S_78 (hK.2 _ nl_0) (c_V_frameOf l D ad n cI cS cQ hE ((j_F_take n V).2) (j_S_entryAt n ((j_F_take n V).2) k a1)) hP hS ⟨rfl, rfl, Nat.le_of_ble_eq_true rfl, Nat.le_of_ble_eq_true rfl⟩ rfl hl.1 rfl (Nat.le_of_ble_eq_true rfl) d_S_partPage_26 (fun H locs hP hS => ?_)
    refine lv_iload_n S.1 S.2.1 d_S_partPage_29 rfl (lv_at hl 1 rfl) ?_
    refine x_callVv (As := [.int (j_V_frameOf (j_S_entryAt n ((j_F_take n V).2) k a1)), .int ((j_F_take n V).1)]) (rest := []) S hK ci_S_81 (c_F_copyWords l D ad n cI cS cQ hE ((j_F_take n V).2) (j_V_frameOf (j_S_entryAt n ((j_F_take n V).2) k a1)) ((j_F_take n V).1)) (x_recF hK hP) hP hS ⟨rfl, rfl, Nat.le_of_ble_eq_true rfl, Nat.le_of_ble_eq_true rfl⟩ rfl hl.1 rfl (Nat.le_of_ble_eq_true rfl) d_S_partPage_30 (fun H locs hP hS => ?_)
    refine lv_aload_n S.1 S.2.1 d_S_partPage_33 rfl (lv_at hl 2 rfl) ?_
    refine x_get_sframes S hK hP hk tg_19 d_S_partPage_34 ?_
    refine lv_iload_n S.1 S.2.1 d_S_partPage_37 rfl (lv_at hl 0 rfl) ?_
    refine x_callNi (As := [.int (j_S_entryAt n ((j_F_take n V).2) k a1)]) (rest := [.ref (ad 1)]) S hK ci_S_78 (hK.2 _ nl_0) (c_V_frameOf l D ad n cI cS cQ hE (j_F_copyWords n ((j_F_take n V).2) (j_V_frameOf (j_S_entryAt n ((j_F_take n V).2) k a1)) ((j_F_take n V).1)) (j_S_entryAt n ((j_F_take n V).2) k a1)) hP hS ⟨rfl, rfl, Nat.le_of_ble_eq_true rfl, Nat.le_of_ble_eq_true rfl⟩ rfl hl.1 rfl (Nat.le_of_ble_eq_true rfl) d_S_partPage_38 (fun H locs hP hS => ?_)
    refine x_callVv (As := [.int (j_V_frameOf (j_S_entryAt n ((j_F_take n V).2) k a1))]) (rest := []) S hK ci_S_36 (c_F_release l D ad n cI cS cQ hE (j_F_copyWords n ((j_F_take n V).2) (j_V_frameOf (j_S_entryAt n ((j_F_take n V).2) k a1)) ((j_F_take n V).1)) (j_V_frameOf (j_S_entryAt n ((j_F_take n V).2) k a1))) (x_recF hK hP) hP hS ⟨rfl, rfl, Nat.le_of_ble_eq_true rfl, Nat.le_of_ble_eq_true rfl⟩ rfl hl.1 rfl (Nat.le_of_ble_eq_true rfl) d_S_partPage_41 (fun H locs hP hS => ?_)
    refine lv_aload_n S.1 S.2.1 d_S_partPage_44 rfl (lv_at hl 2 rfl) ?_
    refine lv_iload_n S.1 S.2.1 d_S_partPage_45 rfl (lv_at hl 3 rfl) ?_
    refine lv_iload_n S.1 S.2.1 d_S_partPage_46 rfl (lv_at hl 1 rfl) ?_
    refine lv_iload_n S.1 S.2.1 d_S_partPage_47 rfl (lv_at hl 0 rfl) ?_
    refine x_callNi (As := [.int (j_S_entryAt n ((j_F_take n V).2) k a1)]) (rest := [.int ((j_F_take n V).1), .int a1, .ref (ad (6 + k))]) S hK ci_S_85 (hK.2 _ nl_2) (c_V_flagsOf l D ad n cI cS cQ hE (j_F_release n (j_F_copyWords n ((j_F_take n V).2) (j_V_frameOf (j_S_entryAt n ((j_F_take n V).2) k a1)) ((j_F_take n V).1)) (j_V_frameOf (j_S_entryAt n ((j_F_take n V).2) k a1))) (j_S_entryAt n ((j_F_take n V).2) k a1)) hP hS ⟨rfl, rfl, Nat.le_of_ble_eq_true rfl, Nat.le_of_ble_eq_true rfl⟩ rfl hl.1 rfl (Nat.le_of_ble_eq_true rfl) d_S_partPage_48 (fun H locs hP hS => ?_)
    refine x_callNi (As := [.int ((j_F_take n V).1), .int (j_V_flagsOf (j_S_entryAt n ((j_F_take n V).2) k a1))]) (rest := [.int a1, .ref (ad (6 + k))]) S hK ci_S_72 (hK.2 _ nl_1) (c_V_entryOf l D ad n cI cS cQ hE (j_F_release n (j_F_copyWords n ((j_F_take n V).2) (j_V_frameOf (j_S_entryAt n ((j_F_take n V).2) k a1)) ((j_F_take n V).1)) (j_V_frameOf (j_S_entryAt n ((j_F_take n V).2) k a1))) ((j_F_take n V).1) (j_V_flagsOf (j_S_entryAt n ((j_F_take n V).2) k a1))) hP hS ⟨rfl, rfl, Nat.le_of_ble_eq_true rfl, Nat.le_of_ble_eq_true rfl⟩ rfl hl.1 rfl (Nat.le_of_ble_eq_true rfl) d_S_partPage_51 (fun H locs hP hS => ?_)
    refine x_callVv (As := [.int a1, .int (j_V_entryOf ((j_F_take n V).1) (j_V_flagsOf (j_S_entryAt n ((j_F_take n V).2) k a1)))]) (rest := []) S hK ci_S_88 (c_S_setEntry l D ad n cI cS cQ hE (j_F_release n (j_F_copyWords n ((j_F_take n V).2) (j_V_frameOf (j_S_entryAt n ((j_F_take n V).2) k a1)) ((j_F_take n V).1)) (j_V_frameOf (j_S_entryAt n ((j_F_take n V).2) k a1))) k hk a1 (j_V_entryOf ((j_F_take n V).1) (j_V_flagsOf (j_S_entryAt n ((j_F_take n V).2) k a1)))) (x_recS hK hP hk) hP hS ⟨rfl, rfl, Nat.le_of_ble_eq_true rfl, Nat.le_of_ble_eq_true rfl⟩ rfl hl.1 rfl (Nat.le_of_ble_eq_true rfl) d_S_partPage_54 (fun H locs hP hS => ?_)
    refine lv_iload_n S.1 S.2.1 d_S_partPage_57 rfl (lv_at hl 1 rfl) ?_
    rw [show j_S_partPage n V k a1 = ((j_F_take n V).1, j_S_setEntry n (j_F_release n (j_F_copyWords n ((j_F_take n V).2) (j_V_frameOf (j_S_entryAt n ((j_F_take n V).2) k a1)) ((j_F_take n V).1)) (j_V_frameOf (j_S_entryAt n ((j_F_take n V).2) k a1))) k a1 (j_V_entryOf ((j_F_take n V).1) (j_V_flagsOf (j_S_entryAt n ((j_F_take n V).2) k a1)))) from by rw [j_S_partPage, if_neg c10]]
    exact x_iret S hr hlk hP hS d_S_partPage_58
  · refine lv_iconst (v := (-1)) S.1 S.2.1 d_S_partPage_13 (by decide) ?_
    rw [show j_S_partPage n V k a1 = ((-1), (j_F_take n V).2) from by rw [j_S_partPage, if_pos c10]]
    exact x_iret S hr hlk hP hS d_S_partPage_14
/-- PageVault.frameOrFull(I)I -/
def j_V_frameOrFull (V : VS) (a1 : Int32) : Int32 × VS :=
  if a1 = (-1) then
    ((j_V_trapped V 3).1, (j_V_trapped V 3).2)
  else
    (a1, V)
set_option maxHeartbeats 4000000 in
set_option maxRecDepth 100000 in
theorem c_V_frameOrFull (hE : xE ad n) (V : VS) (a1 : Int32) : XC l D ad n cI cS cQ y_V_frameOrFull b_V_frameOrFull 2 (some .int) ({ frames := 1, cells := 0, slots := 0, locals := 21 }) [.ref (ad 0), .int a1] V (some (.int (j_V_frameOrFull V a1).1)) ((j_V_frameOrFull V a1).2) := by
  refine FC_intro (by decide) (Nat.le_of_ble_eq_true rfl) ?_
  intro p e s m below meth c ls S hr hlk hK hP hS hl
  have S : CallFix p m c b_V_frameOrFull 2 s _ TG "PageVault" := S
  have hl : lv_has ls 2 [(0, .ref (ad 0)), (1, .int a1)] := hl
  refine lv_iload_n S.1 S.2.1 d_V_frameOrFull_0 rfl (lv_at hl 1 rfl) ?_
  refine lv_iconst (v := (-1)) S.1 S.2.1 d_V_frameOrFull_1 (by decide) ?_
  refine lv_icmp_ne (tgt := 13) S.1 S.2.1 d_V_frameOrFull_2 (by decide) (fun c2 => ?_) (fun c2 => ?_)
  · refine lv_iload_n S.1 S.2.1 d_V_frameOrFull_13 rfl (lv_at hl 1 rfl) ?_
    rw [show j_V_frameOrFull V a1 = (a1, V) from by rw [j_V_frameOrFull, if_neg c2]]
    exact x_iret S hr hlk hP hS d_V_frameOrFull_14
  · refine lv_aload_n S.1 S.2.1 d_V_frameOrFull_5 rfl (lv_at hl 0 rfl) ?_
    refine lv_iconst (v := 3) S.1 S.2.1 d_V_frameOrFull_6 (by decide) ?_
    refine x_callVi (As := [.int 3]) (rest := []) S hK ci_V_111 (c_V_trapped l D ad n cI cS cQ hE V 3) (x_recV hK hP) hP hS ⟨rfl, rfl, Nat.le_of_ble_eq_true rfl, Nat.le_of_ble_eq_true rfl⟩ rfl hl.1 rfl (Nat.le_of_ble_eq_true rfl) d_V_frameOrFull_7 (fun H locs hP hS => ?_)
    refine lv_goto (tgt := 14) S.1 S.2.1 d_V_frameOrFull_10 (by decide) ?_
    rw [show j_V_frameOrFull V a1 = ((j_V_trapped V 3).1, (j_V_trapped V 3).2) from by rw [j_V_frameOrFull, if_pos c2]]
    exact x_iret S hr hlk hP hS d_V_frameOrFull_14
/-- PageVault.touchAbsent(LPageVault$Space;II)I -/
def j_V_touchAbsent (n : Nat) (V : VS) (k : Nat) (a2 : Int32) (a3 : Int32) : Int32 × VS :=
  if (j_S_length V k) ≤ a2 then
    ((j_V_trapped V 1).1, (j_V_trapped V 1).2)
  else
    if a3 = 4 then
      ((j_V_trapped V 1).1, (j_V_trapped V 1).2)
    else
      ((j_V_frameOrFull ((j_S_addPage n V k a2 11).2) ((j_S_addPage n V k a2 11).1)).1, (j_V_frameOrFull ((j_S_addPage n V k a2 11).2) ((j_S_addPage n V k a2 11).1)).2)
set_option maxHeartbeats 4000000 in
set_option maxRecDepth 100000 in
theorem c_V_touchAbsent (hE : xE ad n) (V : VS) (k : Nat) (hk : k < 16) (a2 : Int32) (a3 : Int32) : XC l D ad n cI cS cQ y_V_touchAbsent b_V_touchAbsent 4 (some .int) ({ frames := 4, cells := 0, slots := 0, locals := 108 }) [.ref (ad 0), .ref (ad (6 + k)), .int a2, .int a3] V (some (.int (j_V_touchAbsent n V k a2 a3).1)) ((j_V_touchAbsent n V k a2 a3).2) := by
  refine FC_intro (by decide) (Nat.le_of_ble_eq_true rfl) ?_
  intro p e s m below meth c ls S hr hlk hK hP hS hl
  have S : CallFix p m c b_V_touchAbsent 4 s _ TG "PageVault" := S
  have hl : lv_has ls 4 [(0, .ref (ad 0)), (1, .ref (ad (6 + k))), (2, .int a2), (3, .int a3)] := hl
  refine lv_iload_n S.1 S.2.1 d_V_touchAbsent_0 rfl (lv_at hl 2 rfl) ?_
  refine lv_aload_n S.1 S.2.1 d_V_touchAbsent_1 rfl (lv_at hl 1 rfl) ?_
  refine x_callVi (As := []) (rest := [.int a2]) S hK ci_V_91 (c_S_length l D ad n cI cS cQ hE V k hk) (x_recS hK hP hk) hP hS ⟨rfl, rfl, Nat.le_of_ble_eq_true rfl, Nat.le_of_ble_eq_true rfl⟩ rfl hl.1 rfl (Nat.le_of_ble_eq_true rfl) d_V_touchAbsent_2 (fun H locs hP hS => ?_)
  refine lv_icmp_ge (tgt := 13) S.1 S.2.1 d_V_touchAbsent_5 (by decide) (fun c5 => ?_) (fun c5 => ?_)
  · refine lv_aload_n S.1 S.2.1 d_V_touchAbsent_13 rfl (lv_at hl 0 rfl) ?_
    refine lv_iconst (v := 1) S.1 S.2.1 d_V_touchAbsent_14 (by decide) ?_
    refine x_callVi (As := [.int 1]) (rest := []) S hK ci_V_111 (c_V_trapped l D ad n cI cS cQ hE V 1) (x_recV hK hP) hP hS ⟨rfl, rfl, Nat.le_of_ble_eq_true rfl, Nat.le_of_ble_eq_true rfl⟩ rfl hl.1 rfl (Nat.le_of_ble_eq_true rfl) d_V_touchAbsent_15 (fun H locs hP hS => ?_)
    rw [show j_V_touchAbsent n V k a2 a3 = ((j_V_trapped V 1).1, (j_V_trapped V 1).2) from by rw [j_V_touchAbsent, if_pos c5]]
    exact x_iret S hr hlk hP hS d_V_touchAbsent_18
  · refine lv_iload_n S.1 S.2.1 d_V_touchAbsent_8 rfl (lv_at hl 3 rfl) ?_
    refine lv_iconst (v := 4) S.1 S.2.1 d_V_touchAbsent_9 (by decide) ?_
    refine lv_icmp_ne (tgt := 19) S.1 S.2.1 d_V_touchAbsent_10 (by decide) (fun c10 => ?_) (fun c10 => ?_)
    · refine lv_aload_n S.1 S.2.1 d_V_touchAbsent_19 rfl (lv_at hl 0 rfl) ?_
      refine lv_aload_n S.1 S.2.1 d_V_touchAbsent_20 rfl (lv_at hl 1 rfl) ?_
      refine lv_iload_n S.1 S.2.1 d_V_touchAbsent_21 rfl (lv_at hl 2 rfl) ?_
      refine lv_bipush (v := 11) S.1 S.2.1 d_V_touchAbsent_22 (by decide) ?_
      refine x_callVi (As := [.int a2, .int 11]) (rest := [.ref (ad 0)]) S hK ci_V_75 (c_S_addPage l D ad n cI cS cQ hE V k hk a2 11) (x_recS hK hP hk) hP hS ⟨rfl, rfl, Nat.le_of_ble_eq_true rfl, Nat.le_of_ble_eq_true rfl⟩ rfl hl.1 rfl (Nat.le_of_ble_eq_true rfl) d_V_touchAbsent_24 (fun H locs hP hS => ?_)
      refine x_callVi (As := [.int ((j_S_addPage n V k a2 11).1)]) (rest := []) S hK ci_V_155 (c_V_frameOrFull l D ad n cI cS cQ hE ((j_S_addPage n V k a2 11).2) ((j_S_addPage n V k a2 11).1)) (x_recV hK hP) hP hS ⟨rfl, rfl, Nat.le_of_ble_eq_true rfl, Nat.le_of_ble_eq_true rfl⟩ rfl hl.1 rfl (Nat.le_of_ble_eq_true rfl) d_V_touchAbsent_27 (fun H locs hP hS => ?_)
      rw [show j_V_touchAbsent n V k a2 a3 = ((j_V_frameOrFull ((j_S_addPage n V k a2 11).2) ((j_S_addPage n V k a2 11).1)).1, (j_V_frameOrFull ((j_S_addPage n V k a2 11).2) ((j_S_addPage n V k a2 11).1)).2) from by rw [j_V_touchAbsent, if_neg c5, if_neg c10]]
      exact x_iret S hr hlk hP hS d_V_touchAbsent_30
    · refine lv_aload_n S.1 S.2.1 d_V_touchAbsent_13 rfl (lv_at hl 0 rfl) ?_
      refine lv_iconst (v := 1) S.1 S.2.1 d_V_touchAbsent_14 (by decide) ?_
      refine x_callVi (As := [.int 1]) (rest := []) S hK ci_V_111 (c_V_trapped l D ad n cI cS cQ hE V 1) (x_recV hK hP) hP hS ⟨rfl, rfl, Nat.le_of_ble_eq_true rfl, Nat.le_of_ble_eq_true rfl⟩ rfl hl.1 rfl (Nat.le_of_ble_eq_true rfl) d_V_touchAbsent_15 (fun H locs hP hS => ?_)
      rw [show j_V_touchAbsent n V k a2 a3 = ((j_V_trapped V 1).1, (j_V_trapped V 1).2) from by rw [j_V_touchAbsent, if_neg c5, if_pos c10]]
      exact x_iret S hr hlk hP hS d_V_touchAbsent_18
end XW
end
section
section XW
variable (l : Launch) (D : va_G) (ad : Nat → Nat) (n : Nat) (cI cS cQ : ClassId)
/-- PageVault.touch(LPageVault$Space;II)I -/
def j_V_touch (n : Nat) (V : VS) (k : Nat) (a2 : Int32) (a3 : Int32) : Int32 × VS :=
  if (j_V_isUsers a2) = 0 then
    ((j_V_trapped V 1).1, (j_V_trapped V 1).2)
  else
    if (j_S_entryAt n V k a2) = 0 then
      ((j_V_touchAbsent n V k a2 a3).1, (j_V_touchAbsent n V k a2 a3).2)
    else
      if ((j_S_entryAt n V k a2) &&& 8) = 0 then
        ((j_V_trapped V 1).1, (j_V_trapped V 1).2)
      else
        if ((j_S_entryAt n V k a2) &&& a3) = 0 then
          ((j_V_trapped V 1).1, (j_V_trapped V 1).2)
        else
          if a3 = 2 then
            if (j_F_holders n V (j_V_frameOf (j_S_entryAt n V k a2))) ≤ 1 then
              (j_V_frameOf (j_S_entryAt n V k a2), V)
            else
              ((j_V_frameOrFull ((j_S_partPage n V k a2).2) ((j_S_partPage n V k a2).1)).1, (j_V_frameOrFull ((j_S_partPage n V k a2).2) ((j_S_partPage n V k a2).1)).2)
          else
            (j_V_frameOf (j_S_entryAt n V k a2), V)
set_option maxHeartbeats 4000000 in
set_option maxRecDepth 100000 in
theorem c_V_touch (hE : xE ad n) (V : VS) (k : Nat) (hk : k < 16) (a2 : Int32) (a3 : Int32) : XC l D ad n cI cS cQ y_V_touch b_V_touch 6 (some .int) ({ frames := 5, cells := 0, slots := 0, locals := 131 }) [.ref (ad 0), .ref (ad (6 + k)), .int a2, .int a3] V (some (.int (j_V_touch n V k a2 a3).1)) ((j_V_touch n V k a2 a3).2) := by
  refine FC_intro (by decide) (Nat.le_of_ble_eq_true rfl) ?_
  intro p e s m below meth c ls S hr hlk hK hP hS hl
  have S : CallFix p m c b_V_touch 6 s _ TG "PageVault" := S
  have hl : lv_has ls 6 [(0, .ref (ad 0)), (1, .ref (ad (6 + k))), (2, .int a2), (3, .int a3)] := hl
  refine lv_aload_n S.1 S.2.1 d_V_touch_0 rfl (lv_at hl 1 rfl) ?_
  refine lv_ifnull S.1 S.2.1 d_V_touch_1 ?_
  refine lv_iload_n S.1 S.2.1 d_V_touch_4 rfl (lv_at hl 2 rfl) ?_
  refine x_callSi (As := [.int a2]) (rest := []) S hK ci_V_135 (c_V_isUsers l D ad n cI cS cQ hE V a2) hP hS ⟨rfl, rfl, Nat.le_of_ble_eq_true rfl, Nat.le_of_ble_eq_true rfl⟩ rfl hl.1 rfl (Nat.le_of_ble_eq_true rfl) d_V_touch_5 (fun H locs hP hS => ?_)
  refine lv_if_ne (tgt := 17) S.1 S.2.1 d_V_touch_8 (by decide) (fun c8 => ?_) (fun c8 => ?_)
  · refine lv_aload_n S.1 S.2.1 d_V_touch_17 rfl (lv_at hl 1 rfl) ?_
    refine lv_iload_n S.1 S.2.1 d_V_touch_18 rfl (lv_at hl 2 rfl) ?_
    refine x_callVi (As := [.int a2]) (rest := []) S hK ci_V_71 (c_S_entryAt l D ad n cI cS cQ hE V k hk a2) (x_recS hK hP hk) hP hS ⟨rfl, rfl, Nat.le_of_ble_eq_true rfl, Nat.le_of_ble_eq_true rfl⟩ rfl hl.1 rfl (Nat.le_of_ble_eq_true rfl) d_V_touch_19 (fun H locs hP hS => ?_)
    refine lv_istore (lv' := [(4, .int (j_S_entryAt n V k a2)), (0, .ref (ad 0)), (1, .ref (ad (6 + k))), (2, .int a2), (3, .int a3)]) S.1 S.2.1 d_V_touch_22 hl (by decide) rfl (fun ls hl => ?_)
    refine lv_iload S.1 S.2.1 d_V_touch_24 (lv_at hl 0 rfl) ?_
    refine lv_if_ne (tgt := 37) S.1 S.2.1 d_V_touch_26 (by decide) (fun c26 => ?_) (fun c26 => ?_)
    · refine lv_iload S.1 S.2.1 d_V_touch_37 (lv_at hl 0 rfl) ?_
      refine lv_bipush (v := 8) S.1 S.2.1 d_V_touch_39 (by decide) ?_
      refine lv_iand S.1 S.2.1 d_V_touch_41 ?_
      refine lv_if_eq (tgt := 52) S.1 S.2.1 d_V_touch_42 (by decide) (fun c42 => ?_) (fun c42 => ?_)
      · refine lv_aload_n S.1 S.2.1 d_V_touch_52 rfl (lv_at hl 1 rfl) ?_
        refine lv_iconst (v := 1) S.1 S.2.1 d_V_touch_53 (by decide) ?_
        refine x_callVi (As := [.int 1]) (rest := []) S hK ci_V_111 (c_V_trapped l D ad n cI cS cQ hE V 1) (x_recV hK hP) hP hS ⟨rfl, rfl, Nat.le_of_ble_eq_true rfl, Nat.le_of_ble_eq_true rfl⟩ rfl hl.1 rfl (Nat.le_of_ble_eq_true rfl) d_V_touch_54 (fun H locs hP hS => ?_)
        rw [show j_V_touch n V k a2 a3 = ((j_V_trapped V 1).1, (j_V_trapped V 1).2) from by rw [j_V_touch, if_neg c8, if_neg c26, if_pos c42]]
        exact x_iret S hr hlk hP hS d_V_touch_57
      · refine lv_iload S.1 S.2.1 d_V_touch_45 (lv_at hl 0 rfl) ?_
        refine lv_iload_n S.1 S.2.1 d_V_touch_47 rfl (lv_at hl 4 rfl) ?_
        refine lv_iand S.1 S.2.1 d_V_touch_48 ?_
        refine lv_if_ne (tgt := 58) S.1 S.2.1 d_V_touch_49 (by decide) (fun c49 => ?_) (fun c49 => ?_)
        · refine lv_iload S.1 S.2.1 d_V_touch_58 (lv_at hl 0 rfl) ?_
          refine x_callSi (As := [.int (j_S_entryAt n V k a2)]) (rest := []) S hK ci_V_81 (c_V_frameOf l D ad n cI cS cQ hE V (j_S_entryAt n V k a2)) hP hS ⟨rfl, rfl, Nat.le_of_ble_eq_true rfl, Nat.le_of_ble_eq_true rfl⟩ rfl hl.1 rfl (Nat.le_of_ble_eq_true rfl) d_V_touch_60 (fun H locs hP hS => ?_)
          refine lv_istore (lv' := [(5, .int (j_V_frameOf (j_S_entryAt n V k a2))), (4, .int (j_S_entryAt n V k a2)), (0, .ref (ad 0)), (1, .ref (ad (6 + k))), (2, .int a2), (3, .int a3)]) S.1 S.2.1 d_V_touch_63 hl (by decide) rfl (fun ls hl => ?_)
          refine lv_iload_n S.1 S.2.1 d_V_touch_65 rfl (lv_at hl 5 rfl) ?_
          refine lv_iconst (v := 2) S.1 S.2.1 d_V_touch_66 (by decide) ?_
          refine lv_icmp_ne (tgt := 93) S.1 S.2.1 d_V_touch_67 (by decide) (fun c67 => ?_) (fun c67 => ?_)
          · refine lv_iload S.1 S.2.1 d_V_touch_93 (lv_at hl 0 rfl) ?_
            rw [show j_V_touch n V k a2 a3 = (j_V_frameOf (j_S_entryAt n V k a2), V) from by rw [j_V_touch, if_neg c8, if_neg c26, if_neg c42, if_neg c49, if_neg c67]]
            exact x_iret S hr hlk hP hS d_V_touch_95
          · refine lv_aload_n S.1 S.2.1 d_V_touch_70 rfl (lv_at hl 2 rfl) ?_
            refine x_get_frames S hK hP tg_12 d_V_touch_71 ?_
            refine lv_iload S.1 S.2.1 d_V_touch_74 (lv_at hl 0 rfl) ?_
            refine x_callVi (As := [.int (j_V_frameOf (j_S_entryAt n V k a2))]) (rest := []) S hK ci_V_128 (c_F_holders l D ad n cI cS cQ hE V (j_V_frameOf (j_S_entryAt n V k a2))) (x_recF hK hP) hP hS ⟨rfl, rfl, Nat.le_of_ble_eq_true rfl, Nat.le_of_ble_eq_true rfl⟩ rfl hl.1 rfl (Nat.le_of_ble_eq_true rfl) d_V_touch_76 (fun H locs hP hS => ?_)
            refine lv_iconst (v := 1) S.1 S.2.1 d_V_touch_79 (by decide) ?_
            refine lv_icmp_le (tgt := 93) S.1 S.2.1 d_V_touch_80 (by decide) (fun c80 => ?_) (fun c80 => ?_)
            · refine lv_iload S.1 S.2.1 d_V_touch_93 (lv_at hl 0 rfl) ?_
              rw [show j_V_touch n V k a2 a3 = (j_V_frameOf (j_S_entryAt n V k a2), V) from by rw [j_V_touch, if_neg c8, if_neg c26, if_neg c42, if_neg c49, if_pos c67, if_pos c80]]
              exact x_iret S hr hlk hP hS d_V_touch_95
            · refine lv_aload_n S.1 S.2.1 d_V_touch_83 rfl (lv_at hl 2 rfl) ?_
              refine lv_aload_n S.1 S.2.1 d_V_touch_84 rfl (lv_at hl 3 rfl) ?_
              refine lv_iload_n S.1 S.2.1 d_V_touch_85 rfl (lv_at hl 4 rfl) ?_
              refine x_callVi (As := [.int a2]) (rest := [.ref (ad 0)]) S hK ci_V_152 (c_S_partPage l D ad n cI cS cQ hE V k hk a2) (x_recS hK hP hk) hP hS ⟨rfl, rfl, Nat.le_of_ble_eq_true rfl, Nat.le_of_ble_eq_true rfl⟩ rfl hl.1 rfl (Nat.le_of_ble_eq_true rfl) d_V_touch_86 (fun H locs hP hS => ?_)
              refine x_callVi (As := [.int ((j_S_partPage n V k a2).1)]) (rest := []) S hK ci_V_155 (c_V_frameOrFull l D ad n cI cS cQ hE ((j_S_partPage n V k a2).2) ((j_S_partPage n V k a2).1)) (x_recV hK hP) hP hS ⟨rfl, rfl, Nat.le_of_ble_eq_true rfl, Nat.le_of_ble_eq_true rfl⟩ rfl hl.1 rfl (Nat.le_of_ble_eq_true rfl) d_V_touch_89 (fun H locs hP hS => ?_)
              rw [show j_V_touch n V k a2 a3 = ((j_V_frameOrFull ((j_S_partPage n V k a2).2) ((j_S_partPage n V k a2).1)).1, (j_V_frameOrFull ((j_S_partPage n V k a2).2) ((j_S_partPage n V k a2).1)).2) from by rw [j_V_touch, if_neg c8, if_neg c26, if_neg c42, if_neg c49, if_pos c67, if_neg c80]]
              exact x_iret S hr hlk hP hS d_V_touch_92
        · refine lv_aload_n S.1 S.2.1 d_V_touch_52 rfl (lv_at hl 1 rfl) ?_
          refine lv_iconst (v := 1) S.1 S.2.1 d_V_touch_53 (by decide) ?_
          refine x_callVi (As := [.int 1]) (rest := []) S hK ci_V_111 (c_V_trapped l D ad n cI cS cQ hE V 1) (x_recV hK hP) hP hS ⟨rfl, rfl, Nat.le_of_ble_eq_true rfl, Nat.le_of_ble_eq_true rfl⟩ rfl hl.1 rfl (Nat.le_of_ble_eq_true rfl) d_V_touch_54 (fun H locs hP hS => ?_)
          rw [show j_V_touch n V k a2 a3 = ((j_V_trapped V 1).1, (j_V_trapped V 1).2) from by rw [j_V_touch, if_neg c8, if_neg c26, if_neg c42, if_pos c49]]
          exact x_iret S hr hlk hP hS d_V_touch_57
    · refine lv_aload_n S.1 S.2.1 d_V_touch_29 rfl (lv_at hl 1 rfl) ?_
      refine lv_aload_n S.1 S.2.1 d_V_touch_30 rfl (lv_at hl 2 rfl) ?_
      refine lv_iload_n S.1 S.2.1 d_V_touch_31 rfl (lv_at hl 3 rfl) ?_
      refine lv_iload_n S.1 S.2.1 d_V_touch_32 rfl (lv_at hl 4 rfl) ?_
      refine x_callVi (As := [.ref (ad (6 + k)), .int a2, .int a3]) (rest := []) S hK ci_V_149 (c_V_touchAbsent l D ad n cI cS cQ hE V k hk a2 a3) (x_recV hK hP) hP hS ⟨rfl, rfl, Nat.le_of_ble_eq_true rfl, Nat.le_of_ble_eq_true rfl⟩ rfl hl.1 rfl (Nat.le_of_ble_eq_true rfl) d_V_touch_33 (fun H locs hP hS => ?_)
      rw [show j_V_touch n V k a2 a3 = ((j_V_touchAbsent n V k a2 a3).1, (j_V_touchAbsent n V k a2 a3).2) from by rw [j_V_touch, if_neg c8, if_pos c26]]
      exact x_iret S hr hlk hP hS d_V_touch_36
  · refine lv_aload_n S.1 S.2.1 d_V_touch_11 rfl (lv_at hl 0 rfl) ?_
    refine lv_iconst (v := 1) S.1 S.2.1 d_V_touch_12 (by decide) ?_
    refine x_callVi (As := [.int 1]) (rest := []) S hK ci_V_111 (c_V_trapped l D ad n cI cS cQ hE V 1) (x_recV hK hP) hP hS ⟨rfl, rfl, Nat.le_of_ble_eq_true rfl, Nat.le_of_ble_eq_true rfl⟩ rfl hl.1 rfl (Nat.le_of_ble_eq_true rfl) d_V_touch_13 (fun H locs hP hS => ?_)
    rw [show j_V_touch n V k a2 a3 = ((j_V_trapped V 1).1, (j_V_trapped V 1).2) from by rw [j_V_touch, if_pos c8]]
    exact x_iret S hr hlk hP hS d_V_touch_16
/-- PageVault.number(IIII)I -/
def j_V_number (n : Nat) (V : VS) (a1 : Int32) (a2 : Int32) (a3 : Int32) (a4 : Int32) : Int32 × VS :=
  if (j_V_isStraight a2 a3) = 0 then
    (0, (j_V_trapped (s_trap V 0) 2).2)
  else
    oc (j_V_find (s_trap V 0) a1) (
      if ((j_V_touchN (s_trap V 0) a2 a4).1) = (-1) then
        (0, (j_V_touchN (s_trap V 0) a2 a4).2)
      else
        (j_F_read n ((j_V_touchN (s_trap V 0) a2 a4).2) ((j_V_touchN (s_trap V 0) a2 a4).1) a2 a3, (j_V_touchN (s_trap V 0) a2 a4).2)) (fun k1 =>
      if ((j_V_touch n (s_trap V 0) k1 a2 a4).1) = (-1) then
        (0, (j_V_touch n (s_trap V 0) k1 a2 a4).2)
      else
        (j_F_read n ((j_V_touch n (s_trap V 0) k1 a2 a4).2) ((j_V_touch n (s_trap V 0) k1 a2 a4).1) a2 a3, (j_V_touch n (s_trap V 0) k1 a2 a4).2))
set_option maxHeartbeats 4000000 in
set_option maxRecDepth 100000 in
theorem c_V_number (hE : xE ad n) (V : VS) (a1 : Int32) (a2 : Int32) (a3 : Int32) (a4 : Int32) : XC l D ad n cI cS cQ y_V_number b_V_number 6 (some .int) ({ frames := 6, cells := 0, slots := 0, locals := 156 }) [.ref (ad 0), .int a1, .int a2, .int a3, .int a4] V (some (.int (j_V_number n V a1 a2 a3 a4).1)) ((j_V_number n V a1 a2 a3 a4).2) := by
  refine FC_intro (by decide) (Nat.le_of_ble_eq_true rfl) ?_
  intro p e s m below meth c ls S hr hlk hK hP hS hl
  have S : CallFix p m c b_V_number 6 s _ TG "PageVault" := S
  have hl : lv_has ls 6 [(0, .ref (ad 0)), (1, .int a1), (2, .int a2), (3, .int a3), (4, .int a4)] := hl
  refine lv_aload_n S.1 S.2.1 d_V_number_0 rfl (lv_at hl 0 rfl) ?_
  refine lv_iconst (v := 0) S.1 S.2.1 d_V_number_1 (by decide) ?_
  refine x_put_trap S hE hK hP hS tg_149 d_V_number_2 (fun H locs hP hS => ?_)
  refine lv_iload_n S.1 S.2.1 d_V_number_5 rfl (lv_at hl 2 rfl) ?_
  refine lv_iload_n S.1 S.2.1 d_V_number_6 rfl (lv_at hl 3 rfl) ?_
  refine x_callSi (As := [.int a2, .int a3]) (rest := []) S hK ci_V_107 (c_V_isStraight l D ad n cI cS cQ hE (s_trap V 0) a2 a3) hP hS ⟨rfl, rfl, Nat.le_of_ble_eq_true rfl, Nat.le_of_ble_eq_true rfl⟩ rfl hl.1 rfl (Nat.le_of_ble_eq_true rfl) d_V_number_7 (fun H locs hP hS => ?_)
  refine lv_if_ne (tgt := 21) S.1 S.2.1 d_V_number_10 (by decide) (fun c10 => ?_) (fun c10 => ?_)
  · refine lv_aload_n S.1 S.2.1 d_V_number_21 rfl (lv_at hl 0 rfl) ?_
    refine lv_aload_n S.1 S.2.1 d_V_number_22 rfl (lv_at hl 0 rfl) ?_
    refine lv_iload_n S.1 S.2.1 d_V_number_23 rfl (lv_at hl 1 rfl) ?_
    refine x_callVq (As := [.int a1]) (rest := [.ref (ad 0)]) S hK ci_V_50 (c_V_find l D ad n cI cS cQ hE (s_trap V 0) a1) (x_recV hK hP) hP hS ⟨rfl, rfl, Nat.le_of_ble_eq_true rfl, Nat.le_of_ble_eq_true rfl⟩ rfl hl.1 rfl (Nat.le_of_ble_eq_true rfl) d_V_number_24 (fun hk1 H locs hP hS => ?_) (fun k1 hk1 H locs hP hS => ?_)
    · refine lv_iload_n S.1 S.2.1 d_V_number_27 rfl (lv_at hl 2 rfl) ?_
      refine lv_iload S.1 S.2.1 d_V_number_28 (lv_at hl 4 rfl) ?_
      refine x_callVi (As := [.null, .int a2, .int a4]) (rest := []) S hK ci_V_138 (c_V_touchN l D ad n cI cS cQ hE (s_trap V 0) a2 a4) (x_recV hK hP) hP hS ⟨rfl, rfl, Nat.le_of_ble_eq_true rfl, Nat.le_of_ble_eq_true rfl⟩ rfl hl.1 rfl (Nat.le_of_ble_eq_true rfl) d_V_number_30 (fun H locs hP hS => ?_)
      refine lv_istore (lv' := [(5, .int ((j_V_touchN (s_trap V 0) a2 a4).1)), (0, .ref (ad 0)), (1, .int a1), (2, .int a2), (3, .int a3), (4, .int a4)]) S.1 S.2.1 d_V_number_33 hl (by decide) rfl (fun ls hl => ?_)
      refine lv_iload S.1 S.2.1 d_V_number_35 (lv_at hl 0 rfl) ?_
      refine lv_iconst (v := (-1)) S.1 S.2.1 d_V_number_37 (by decide) ?_
      refine lv_icmp_ne (tgt := 45) S.1 S.2.1 d_V_number_38 (by decide) (fun c38 => ?_) (fun c38 => ?_)
      · refine lv_aload_n S.1 S.2.1 d_V_number_45 rfl (lv_at hl 1 rfl) ?_
        refine x_get_frames S hK hP tg_12 d_V_number_46 ?_
        refine lv_iload S.1 S.2.1 d_V_number_49 (lv_at hl 0 rfl) ?_
        refine lv_iload_n S.1 S.2.1 d_V_number_51 rfl (lv_at hl 3 rfl) ?_
        refine lv_iload_n S.1 S.2.1 d_V_number_52 rfl (lv_at hl 4 rfl) ?_
        refine x_callVi (As := [.int ((j_V_touchN (s_trap V 0) a2 a4).1), .int a2, .int a3]) (rest := []) S hK ci_V_142 (c_F_read l D ad n cI cS cQ hE ((j_V_touchN (s_trap V 0) a2 a4).2) ((j_V_touchN (s_trap V 0) a2 a4).1) a2 a3) (x_recF hK hP) hP hS ⟨rfl, rfl, Nat.le_of_ble_eq_true rfl, Nat.le_of_ble_eq_true rfl⟩ rfl hl.1 rfl (Nat.le_of_ble_eq_true rfl) d_V_number_53 (fun H locs hP hS => ?_)
        rw [show j_V_number n V a1 a2 a3 a4 = (j_F_read n ((j_V_touchN (s_trap V 0) a2 a4).2) ((j_V_touchN (s_trap V 0) a2 a4).1) a2 a3, (j_V_touchN (s_trap V 0) a2 a4).2) from by rw [j_V_number, if_neg c10, oc_none hk1, if_neg c38]]
        exact x_iret S hr hlk hP hS d_V_number_56
      · refine lv_iconst (v := 0) S.1 S.2.1 d_V_number_41 (by decide) ?_
        refine lv_goto (tgt := 56) S.1 S.2.1 d_V_number_42 (by decide) ?_
        rw [show j_V_number n V a1 a2 a3 a4 = (0, (j_V_touchN (s_trap V 0) a2 a4).2) from by rw [j_V_number, if_neg c10, oc_none hk1, if_pos c38]]
        exact x_iret S hr hlk hP hS d_V_number_56
    · refine lv_iload_n S.1 S.2.1 d_V_number_27 rfl (lv_at hl 2 rfl) ?_
      refine lv_iload S.1 S.2.1 d_V_number_28 (lv_at hl 4 rfl) ?_
      refine x_callVi (As := [.ref (ad (6 + k1)), .int a2, .int a4]) (rest := []) S hK ci_V_138 (c_V_touch l D ad n cI cS cQ hE (s_trap V 0) k1 (find_lt hk1) a2 a4) (x_recV hK hP) hP hS ⟨rfl, rfl, Nat.le_of_ble_eq_true rfl, Nat.le_of_ble_eq_true rfl⟩ rfl hl.1 rfl (Nat.le_of_ble_eq_true rfl) d_V_number_30 (fun H locs hP hS => ?_)
      refine lv_istore (lv' := [(5, .int ((j_V_touch n (s_trap V 0) k1 a2 a4).1)), (0, .ref (ad 0)), (1, .int a1), (2, .int a2), (3, .int a3), (4, .int a4)]) S.1 S.2.1 d_V_number_33 hl (by decide) rfl (fun ls hl => ?_)
      refine lv_iload S.1 S.2.1 d_V_number_35 (lv_at hl 0 rfl) ?_
      refine lv_iconst (v := (-1)) S.1 S.2.1 d_V_number_37 (by decide) ?_
      refine lv_icmp_ne (tgt := 45) S.1 S.2.1 d_V_number_38 (by decide) (fun c38 => ?_) (fun c38 => ?_)
      · refine lv_aload_n S.1 S.2.1 d_V_number_45 rfl (lv_at hl 1 rfl) ?_
        refine x_get_frames S hK hP tg_12 d_V_number_46 ?_
        refine lv_iload S.1 S.2.1 d_V_number_49 (lv_at hl 0 rfl) ?_
        refine lv_iload_n S.1 S.2.1 d_V_number_51 rfl (lv_at hl 3 rfl) ?_
        refine lv_iload_n S.1 S.2.1 d_V_number_52 rfl (lv_at hl 4 rfl) ?_
        refine x_callVi (As := [.int ((j_V_touch n (s_trap V 0) k1 a2 a4).1), .int a2, .int a3]) (rest := []) S hK ci_V_142 (c_F_read l D ad n cI cS cQ hE ((j_V_touch n (s_trap V 0) k1 a2 a4).2) ((j_V_touch n (s_trap V 0) k1 a2 a4).1) a2 a3) (x_recF hK hP) hP hS ⟨rfl, rfl, Nat.le_of_ble_eq_true rfl, Nat.le_of_ble_eq_true rfl⟩ rfl hl.1 rfl (Nat.le_of_ble_eq_true rfl) d_V_number_53 (fun H locs hP hS => ?_)
        rw [show j_V_number n V a1 a2 a3 a4 = (j_F_read n ((j_V_touch n (s_trap V 0) k1 a2 a4).2) ((j_V_touch n (s_trap V 0) k1 a2 a4).1) a2 a3, (j_V_touch n (s_trap V 0) k1 a2 a4).2) from by rw [j_V_number, if_neg c10, oc_some hk1, if_neg c38]]
        exact x_iret S hr hlk hP hS d_V_number_56
      · refine lv_iconst (v := 0) S.1 S.2.1 d_V_number_41 (by decide) ?_
        refine lv_goto (tgt := 56) S.1 S.2.1 d_V_number_42 (by decide) ?_
        rw [show j_V_number n V a1 a2 a3 a4 = (0, (j_V_touch n (s_trap V 0) k1 a2 a4).2) from by rw [j_V_number, if_neg c10, oc_some hk1, if_pos c38]]
        exact x_iret S hr hlk hP hS d_V_number_56
  · refine lv_aload_n S.1 S.2.1 d_V_number_13 rfl (lv_at hl 0 rfl) ?_
    refine lv_iconst (v := 2) S.1 S.2.1 d_V_number_14 (by decide) ?_
    refine x_callVi (As := [.int 2]) (rest := []) S hK ci_V_111 (c_V_trapped l D ad n cI cS cQ hE (s_trap V 0) 2) (x_recV hK hP) hP hS ⟨rfl, rfl, Nat.le_of_ble_eq_true rfl, Nat.le_of_ble_eq_true rfl⟩ rfl hl.1 rfl (Nat.le_of_ble_eq_true rfl) d_V_number_15 (fun H locs hP hS => ?_)
    refine lv_pop S.1 S.2.1 d_V_number_18 rfl ?_
    refine lv_iconst (v := 0) S.1 S.2.1 d_V_number_19 (by decide) ?_
    rw [show j_V_number n V a1 a2 a3 a4 = (0, (j_V_trapped (s_trap V 0) 2).2) from by rw [j_V_number, if_pos c10]]
    exact x_iret S hr hlk hP hS d_V_number_20
/-- PageVault.load(III)I -/
def j_V_load (n : Nat) (V : VS) (a1 : Int32) (a2 : Int32) (a3 : Int32) : Int32 × VS :=
  ((j_V_number n V a1 a2 a3 1).1, (j_V_number n V a1 a2 a3 1).2)
set_option maxHeartbeats 4000000 in
set_option maxRecDepth 100000 in
theorem c_V_load (hE : xE ad n) (V : VS) (a1 : Int32) (a2 : Int32) (a3 : Int32) : XC l D ad n cI cS cQ y_V_load b_V_load 4 (some .int) ({ frames := 7, cells := 0, slots := 0, locals := 181 }) [.ref (ad 0), .int a1, .int a2, .int a3] V (some (.int (j_V_load n V a1 a2 a3).1)) ((j_V_load n V a1 a2 a3).2) := by
  refine FC_intro (by decide) (Nat.le_of_ble_eq_true rfl) ?_
  intro p e s m below meth c ls S hr hlk hK hP hS hl
  have S : CallFix p m c b_V_load 4 s _ TG "PageVault" := S
  have hl : lv_has ls 4 [(0, .ref (ad 0)), (1, .int a1), (2, .int a2), (3, .int a3)] := hl
  refine lv_aload_n S.1 S.2.1 d_V_load_0 rfl (lv_at hl 0 rfl) ?_
  refine lv_iload_n S.1 S.2.1 d_V_load_1 rfl (lv_at hl 1 rfl) ?_
  refine lv_iload_n S.1 S.2.1 d_V_load_2 rfl (lv_at hl 2 rfl) ?_
  refine lv_iload_n S.1 S.2.1 d_V_load_3 rfl (lv_at hl 3 rfl) ?_
  refine lv_iconst (v := 1) S.1 S.2.1 d_V_load_4 (by decide) ?_
  refine x_callVi (As := [.int a1, .int a2, .int a3, .int 1]) (rest := []) S hK ci_V_99 (c_V_number l D ad n cI cS cQ hE V a1 a2 a3 1) (x_recV hK hP) hP hS ⟨rfl, rfl, Nat.le_of_ble_eq_true rfl, Nat.le_of_ble_eq_true rfl⟩ rfl hl.1 rfl (Nat.le_of_ble_eq_true rfl) d_V_load_5 (fun H locs hP hS => ?_)
  rw [show j_V_load n V a1 a2 a3 = ((j_V_number n V a1 a2 a3 1).1, (j_V_number n V a1 a2 a3 1).2) from by rw [j_V_load]]
  exact x_iret S hr hlk hP hS d_V_load_8
/-- PageVault.fetch(II)I -/
def j_V_fetch (n : Nat) (V : VS) (a1 : Int32) (a2 : Int32) : Int32 × VS :=
  ((j_V_number n V a1 a2 4 4).1, (j_V_number n V a1 a2 4 4).2)
set_option maxHeartbeats 4000000 in
set_option maxRecDepth 100000 in
theorem c_V_fetch (hE : xE ad n) (V : VS) (a1 : Int32) (a2 : Int32) : XC l D ad n cI cS cQ y_V_fetch b_V_fetch 3 (some .int) ({ frames := 7, cells := 0, slots := 0, locals := 181 }) [.ref (ad 0), .int a1, .int a2] V (some (.int (j_V_fetch n V a1 a2).1)) ((j_V_fetch n V a1 a2).2) := by
  refine FC_intro (by decide) (Nat.le_of_ble_eq_true rfl) ?_
  intro p e s m below meth c ls S hr hlk hK hP hS hl
  have S : CallFix p m c b_V_fetch 3 s _ TG "PageVault" := S
  have hl : lv_has ls 3 [(0, .ref (ad 0)), (1, .int a1), (2, .int a2)] := hl
  refine lv_aload_n S.1 S.2.1 d_V_fetch_0 rfl (lv_at hl 0 rfl) ?_
  refine lv_iload_n S.1 S.2.1 d_V_fetch_1 rfl (lv_at hl 1 rfl) ?_
  refine lv_iload_n S.1 S.2.1 d_V_fetch_2 rfl (lv_at hl 2 rfl) ?_
  refine lv_iconst (v := 4) S.1 S.2.1 d_V_fetch_3 (by decide) ?_
  refine lv_iconst (v := 4) S.1 S.2.1 d_V_fetch_4 (by decide) ?_
  refine x_callVi (As := [.int a1, .int a2, .int 4, .int 4]) (rest := []) S hK ci_V_99 (c_V_number l D ad n cI cS cQ hE V a1 a2 4 4) (x_recV hK hP) hP hS ⟨rfl, rfl, Nat.le_of_ble_eq_true rfl, Nat.le_of_ble_eq_true rfl⟩ rfl hl.1 rfl (Nat.le_of_ble_eq_true rfl) d_V_fetch_5 (fun H locs hP hS => ?_)
  rw [show j_V_fetch n V a1 a2 = ((j_V_number n V a1 a2 4 4).1, (j_V_number n V a1 a2 4 4).2) from by rw [j_V_fetch]]
  exact x_iret S hr hlk hP hS d_V_fetch_8
/-- PageVault$Frames.write(IIII)V -/
def j_F_write (n : Nat) (V : VS) (a1 : Int32) (a2 : Int32) (a3 : Int32) (a4 : Int32) : VS :=
  j_F_setWord n V a1 (j_F_wordOf a2) (((j_F_word n V a1 (j_F_wordOf a2)) &&& (((j_F_mask a3) <<< ((j_F_bitOf a2) &&& 31)) ^^^ (-1))) ||| ((a4 &&& (j_F_mask a3)) <<< ((j_F_bitOf a2) &&& 31)))
set_option maxHeartbeats 4000000 in
set_option maxRecDepth 100000 in
theorem c_F_write (hE : xE ad n) (V : VS) (a1 : Int32) (a2 : Int32) (a3 : Int32) (a4 : Int32) : XC l D ad n cI cS cQ y_F_write b_F_write 6 none ({ frames := 1, cells := 0, slots := 0, locals := 23 }) [.ref (ad 1), .int a1, .int a2, .int a3, .int a4] V none (j_F_write n V a1 a2 a3 a4) := by
  refine FC_intro (by decide) (Nat.le_of_ble_eq_true rfl) ?_
  intro p e s m below meth c ls S hr hlk hK hP hS hl
  have S : CallFix p m c b_F_write 6 s _ TG "PageVault$Frames" := S
  have hl : lv_has ls 6 [(0, .ref (ad 1)), (1, .int a1), (2, .int a2), (3, .int a3), (4, .int a4)] := hl
  refine lv_aload_n S.1 S.2.1 d_F_write_0 rfl (lv_at hl 0 rfl) ?_
  refine lv_iload_n S.1 S.2.1 d_F_write_1 rfl (lv_at hl 1 rfl) ?_
  refine lv_iload_n S.1 S.2.1 d_F_write_2 rfl (lv_at hl 2 rfl) ?_
  refine x_callSi (As := [.int a2]) (rest := [.int a1, .ref (ad 1)]) S hK ci_F_40 (c_F_wordOf l D ad n cI cS cQ hE V a2) hP hS ⟨rfl, rfl, Nat.le_of_ble_eq_true rfl, Nat.le_of_ble_eq_true rfl⟩ rfl hl.1 rfl (Nat.le_of_ble_eq_true rfl) d_F_write_3 (fun H locs hP hS => ?_)
  refine x_callVi (As := [.int a1, .int (j_F_wordOf a2)]) (rest := []) S hK ci_F_44 (c_F_word l D ad n cI cS cQ hE V a1 (j_F_wordOf a2)) (x_recF hK hP) hP hS ⟨rfl, rfl, Nat.le_of_ble_eq_true rfl, Nat.le_of_ble_eq_true rfl⟩ rfl hl.1 rfl (Nat.le_of_ble_eq_true rfl) d_F_write_6 (fun H locs hP hS => ?_)
  refine lv_iload_n S.1 S.2.1 d_F_write_9 rfl (lv_at hl 3 rfl) ?_
  refine x_callSi (As := [.int a3]) (rest := [.int (j_F_word n V a1 (j_F_wordOf a2))]) S hK ci_F_51 (c_F_mask l D ad n cI cS cQ hE V a3) hP hS ⟨rfl, rfl, Nat.le_of_ble_eq_true rfl, Nat.le_of_ble_eq_true rfl⟩ rfl hl.1 rfl (Nat.le_of_ble_eq_true rfl) d_F_write_10 (fun H locs hP hS => ?_)
  refine lv_iload_n S.1 S.2.1 d_F_write_13 rfl (lv_at hl 2 rfl) ?_
  refine x_callSi (As := [.int a2]) (rest := [.int (j_F_mask a3), .int (j_F_word n V a1 (j_F_wordOf a2))]) S hK ci_F_48 (c_F_bitOf l D ad n cI cS cQ hE V a2) hP hS ⟨rfl, rfl, Nat.le_of_ble_eq_true rfl, Nat.le_of_ble_eq_true rfl⟩ rfl hl.1 rfl (Nat.le_of_ble_eq_true rfl) d_F_write_14 (fun H locs hP hS => ?_)
  refine lv_ishl S.1 S.2.1 d_F_write_17 ?_
  refine lv_iconst (v := (-1)) S.1 S.2.1 d_F_write_18 (by decide) ?_
  refine lv_ixor S.1 S.2.1 d_F_write_19 ?_
  refine lv_iand S.1 S.2.1 d_F_write_20 ?_
  refine lv_istore (lv' := [(5, .int ((j_F_word n V a1 (j_F_wordOf a2)) &&& (((j_F_mask a3) <<< ((j_F_bitOf a2) &&& 31)) ^^^ (-1)))), (0, .ref (ad 1)), (1, .int a1), (2, .int a2), (3, .int a3), (4, .int a4)]) S.1 S.2.1 d_F_write_21 hl (by decide) rfl (fun ls hl => ?_)
  refine lv_aload_n S.1 S.2.1 d_F_write_23 rfl (lv_at hl 1 rfl) ?_
  refine lv_iload_n S.1 S.2.1 d_F_write_24 rfl (lv_at hl 2 rfl) ?_
  refine lv_iload_n S.1 S.2.1 d_F_write_25 rfl (lv_at hl 3 rfl) ?_
  refine x_callSi (As := [.int a2]) (rest := [.int a1, .ref (ad 1)]) S hK ci_F_40 (c_F_wordOf l D ad n cI cS cQ hE V a2) hP hS ⟨rfl, rfl, Nat.le_of_ble_eq_true rfl, Nat.le_of_ble_eq_true rfl⟩ rfl hl.1 rfl (Nat.le_of_ble_eq_true rfl) d_F_write_26 (fun H locs hP hS => ?_)
  refine lv_iload S.1 S.2.1 d_F_write_29 (lv_at hl 0 rfl) ?_
  refine lv_iload S.1 S.2.1 d_F_write_31 (lv_at hl 5 rfl) ?_
  refine lv_iload_n S.1 S.2.1 d_F_write_33 rfl (lv_at hl 4 rfl) ?_
  refine x_callSi (As := [.int a3]) (rest := [.int a4, .int ((j_F_word n V a1 (j_F_wordOf a2)) &&& (((j_F_mask a3) <<< ((j_F_bitOf a2) &&& 31)) ^^^ (-1))), .int (j_F_wordOf a2), .int a1, .ref (ad 1)]) S hK ci_F_51 (c_F_mask l D ad n cI cS cQ hE V a3) hP hS ⟨rfl, rfl, Nat.le_of_ble_eq_true rfl, Nat.le_of_ble_eq_true rfl⟩ rfl hl.1 rfl (Nat.le_of_ble_eq_true rfl) d_F_write_34 (fun H locs hP hS => ?_)
  refine lv_iand S.1 S.2.1 d_F_write_37 ?_
  refine lv_iload_n S.1 S.2.1 d_F_write_38 rfl (lv_at hl 3 rfl) ?_
  refine x_callSi (As := [.int a2]) (rest := [.int (a4 &&& (j_F_mask a3)), .int ((j_F_word n V a1 (j_F_wordOf a2)) &&& (((j_F_mask a3) <<< ((j_F_bitOf a2) &&& 31)) ^^^ (-1))), .int (j_F_wordOf a2), .int a1, .ref (ad 1)]) S hK ci_F_48 (c_F_bitOf l D ad n cI cS cQ hE V a2) hP hS ⟨rfl, rfl, Nat.le_of_ble_eq_true rfl, Nat.le_of_ble_eq_true rfl⟩ rfl hl.1 rfl (Nat.le_of_ble_eq_true rfl) d_F_write_39 (fun H locs hP hS => ?_)
  refine lv_ishl S.1 S.2.1 d_F_write_42 ?_
  refine lv_ior S.1 S.2.1 d_F_write_43 ?_
  refine x_callVv (As := [.int a1, .int (j_F_wordOf a2), .int (((j_F_word n V a1 (j_F_wordOf a2)) &&& (((j_F_mask a3) <<< ((j_F_bitOf a2) &&& 31)) ^^^ (-1))) ||| ((a4 &&& (j_F_mask a3)) <<< ((j_F_bitOf a2) &&& 31)))]) (rest := []) S hK ci_F_54 (c_F_setWord l D ad n cI cS cQ hE V a1 (j_F_wordOf a2) (((j_F_word n V a1 (j_F_wordOf a2)) &&& (((j_F_mask a3) <<< ((j_F_bitOf a2) &&& 31)) ^^^ (-1))) ||| ((a4 &&& (j_F_mask a3)) <<< ((j_F_bitOf a2) &&& 31)))) (x_recF hK hP) hP hS ⟨rfl, rfl, Nat.le_of_ble_eq_true rfl, Nat.le_of_ble_eq_true rfl⟩ rfl hl.1 rfl (Nat.le_of_ble_eq_true rfl) d_F_write_44 (fun H locs hP hS => ?_)
  rw [show j_F_write n V a1 a2 a3 a4 = j_F_setWord n V a1 (j_F_wordOf a2) (((j_F_word n V a1 (j_F_wordOf a2)) &&& (((j_F_mask a3) <<< ((j_F_bitOf a2) &&& 31)) ^^^ (-1))) ||| ((a4 &&& (j_F_mask a3)) <<< ((j_F_bitOf a2) &&& 31))) from by rw [j_F_write]]
  exact x_vret S hr hlk hP hS d_F_write_47
/-- PageVault.write(LPageVault$Space;III)Z -/
def j_V_writeN (n : Nat) (V : VS) (a2 : Int32) (a3 : Int32) (a4 : Int32) : Int32 × VS :=
  if ((j_V_touchN V a2 2).1) = (-1) then
    (0, (j_V_touchN V a2 2).2)
  else
    (1, j_F_write n ((j_V_touchN V a2 2).2) ((j_V_touchN V a2 2).1) a2 a3 a4)
theorem z_writeN {n : Nat} {V : VS} {a2 a3 a4 : Int32} : narrow .boolean (.int (j_V_writeN n V a2 a3 a4).1) = .int (j_V_writeN n V a2 a3 a4).1 := by
  unfold j_V_writeN
  split <;> dsimp only <;> rfl
set_option maxHeartbeats 4000000 in
set_option maxRecDepth 100000 in
theorem c_V_writeN (hE : xE ad n) (V : VS) (a2 : Int32) (a3 : Int32) (a4 : Int32) : XC l D ad n cI cS cQ y_V_write b_V_write 6 (some .boolean) ({ frames := 6, cells := 0, slots := 0, locals := 156 }) [.ref (ad 0), .null, .int a2, .int a3, .int a4] V (some (.int (j_V_writeN n V a2 a3 a4).1)) ((j_V_writeN n V a2 a3 a4).2) := by
  refine FC_intro (by decide) (Nat.le_of_ble_eq_true rfl) ?_
  intro p e s m below meth c ls S hr hlk hK hP hS hl
  have S : CallFix p m c b_V_write 6 s _ TG "PageVault" := S
  have hl : lv_has ls 6 [(0, .ref (ad 0)), (1, .null), (2, .int a2), (3, .int a3), (4, .int a4)] := hl
  refine lv_aload_n S.1 S.2.1 d_V_write_0 rfl (lv_at hl 0 rfl) ?_
  refine lv_aload_nN S.1 S.2.1 d_V_write_1 rfl (lv_at hl 1 rfl) ?_
  refine lv_iload_n S.1 S.2.1 d_V_write_2 rfl (lv_at hl 2 rfl) ?_
  refine lv_iconst (v := 2) S.1 S.2.1 d_V_write_3 (by decide) ?_
  refine x_callVi (As := [.null, .int a2, .int 2]) (rest := []) S hK ci_V_138 (c_V_touchN l D ad n cI cS cQ hE V a2 2) (x_recV hK hP) hP hS ⟨rfl, rfl, Nat.le_of_ble_eq_true rfl, Nat.le_of_ble_eq_true rfl⟩ rfl hl.1 rfl (Nat.le_of_ble_eq_true rfl) d_V_write_4 (fun H locs hP hS => ?_)
  refine lv_istore (lv' := [(5, .int ((j_V_touchN V a2 2).1)), (0, .ref (ad 0)), (1, .null), (2, .int a2), (3, .int a3), (4, .int a4)]) S.1 S.2.1 d_V_write_7 hl (by decide) rfl (fun ls hl => ?_)
  refine lv_iload S.1 S.2.1 d_V_write_9 (lv_at hl 0 rfl) ?_
  refine lv_iconst (v := (-1)) S.1 S.2.1 d_V_write_11 (by decide) ?_
  refine lv_icmp_ne (tgt := 17) S.1 S.2.1 d_V_write_12 (by decide) (fun c12 => ?_) (fun c12 => ?_)
  · refine lv_aload_n S.1 S.2.1 d_V_write_17 rfl (lv_at hl 1 rfl) ?_
    refine x_get_frames S hK hP tg_12 d_V_write_18 ?_
    refine lv_iload S.1 S.2.1 d_V_write_21 (lv_at hl 0 rfl) ?_
    refine lv_iload_n S.1 S.2.1 d_V_write_23 rfl (lv_at hl 3 rfl) ?_
    refine lv_iload_n S.1 S.2.1 d_V_write_24 rfl (lv_at hl 4 rfl) ?_
    refine lv_iload S.1 S.2.1 d_V_write_25 (lv_at hl 5 rfl) ?_
    refine x_callVv (As := [.int ((j_V_touchN V a2 2).1), .int a2, .int a3, .int a4]) (rest := []) S hK ci_V_146 (c_F_write l D ad n cI cS cQ hE ((j_V_touchN V a2 2).2) ((j_V_touchN V a2 2).1) a2 a3 a4) (x_recF hK hP) hP hS ⟨rfl, rfl, Nat.le_of_ble_eq_true rfl, Nat.le_of_ble_eq_true rfl⟩ rfl hl.1 rfl (Nat.le_of_ble_eq_true rfl) d_V_write_27 (fun H locs hP hS => ?_)
    refine lv_iconst (v := 1) S.1 S.2.1 d_V_write_30 (by decide) ?_
    rw [show j_V_writeN n V a2 a3 a4 = (1, j_F_write n ((j_V_touchN V a2 2).2) ((j_V_touchN V a2 2).1) a2 a3 a4) from by rw [j_V_writeN, if_neg c12]]
    exact x_zret (v := 1) S hr hlk rfl hP hS d_V_write_31
  · refine lv_iconst (v := 0) S.1 S.2.1 d_V_write_15 (by decide) ?_
    rw [show j_V_writeN n V a2 a3 a4 = (0, (j_V_touchN V a2 2).2) from by rw [j_V_writeN, if_pos c12]]
    exact x_zret (v := 0) S hr hlk rfl hP hS d_V_write_16
/-- PageVault.write(LPageVault$Space;III)Z -/
def j_V_write (n : Nat) (V : VS) (k : Nat) (a2 : Int32) (a3 : Int32) (a4 : Int32) : Int32 × VS :=
  if ((j_V_touch n V k a2 2).1) = (-1) then
    (0, (j_V_touch n V k a2 2).2)
  else
    (1, j_F_write n ((j_V_touch n V k a2 2).2) ((j_V_touch n V k a2 2).1) a2 a3 a4)
theorem z_write {n : Nat} {V : VS} {k : Nat} {a2 a3 a4 : Int32} : narrow .boolean (.int (j_V_write n V k a2 a3 a4).1) = .int (j_V_write n V k a2 a3 a4).1 := by
  unfold j_V_write
  split <;> dsimp only <;> rfl
set_option maxHeartbeats 4000000 in
set_option maxRecDepth 100000 in
theorem c_V_write (hE : xE ad n) (V : VS) (k : Nat) (hk : k < 16) (a2 : Int32) (a3 : Int32) (a4 : Int32) : XC l D ad n cI cS cQ y_V_write b_V_write 6 (some .boolean) ({ frames := 6, cells := 0, slots := 0, locals := 156 }) [.ref (ad 0), .ref (ad (6 + k)), .int a2, .int a3, .int a4] V (some (.int (j_V_write n V k a2 a3 a4).1)) ((j_V_write n V k a2 a3 a4).2) := by
  refine FC_intro (by decide) (Nat.le_of_ble_eq_true rfl) ?_
  intro p e s m below meth c ls S hr hlk hK hP hS hl
  have S : CallFix p m c b_V_write 6 s _ TG "PageVault" := S
  have hl : lv_has ls 6 [(0, .ref (ad 0)), (1, .ref (ad (6 + k))), (2, .int a2), (3, .int a3), (4, .int a4)] := hl
  refine lv_aload_n S.1 S.2.1 d_V_write_0 rfl (lv_at hl 0 rfl) ?_
  refine lv_aload_n S.1 S.2.1 d_V_write_1 rfl (lv_at hl 1 rfl) ?_
  refine lv_iload_n S.1 S.2.1 d_V_write_2 rfl (lv_at hl 2 rfl) ?_
  refine lv_iconst (v := 2) S.1 S.2.1 d_V_write_3 (by decide) ?_
  refine x_callVi (As := [.ref (ad (6 + k)), .int a2, .int 2]) (rest := []) S hK ci_V_138 (c_V_touch l D ad n cI cS cQ hE V k hk a2 2) (x_recV hK hP) hP hS ⟨rfl, rfl, Nat.le_of_ble_eq_true rfl, Nat.le_of_ble_eq_true rfl⟩ rfl hl.1 rfl (Nat.le_of_ble_eq_true rfl) d_V_write_4 (fun H locs hP hS => ?_)
  refine lv_istore (lv' := [(5, .int ((j_V_touch n V k a2 2).1)), (0, .ref (ad 0)), (1, .ref (ad (6 + k))), (2, .int a2), (3, .int a3), (4, .int a4)]) S.1 S.2.1 d_V_write_7 hl (by decide) rfl (fun ls hl => ?_)
  refine lv_iload S.1 S.2.1 d_V_write_9 (lv_at hl 0 rfl) ?_
  refine lv_iconst (v := (-1)) S.1 S.2.1 d_V_write_11 (by decide) ?_
  refine lv_icmp_ne (tgt := 17) S.1 S.2.1 d_V_write_12 (by decide) (fun c12 => ?_) (fun c12 => ?_)
  · refine lv_aload_n S.1 S.2.1 d_V_write_17 rfl (lv_at hl 1 rfl) ?_
    refine x_get_frames S hK hP tg_12 d_V_write_18 ?_
    refine lv_iload S.1 S.2.1 d_V_write_21 (lv_at hl 0 rfl) ?_
    refine lv_iload_n S.1 S.2.1 d_V_write_23 rfl (lv_at hl 3 rfl) ?_
    refine lv_iload_n S.1 S.2.1 d_V_write_24 rfl (lv_at hl 4 rfl) ?_
    refine lv_iload S.1 S.2.1 d_V_write_25 (lv_at hl 5 rfl) ?_
    refine x_callVv (As := [.int ((j_V_touch n V k a2 2).1), .int a2, .int a3, .int a4]) (rest := []) S hK ci_V_146 (c_F_write l D ad n cI cS cQ hE ((j_V_touch n V k a2 2).2) ((j_V_touch n V k a2 2).1) a2 a3 a4) (x_recF hK hP) hP hS ⟨rfl, rfl, Nat.le_of_ble_eq_true rfl, Nat.le_of_ble_eq_true rfl⟩ rfl hl.1 rfl (Nat.le_of_ble_eq_true rfl) d_V_write_27 (fun H locs hP hS => ?_)
    refine lv_iconst (v := 1) S.1 S.2.1 d_V_write_30 (by decide) ?_
    rw [show j_V_write n V k a2 a3 a4 = (1, j_F_write n ((j_V_touch n V k a2 2).2) ((j_V_touch n V k a2 2).1) a2 a3 a4) from by rw [j_V_write, if_neg c12]]
    exact x_zret (v := 1) S hr hlk rfl hP hS d_V_write_31
  · refine lv_iconst (v := 0) S.1 S.2.1 d_V_write_15 (by decide) ?_
    rw [show j_V_write n V k a2 a3 a4 = (0, (j_V_touch n V k a2 2).2) from by rw [j_V_write, if_pos c12]]
    exact x_zret (v := 0) S hr hlk rfl hP hS d_V_write_16
/-- PageVault.store(IIII)Z -/
def j_V_store (n : Nat) (V : VS) (a1 : Int32) (a2 : Int32) (a3 : Int32) (a4 : Int32) : Int32 × VS :=
  if (j_V_isStraight a2 a3) = 0 then
    (0, (j_V_trapped (s_trap V 0) 2).2)
  else
    oc (j_V_find (s_trap V 0) a1) (
      ((j_V_writeN n (s_trap V 0) a2 a3 a4).1, (j_V_writeN n (s_trap V 0) a2 a3 a4).2)) (fun k1 =>
      ((j_V_write n (s_trap V 0) k1 a2 a3 a4).1, (j_V_write n (s_trap V 0) k1 a2 a3 a4).2))
set_option maxHeartbeats 4000000 in
set_option maxRecDepth 100000 in
theorem c_V_store (hE : xE ad n) (V : VS) (a1 : Int32) (a2 : Int32) (a3 : Int32) (a4 : Int32) : XC l D ad n cI cS cQ y_V_store b_V_store 5 (some .boolean) ({ frames := 7, cells := 0, slots := 0, locals := 181 }) [.ref (ad 0), .int a1, .int a2, .int a3, .int a4] V (some (.int (j_V_store n V a1 a2 a3 a4).1)) ((j_V_store n V a1 a2 a3 a4).2) := by
  refine FC_intro (by decide) (Nat.le_of_ble_eq_true rfl) ?_
  intro p e s m below meth c ls S hr hlk hK hP hS hl
  have S : CallFix p m c b_V_store 5 s _ TG "PageVault" := S
  have hl : lv_has ls 5 [(0, .ref (ad 0)), (1, .int a1), (2, .int a2), (3, .int a3), (4, .int a4)] := hl
  refine lv_aload_n S.1 S.2.1 d_V_store_0 rfl (lv_at hl 0 rfl) ?_
  refine lv_iconst (v := 0) S.1 S.2.1 d_V_store_1 (by decide) ?_
  refine x_put_trap S hE hK hP hS tg_149 d_V_store_2 (fun H locs hP hS => ?_)
  refine lv_iload_n S.1 S.2.1 d_V_store_5 rfl (lv_at hl 2 rfl) ?_
  refine lv_iload_n S.1 S.2.1 d_V_store_6 rfl (lv_at hl 3 rfl) ?_
  refine x_callSi (As := [.int a2, .int a3]) (rest := []) S hK ci_V_107 (c_V_isStraight l D ad n cI cS cQ hE (s_trap V 0) a2 a3) hP hS ⟨rfl, rfl, Nat.le_of_ble_eq_true rfl, Nat.le_of_ble_eq_true rfl⟩ rfl hl.1 rfl (Nat.le_of_ble_eq_true rfl) d_V_store_7 (fun H locs hP hS => ?_)
  refine lv_if_ne (tgt := 21) S.1 S.2.1 d_V_store_10 (by decide) (fun c10 => ?_) (fun c10 => ?_)
  · refine lv_aload_n S.1 S.2.1 d_V_store_21 rfl (lv_at hl 0 rfl) ?_
    refine lv_aload_n S.1 S.2.1 d_V_store_22 rfl (lv_at hl 0 rfl) ?_
    refine lv_iload_n S.1 S.2.1 d_V_store_23 rfl (lv_at hl 1 rfl) ?_
    refine x_callVq (As := [.int a1]) (rest := [.ref (ad 0)]) S hK ci_V_50 (c_V_find l D ad n cI cS cQ hE (s_trap V 0) a1) (x_recV hK hP) hP hS ⟨rfl, rfl, Nat.le_of_ble_eq_true rfl, Nat.le_of_ble_eq_true rfl⟩ rfl hl.1 rfl (Nat.le_of_ble_eq_true rfl) d_V_store_24 (fun hk1 H locs hP hS => ?_) (fun k1 hk1 H locs hP hS => ?_)
    · refine lv_iload_n S.1 S.2.1 d_V_store_27 rfl (lv_at hl 2 rfl) ?_
      refine lv_iload_n S.1 S.2.1 d_V_store_28 rfl (lv_at hl 3 rfl) ?_
      refine lv_iload S.1 S.2.1 d_V_store_29 (lv_at hl 4 rfl) ?_
      refine x_callVi (As := [.null, .int a2, .int a3, .int a4]) (rest := []) S hK ci_V_114 (c_V_writeN l D ad n cI cS cQ hE (s_trap V 0) a2 a3 a4) (x_recV hK hP) hP hS ⟨rfl, rfl, Nat.le_of_ble_eq_true rfl, Nat.le_of_ble_eq_true rfl⟩ rfl hl.1 rfl (Nat.le_of_ble_eq_true rfl) d_V_store_31 (fun H locs hP hS => ?_)
      rw [show j_V_store n V a1 a2 a3 a4 = ((j_V_writeN n (s_trap V 0) a2 a3 a4).1, (j_V_writeN n (s_trap V 0) a2 a3 a4).2) from by rw [j_V_store, if_neg c10, oc_none hk1]]
      exact x_zret (v := (j_V_writeN n (s_trap V 0) a2 a3 a4).1) S hr hlk z_writeN hP hS d_V_store_34
    · refine lv_iload_n S.1 S.2.1 d_V_store_27 rfl (lv_at hl 2 rfl) ?_
      refine lv_iload_n S.1 S.2.1 d_V_store_28 rfl (lv_at hl 3 rfl) ?_
      refine lv_iload S.1 S.2.1 d_V_store_29 (lv_at hl 4 rfl) ?_
      refine x_callVi (As := [.ref (ad (6 + k1)), .int a2, .int a3, .int a4]) (rest := []) S hK ci_V_114 (c_V_write l D ad n cI cS cQ hE (s_trap V 0) k1 (find_lt hk1) a2 a3 a4) (x_recV hK hP) hP hS ⟨rfl, rfl, Nat.le_of_ble_eq_true rfl, Nat.le_of_ble_eq_true rfl⟩ rfl hl.1 rfl (Nat.le_of_ble_eq_true rfl) d_V_store_31 (fun H locs hP hS => ?_)
      rw [show j_V_store n V a1 a2 a3 a4 = ((j_V_write n (s_trap V 0) k1 a2 a3 a4).1, (j_V_write n (s_trap V 0) k1 a2 a3 a4).2) from by rw [j_V_store, if_neg c10, oc_some hk1]]
      exact x_zret (v := (j_V_write n (s_trap V 0) k1 a2 a3 a4).1) S hr hlk z_write hP hS d_V_store_34
  · refine lv_aload_n S.1 S.2.1 d_V_store_13 rfl (lv_at hl 0 rfl) ?_
    refine lv_iconst (v := 2) S.1 S.2.1 d_V_store_14 (by decide) ?_
    refine x_callVi (As := [.int 2]) (rest := []) S hK ci_V_111 (c_V_trapped l D ad n cI cS cQ hE (s_trap V 0) 2) (x_recV hK hP) hP hS ⟨rfl, rfl, Nat.le_of_ble_eq_true rfl, Nat.le_of_ble_eq_true rfl⟩ rfl hl.1 rfl (Nat.le_of_ble_eq_true rfl) d_V_store_15 (fun H locs hP hS => ?_)
    refine lv_pop S.1 S.2.1 d_V_store_18 rfl ?_
    refine lv_iconst (v := 0) S.1 S.2.1 d_V_store_19 (by decide) ?_
    rw [show j_V_store n V a1 a2 a3 a4 = (0, (j_V_trapped (s_trap V 0) 2).2) from by rw [j_V_store, if_pos c10]]
    exact x_zret (v := 0) S hr hlk rfl hP hS d_V_store_20
/-- PageVault.trap()I -/
def j_V_trap (V : VS) : Int32 :=
  v_trap V
set_option maxHeartbeats 4000000 in
set_option maxRecDepth 100000 in
theorem c_V_trap (hE : xE ad n) (V : VS)  : XC l D ad n cI cS cQ y_V_trap b_V_trap 1 (some .int) ({ frames := 0, cells := 0, slots := 0, locals := 0 }) [.ref (ad 0)] V (some (.int (j_V_trap V))) (V) := by
  refine FC_intro (by decide) (Nat.le_of_ble_eq_true rfl) ?_
  intro p e s m below meth c ls S hr hlk hK hP hS hl
  have S : CallFix p m c b_V_trap 1 s _ TG "PageVault" := S
  have hl : lv_has ls 1 [(0, .ref (ad 0))] := hl
  refine lv_aload_n S.1 S.2.1 d_V_trap_0 rfl (lv_at hl 0 rfl) ?_
  refine x_get_trap S hK hP tg_149 d_V_trap_1 ?_
  rw [show j_V_trap V = v_trap V from by rw [j_V_trap]]
  exact x_iret S hr hlk hP hS d_V_trap_4
def j_V_out_h28 (n : Nat) : Nat → VS → Nat → Int32 → Int32 → Int32 → Int32 × VS
  | 0, V, _, _, _, _ => (0, V)
  | f + 1, V, k, a2, a3, x5 =>
      if a3 ≤ x5 then
        (a3, V)
      else
        if ((j_V_write n V k (a2 + x5) 1 (v_buf V x5.toNatClampNeg)).1) = 0 then
          (x5, (j_V_write n V k (a2 + x5) 1 (v_buf V x5.toNatClampNeg)).2)
        else
          j_V_out_h28 n f ((j_V_write n V k (a2 + x5) 1 (v_buf V x5.toNatClampNeg)).2) k a2 a3 (x5 + 1)
set_option maxHeartbeats 4000000 in
set_option maxRecDepth 100000 in
theorem w_V_out_h28 (hE : xE ad n) {p : Program} {e : Env} {s : State} {m : MethodId} {args : Array Value} {below : List Frame} {meth : Method} {c : Code} (S : CallFix p m c b_V_out 6 s args TG "PageVault") (hr : meth.sig.returnType = some .int) (hlk : meth.locks = false) (hK : xK D cI cS cQ s) :
    ∀ (f i : Nat) (k : Nat) (hk : k < 16) (a2 a3 x5 : Int32) (V : VS) (H : Heap) (locs : List Loc) (ls : Array Slot), x5 = nI i → i < 2 ^ 30 → a3.toNatClampNeg - i < f → ¬ a3 < 0 → a3 ≤ 512 → XP D ad n cI cS cQ V H → va_S (iA ad (xN n)) s.heap H locs → lv_has ls 6 [(0, .ref (ad 0)), (2, .int a2), (3, .int a3), (4, .ref (ad (6 + k))), (5, .int x5)] → W p l e ({ frames := 7, cells := 0, slots := 0, locals := 181 }) s m args below meth c H locs 0 0 (MQ below (gPost D ad (xN n) (some (.int (j_V_out_h28 n f V k a2 a3 x5).1)) (xc ad n cI cS cQ ((j_V_out_h28 n f V k a2 a3 x5).2))) args s 0 0 (iA ad (xN n))) (F0 m 28 ls []) := by
  intro f
  induction f with
  | zero =>
    intro i k hk a2 a3 x5 V H locs ls ek hi hf h3 h5 hP hS hl
    exact absurd hf (Nat.not_lt_zero _)
  | succ f ih =>
    intro i k hk a2 a3 x5 V H locs ls ek hi hf h3 h5 hP hS hl
    refine lv_iload S.1 S.2.1 d_V_out_28 (lv_at hl 4 rfl) ?_
    refine lv_iload_n S.1 S.2.1 d_V_out_30 rfl (lv_at hl 2 rfl) ?_
    refine lv_icmp_ge (tgt := 64) S.1 S.2.1 d_V_out_31 (by decide) (fun c31 => ?_) (fun c31 => ?_)
    · refine lv_iload_n S.1 S.2.1 d_V_out_64 rfl (lv_at hl 2 rfl) ?_
      rw [show j_V_out_h28 n (f + 1) V k a2 a3 x5 = (a3, V) from by rw [j_V_out_h28, if_pos c31]]
      exact x_iret S hr hlk hP hS d_V_out_65
    · refine lv_aload_n S.1 S.2.1 d_V_out_34 rfl (lv_at hl 0 rfl) ?_
      refine lv_aload S.1 S.2.1 d_V_out_35 (lv_at hl 3 rfl) ?_
      refine lv_iload_n S.1 S.2.1 d_V_out_37 rfl (lv_at hl 1 rfl) ?_
      refine lv_iload S.1 S.2.1 d_V_out_38 (lv_at hl 4 rfl) ?_
      refine lv_iadd S.1 S.2.1 d_V_out_40 ?_
      refine lv_iconst (v := 1) S.1 S.2.1 d_V_out_41 (by decide) ?_
      refine lv_aload_n S.1 S.2.1 d_V_out_42 rfl (lv_at hl 0 rfl) ?_
      refine x_get_buffer S hK hP tg_208 d_V_out_43 ?_
      refine lv_iload S.1 S.2.1 d_V_out_46 (lv_at hl 4 rfl) ?_
      refine x_ald_buffer S hK hP (vin_n h3 h5 (lp_nn ek hi) c31) d_V_out_48 ?_
      refine x_callVi (As := [.ref (ad (6 + k)), .int (a2 + x5), .int 1, .int (v_buf V x5.toNatClampNeg)]) (rest := []) S hK ci_V_114 (c_V_write l D ad n cI cS cQ hE V k hk (a2 + x5) 1 (v_buf V x5.toNatClampNeg)) (x_recV hK hP) hP hS ⟨rfl, rfl, Nat.le_of_ble_eq_true rfl, Nat.le_of_ble_eq_true rfl⟩ rfl hl.1 rfl (Nat.le_of_ble_eq_true rfl) d_V_out_49 (fun H locs hP hS => ?_)
      refine lv_if_ne (tgt := 58) S.1 S.2.1 d_V_out_52 (by decide) (fun c52 => ?_) (fun c52 => ?_)
      · refine lv_iinc (v := x5 + 1) (lv' := [(5, .int (x5 + 1)), (0, .ref (ad 0)), (2, .int a2), (3, .int a3), (4, .ref (ad (6 + k)))]) S.1 S.2.1 d_V_out_58 hl (k := 4) rfl rfl (by decide) rfl (fun ls hl => ?_)
        refine lv_goto (tgt := 28) S.1 S.2.1 d_V_out_61 (by decide) ?_
        have hn9 := hE.2
        have hn8 := c512 h3 h5
        have hB := lp_lt (B := a3.toNatClampNeg) (nI_self h3) (clamp_lt _) ek hi c31
        rw [show j_V_out_h28 n (f + 1) V k a2 a3 x5 = j_V_out_h28 n f ((j_V_write n V k (a2 + x5) 1 (v_buf V x5.toNatClampNeg)).2) k a2 a3 (x5 + 1) from by rw [j_V_out_h28, if_neg c31, if_neg c52]]
        exact ih (i + 1) k hk a2 a3 (x5 + 1) ((j_V_write n V k (a2 + x5) 1 (v_buf V x5.toNatClampNeg)).2) _ _ _ (by rw [ek]; exact nI_1 i) (by omega) (by omega) h3 h5 hP hS (lv_sub hl [1, 2, 3, 4, 0] rfl)
      · refine lv_iload S.1 S.2.1 d_V_out_55 (lv_at hl 4 rfl) ?_
        rw [show j_V_out_h28 n (f + 1) V k a2 a3 x5 = (x5, (j_V_write n V k (a2 + x5) 1 (v_buf V x5.toNatClampNeg)).2) from by rw [j_V_out_h28, if_neg c31, if_pos c52]]
        exact x_iret S hr hlk hP hS d_V_out_57
def j_V_out_h28N (n : Nat) : Nat → VS → Int32 → Int32 → Int32 → Int32 × VS
  | 0, V, _, _, _ => (0, V)
  | f + 1, V, a2, a3, x5 =>
      if a3 ≤ x5 then
        (a3, V)
      else
        if ((j_V_writeN n V (a2 + x5) 1 (v_buf V x5.toNatClampNeg)).1) = 0 then
          (x5, (j_V_writeN n V (a2 + x5) 1 (v_buf V x5.toNatClampNeg)).2)
        else
          j_V_out_h28N n f ((j_V_writeN n V (a2 + x5) 1 (v_buf V x5.toNatClampNeg)).2) a2 a3 (x5 + 1)
set_option maxHeartbeats 4000000 in
set_option maxRecDepth 100000 in
theorem w_V_out_h28N (hE : xE ad n) {p : Program} {e : Env} {s : State} {m : MethodId} {args : Array Value} {below : List Frame} {meth : Method} {c : Code} (S : CallFix p m c b_V_out 6 s args TG "PageVault") (hr : meth.sig.returnType = some .int) (hlk : meth.locks = false) (hK : xK D cI cS cQ s) :
    ∀ (f i : Nat) (a2 a3 x5 : Int32) (V : VS) (H : Heap) (locs : List Loc) (ls : Array Slot), x5 = nI i → i < 2 ^ 30 → a3.toNatClampNeg - i < f → ¬ a3 < 0 → a3 ≤ 512 → XP D ad n cI cS cQ V H → va_S (iA ad (xN n)) s.heap H locs → lv_has ls 6 [(0, .ref (ad 0)), (2, .int a2), (3, .int a3), (4, .null), (5, .int x5)] → W p l e ({ frames := 7, cells := 0, slots := 0, locals := 181 }) s m args below meth c H locs 0 0 (MQ below (gPost D ad (xN n) (some (.int (j_V_out_h28N n f V a2 a3 x5).1)) (xc ad n cI cS cQ ((j_V_out_h28N n f V a2 a3 x5).2))) args s 0 0 (iA ad (xN n))) (F0 m 28 ls []) := by
  intro f
  induction f with
  | zero =>
    intro i a2 a3 x5 V H locs ls ek hi hf h3 h5 hP hS hl
    exact absurd hf (Nat.not_lt_zero _)
  | succ f ih =>
    intro i a2 a3 x5 V H locs ls ek hi hf h3 h5 hP hS hl
    refine lv_iload S.1 S.2.1 d_V_out_28 (lv_at hl 4 rfl) ?_
    refine lv_iload_n S.1 S.2.1 d_V_out_30 rfl (lv_at hl 2 rfl) ?_
    refine lv_icmp_ge (tgt := 64) S.1 S.2.1 d_V_out_31 (by decide) (fun c31 => ?_) (fun c31 => ?_)
    · refine lv_iload_n S.1 S.2.1 d_V_out_64 rfl (lv_at hl 2 rfl) ?_
      rw [show j_V_out_h28N n (f + 1) V a2 a3 x5 = (a3, V) from by rw [j_V_out_h28N, if_pos c31]]
      exact x_iret S hr hlk hP hS d_V_out_65
    · refine lv_aload_n S.1 S.2.1 d_V_out_34 rfl (lv_at hl 0 rfl) ?_
      refine lv_aloadN S.1 S.2.1 d_V_out_35 (lv_at hl 3 rfl) ?_
      refine lv_iload_n S.1 S.2.1 d_V_out_37 rfl (lv_at hl 1 rfl) ?_
      refine lv_iload S.1 S.2.1 d_V_out_38 (lv_at hl 4 rfl) ?_
      refine lv_iadd S.1 S.2.1 d_V_out_40 ?_
      refine lv_iconst (v := 1) S.1 S.2.1 d_V_out_41 (by decide) ?_
      refine lv_aload_n S.1 S.2.1 d_V_out_42 rfl (lv_at hl 0 rfl) ?_
      refine x_get_buffer S hK hP tg_208 d_V_out_43 ?_
      refine lv_iload S.1 S.2.1 d_V_out_46 (lv_at hl 4 rfl) ?_
      refine x_ald_buffer S hK hP (vin_n h3 h5 (lp_nn ek hi) c31) d_V_out_48 ?_
      refine x_callVi (As := [.null, .int (a2 + x5), .int 1, .int (v_buf V x5.toNatClampNeg)]) (rest := []) S hK ci_V_114 (c_V_writeN l D ad n cI cS cQ hE V (a2 + x5) 1 (v_buf V x5.toNatClampNeg)) (x_recV hK hP) hP hS ⟨rfl, rfl, Nat.le_of_ble_eq_true rfl, Nat.le_of_ble_eq_true rfl⟩ rfl hl.1 rfl (Nat.le_of_ble_eq_true rfl) d_V_out_49 (fun H locs hP hS => ?_)
      refine lv_if_ne (tgt := 58) S.1 S.2.1 d_V_out_52 (by decide) (fun c52 => ?_) (fun c52 => ?_)
      · refine lv_iinc (v := x5 + 1) (lv' := [(5, .int (x5 + 1)), (0, .ref (ad 0)), (2, .int a2), (3, .int a3), (4, .null)]) S.1 S.2.1 d_V_out_58 hl (k := 4) rfl rfl (by decide) rfl (fun ls hl => ?_)
        refine lv_goto (tgt := 28) S.1 S.2.1 d_V_out_61 (by decide) ?_
        have hn9 := hE.2
        have hn8 := c512 h3 h5
        have hB := lp_lt (B := a3.toNatClampNeg) (nI_self h3) (clamp_lt _) ek hi c31
        rw [show j_V_out_h28N n (f + 1) V a2 a3 x5 = j_V_out_h28N n f ((j_V_writeN n V (a2 + x5) 1 (v_buf V x5.toNatClampNeg)).2) a2 a3 (x5 + 1) from by rw [j_V_out_h28N, if_neg c31, if_neg c52]]
        exact ih (i + 1)  a2 a3 (x5 + 1) ((j_V_writeN n V (a2 + x5) 1 (v_buf V x5.toNatClampNeg)).2) _ _ _ (by rw [ek]; exact nI_1 i) (by omega) (by omega) h3 h5 hP hS (lv_sub hl [1, 2, 3, 4, 0] rfl)
      · refine lv_iload S.1 S.2.1 d_V_out_55 (lv_at hl 4 rfl) ?_
        rw [show j_V_out_h28N n (f + 1) V a2 a3 x5 = (x5, (j_V_writeN n V (a2 + x5) 1 (v_buf V x5.toNatClampNeg)).2) from by rw [j_V_out_h28N, if_neg c31, if_pos c52]]
        exact x_iret S hr hlk hP hS d_V_out_57
end XW
end
section
section XW
variable (l : Launch) (D : va_G) (ad : Nat → Nat) (n : Nat) (cI cS cQ : ClassId)
/-- PageVault.out(III)I -/
def j_V_out (n : Nat) (V : VS) (a1 : Int32) (a2 : Int32) (a3 : Int32) : Int32 × VS :=
  if a3 < 0 then
    ((-1), s_trap V 0)
  else
    if a3 ≤ 512 then
      oc (j_V_find (s_trap V 0) a1) (
        j_V_out_h28N n (a3.toNatClampNeg + 1) (s_trap V 0) a2 a3 0) (fun k1 =>
        j_V_out_h28 n (a3.toNatClampNeg + 1) (s_trap V 0) k1 a2 a3 0)
    else
      ((-1), s_trap V 0)
set_option maxHeartbeats 4000000 in
set_option maxRecDepth 100000 in
theorem c_V_out (hE : xE ad n) (V : VS) (a1 : Int32) (a2 : Int32) (a3 : Int32) : XC l D ad n cI cS cQ y_V_out b_V_out 6 (some .int) ({ frames := 7, cells := 0, slots := 0, locals := 181 }) [.ref (ad 0), .int a1, .int a2, .int a3] V (some (.int (j_V_out n V a1 a2 a3).1)) ((j_V_out n V a1 a2 a3).2) := by
  refine FC_intro (by decide) (Nat.le_of_ble_eq_true rfl) ?_
  intro p e s m below meth c ls S hr hlk hK hP hS hl
  have S : CallFix p m c b_V_out 6 s _ TG "PageVault" := S
  have hl : lv_has ls 6 [(0, .ref (ad 0)), (1, .int a1), (2, .int a2), (3, .int a3)] := hl
  refine lv_aload_n S.1 S.2.1 d_V_out_0 rfl (lv_at hl 0 rfl) ?_
  refine lv_iconst (v := 0) S.1 S.2.1 d_V_out_1 (by decide) ?_
  refine x_put_trap S hE hK hP hS tg_149 d_V_out_2 (fun H locs hP hS => ?_)
  refine lv_iload_n S.1 S.2.1 d_V_out_5 rfl (lv_at hl 3 rfl) ?_
  refine lv_if_lt (tgt := 16) S.1 S.2.1 d_V_out_6 (by decide) (fun c6 => ?_) (fun c6 => ?_)
  · refine lv_iconst (v := (-1)) S.1 S.2.1 d_V_out_16 (by decide) ?_
    rw [show j_V_out n V a1 a2 a3 = ((-1), s_trap V 0) from by rw [j_V_out, if_pos c6]]
    exact x_iret S hr hlk hP hS d_V_out_17
  · refine lv_iload_n S.1 S.2.1 d_V_out_9 rfl (lv_at hl 3 rfl) ?_
    refine lv_sipush (v := 512) S.1 S.2.1 d_V_out_10 (by decide) ?_
    refine lv_icmp_le (tgt := 18) S.1 S.2.1 d_V_out_13 (by decide) (fun c13 => ?_) (fun c13 => ?_)
    · refine lv_aload_n S.1 S.2.1 d_V_out_18 rfl (lv_at hl 0 rfl) ?_
      refine lv_iload_n S.1 S.2.1 d_V_out_19 rfl (lv_at hl 1 rfl) ?_
      refine x_callVq (As := [.int a1]) (rest := []) S hK ci_V_50 (c_V_find l D ad n cI cS cQ hE (s_trap V 0) a1) (x_recV hK hP) hP hS ⟨rfl, rfl, Nat.le_of_ble_eq_true rfl, Nat.le_of_ble_eq_true rfl⟩ rfl hl.1 rfl (Nat.le_of_ble_eq_true rfl) d_V_out_20 (fun hk1 H locs hP hS => ?_) (fun k1 hk1 H locs hP hS => ?_)
      · refine lv_astoreN (lv' := [(4, .null), (0, .ref (ad 0)), (1, .int a1), (2, .int a2), (3, .int a3)]) S.1 S.2.1 d_V_out_23 hl (by decide) rfl (fun ls hl => ?_)
        refine lv_iconst (v := 0) S.1 S.2.1 d_V_out_25 (by decide) ?_
        refine lv_istore (lv' := [(5, .int 0), (4, .null), (0, .ref (ad 0)), (1, .int a1), (2, .int a2), (3, .int a3)]) S.1 S.2.1 d_V_out_26 hl (by decide) rfl (fun ls hl => ?_)
        rw [show j_V_out n V a1 a2 a3 = j_V_out_h28N n (a3.toNatClampNeg + 1) (s_trap V 0) a2 a3 0 from by rw [j_V_out, if_neg c6, if_pos c13, oc_none hk1]]
        exact w_V_out_h28N l D ad n cI cS cQ hE S hr hlk hK (a3.toNatClampNeg + 1) 0 a2 a3 0 (s_trap V 0) _ _ _ nI_0.symm (by decide) (by omega) c6 c13 hP hS (lv_sub hl [2, 4, 5, 1, 0] rfl)
      · refine lv_astore (lv' := [(4, .ref (ad (6 + k1))), (0, .ref (ad 0)), (1, .int a1), (2, .int a2), (3, .int a3)]) S.1 S.2.1 d_V_out_23 hl (by decide) rfl (fun ls hl => ?_)
        refine lv_iconst (v := 0) S.1 S.2.1 d_V_out_25 (by decide) ?_
        refine lv_istore (lv' := [(5, .int 0), (4, .ref (ad (6 + k1))), (0, .ref (ad 0)), (1, .int a1), (2, .int a2), (3, .int a3)]) S.1 S.2.1 d_V_out_26 hl (by decide) rfl (fun ls hl => ?_)
        rw [show j_V_out n V a1 a2 a3 = j_V_out_h28 n (a3.toNatClampNeg + 1) (s_trap V 0) k1 a2 a3 0 from by rw [j_V_out, if_neg c6, if_pos c13, oc_some hk1]]
        exact w_V_out_h28 l D ad n cI cS cQ hE S hr hlk hK (a3.toNatClampNeg + 1) 0 k1 (find_lt hk1) a2 a3 0 (s_trap V 0) _ _ _ nI_0.symm (by decide) (by omega) c6 c13 hP hS (lv_sub hl [2, 4, 5, 1, 0] rfl)
    · refine lv_iconst (v := (-1)) S.1 S.2.1 d_V_out_16 (by decide) ?_
      rw [show j_V_out n V a1 a2 a3 = ((-1), s_trap V 0) from by rw [j_V_out, if_neg c6, if_neg c13]]
      exact x_iret S hr hlk hP hS d_V_out_17
/-- PageVault.readByte(LPageVault$Space;I)I -/
def j_V_readByte (n : Nat) (V : VS) (k : Nat) (a2 : Int32) : Int32 × VS :=
  if ((j_V_touch n V k a2 1).1) = (-1) then
    ((-1), (j_V_touch n V k a2 1).2)
  else
    (j_F_read n ((j_V_touch n V k a2 1).2) ((j_V_touch n V k a2 1).1) a2 1, (j_V_touch n V k a2 1).2)
set_option maxHeartbeats 4000000 in
set_option maxRecDepth 100000 in
theorem c_V_readByte (hE : xE ad n) (V : VS) (k : Nat) (hk : k < 16) (a2 : Int32) : XC l D ad n cI cS cQ y_V_readByte b_V_readByte 4 (some .int) ({ frames := 6, cells := 0, slots := 0, locals := 156 }) [.ref (ad 0), .ref (ad (6 + k)), .int a2] V (some (.int (j_V_readByte n V k a2).1)) ((j_V_readByte n V k a2).2) := by
  refine FC_intro (by decide) (Nat.le_of_ble_eq_true rfl) ?_
  intro p e s m below meth c ls S hr hlk hK hP hS hl
  have S : CallFix p m c b_V_readByte 4 s _ TG "PageVault" := S
  have hl : lv_has ls 4 [(0, .ref (ad 0)), (1, .ref (ad (6 + k))), (2, .int a2)] := hl
  refine lv_aload_n S.1 S.2.1 d_V_readByte_0 rfl (lv_at hl 0 rfl) ?_
  refine lv_aload_n S.1 S.2.1 d_V_readByte_1 rfl (lv_at hl 1 rfl) ?_
  refine lv_iload_n S.1 S.2.1 d_V_readByte_2 rfl (lv_at hl 2 rfl) ?_
  refine lv_iconst (v := 1) S.1 S.2.1 d_V_readByte_3 (by decide) ?_
  refine x_callVi (As := [.ref (ad (6 + k)), .int a2, .int 1]) (rest := []) S hK ci_V_138 (c_V_touch l D ad n cI cS cQ hE V k hk a2 1) (x_recV hK hP) hP hS ⟨rfl, rfl, Nat.le_of_ble_eq_true rfl, Nat.le_of_ble_eq_true rfl⟩ rfl hl.1 rfl (Nat.le_of_ble_eq_true rfl) d_V_readByte_4 (fun H locs hP hS => ?_)
  refine lv_istore_n (lv' := [(3, .int ((j_V_touch n V k a2 1).1)), (0, .ref (ad 0)), (1, .ref (ad (6 + k))), (2, .int a2)]) S.1 S.2.1 d_V_readByte_7 rfl hl (by decide) rfl (fun ls hl => ?_)
  refine lv_iload_n S.1 S.2.1 d_V_readByte_8 rfl (lv_at hl 0 rfl) ?_
  refine lv_iconst (v := (-1)) S.1 S.2.1 d_V_readByte_9 (by decide) ?_
  refine lv_icmp_ne (tgt := 17) S.1 S.2.1 d_V_readByte_10 (by decide) (fun c10 => ?_) (fun c10 => ?_)
  · refine lv_aload_n S.1 S.2.1 d_V_readByte_17 rfl (lv_at hl 1 rfl) ?_
    refine x_get_frames S hK hP tg_12 d_V_readByte_18 ?_
    refine lv_iload_n S.1 S.2.1 d_V_readByte_21 rfl (lv_at hl 0 rfl) ?_
    refine lv_iload_n S.1 S.2.1 d_V_readByte_22 rfl (lv_at hl 3 rfl) ?_
    refine lv_iconst (v := 1) S.1 S.2.1 d_V_readByte_23 (by decide) ?_
    refine x_callVi (As := [.int ((j_V_touch n V k a2 1).1), .int a2, .int 1]) (rest := []) S hK ci_V_142 (c_F_read l D ad n cI cS cQ hE ((j_V_touch n V k a2 1).2) ((j_V_touch n V k a2 1).1) a2 1) (x_recF hK hP) hP hS ⟨rfl, rfl, Nat.le_of_ble_eq_true rfl, Nat.le_of_ble_eq_true rfl⟩ rfl hl.1 rfl (Nat.le_of_ble_eq_true rfl) d_V_readByte_24 (fun H locs hP hS => ?_)
    rw [show j_V_readByte n V k a2 = (j_F_read n ((j_V_touch n V k a2 1).2) ((j_V_touch n V k a2 1).1) a2 1, (j_V_touch n V k a2 1).2) from by rw [j_V_readByte, if_neg c10]]
    exact x_iret S hr hlk hP hS d_V_readByte_27
  · refine lv_iconst (v := (-1)) S.1 S.2.1 d_V_readByte_13 (by decide) ?_
    refine lv_goto (tgt := 27) S.1 S.2.1 d_V_readByte_14 (by decide) ?_
    rw [show j_V_readByte n V k a2 = ((-1), (j_V_touch n V k a2 1).2) from by rw [j_V_readByte, if_pos c10]]
    exact x_iret S hr hlk hP hS d_V_readByte_27
def j_V_in_h28 (n : Nat) : Nat → VS → Nat → Int32 → Int32 → Int32 → Int32 × VS
  | 0, V, _, _, _, _ => (0, V)
  | f + 1, V, k, a2, a3, x5 =>
      if a3 ≤ x5 then
        (a3, V)
      else
        if ((j_V_readByte n V k (a2 + x5)).1) = (-1) then
          (x5, (j_V_readByte n V k (a2 + x5)).2)
        else
          j_V_in_h28 n f (s_buf ((j_V_readByte n V k (a2 + x5)).2) x5.toNatClampNeg ((j_V_readByte n V k (a2 + x5)).1)) k a2 a3 (x5 + 1)
set_option maxHeartbeats 4000000 in
set_option maxRecDepth 100000 in
theorem w_V_in_h28 (hE : xE ad n) {p : Program} {e : Env} {s : State} {m : MethodId} {args : Array Value} {below : List Frame} {meth : Method} {c : Code} (S : CallFix p m c b_V_in 7 s args TG "PageVault") (hr : meth.sig.returnType = some .int) (hlk : meth.locks = false) (hK : xK D cI cS cQ s) :
    ∀ (f i : Nat) (k : Nat) (hk : k < 16) (a2 a3 x5 : Int32) (V : VS) (H : Heap) (locs : List Loc) (ls : Array Slot), x5 = nI i → i < 2 ^ 30 → a3.toNatClampNeg - i < f → ¬ a3 < 0 → a3 ≤ 512 → XP D ad n cI cS cQ V H → va_S (iA ad (xN n)) s.heap H locs → lv_has ls 7 [(0, .ref (ad 0)), (2, .int a2), (3, .int a3), (4, .ref (ad (6 + k))), (5, .int x5)] → W p l e ({ frames := 7, cells := 0, slots := 0, locals := 179 }) s m args below meth c H locs 0 0 (MQ below (gPost D ad (xN n) (some (.int (j_V_in_h28 n f V k a2 a3 x5).1)) (xc ad n cI cS cQ ((j_V_in_h28 n f V k a2 a3 x5).2))) args s 0 0 (iA ad (xN n))) (F0 m 28 ls []) := by
  intro f
  induction f with
  | zero =>
    intro i k hk a2 a3 x5 V H locs ls ek hi hf h3 h5 hP hS hl
    exact absurd hf (Nat.not_lt_zero _)
  | succ f ih =>
    intro i k hk a2 a3 x5 V H locs ls ek hi hf h3 h5 hP hS hl
    refine lv_iload S.1 S.2.1 d_V_in_28 (lv_at hl 4 rfl) ?_
    refine lv_iload_n S.1 S.2.1 d_V_in_30 rfl (lv_at hl 2 rfl) ?_
    refine lv_icmp_ge (tgt := 70) S.1 S.2.1 d_V_in_31 (by decide) (fun c31 => ?_) (fun c31 => ?_)
    · refine lv_iload_n S.1 S.2.1 d_V_in_70 rfl (lv_at hl 2 rfl) ?_
      rw [show j_V_in_h28 n (f + 1) V k a2 a3 x5 = (a3, V) from by rw [j_V_in_h28, if_pos c31]]
      exact x_iret S hr hlk hP hS d_V_in_71
    · refine lv_aload_n S.1 S.2.1 d_V_in_34 rfl (lv_at hl 0 rfl) ?_
      refine lv_aload S.1 S.2.1 d_V_in_35 (lv_at hl 3 rfl) ?_
      refine lv_iload_n S.1 S.2.1 d_V_in_37 rfl (lv_at hl 1 rfl) ?_
      refine lv_iload S.1 S.2.1 d_V_in_38 (lv_at hl 4 rfl) ?_
      refine lv_iadd S.1 S.2.1 d_V_in_40 ?_
      refine x_callVi (As := [.ref (ad (6 + k)), .int (a2 + x5)]) (rest := []) S hK ci_V_118 (c_V_readByte l D ad n cI cS cQ hE V k hk (a2 + x5)) (x_recV hK hP) hP hS ⟨rfl, rfl, Nat.le_of_ble_eq_true rfl, Nat.le_of_ble_eq_true rfl⟩ rfl hl.1 rfl (Nat.le_of_ble_eq_true rfl) d_V_in_41 (fun H locs hP hS => ?_)
      refine lv_istore (lv' := [(6, .int ((j_V_readByte n V k (a2 + x5)).1)), (0, .ref (ad 0)), (2, .int a2), (3, .int a3), (4, .ref (ad (6 + k))), (5, .int x5)]) S.1 S.2.1 d_V_in_44 hl (by decide) rfl (fun ls hl => ?_)
      refine lv_iload S.1 S.2.1 d_V_in_46 (lv_at hl 0 rfl) ?_
      refine lv_iconst (v := (-1)) S.1 S.2.1 d_V_in_48 (by decide) ?_
      refine lv_icmp_ne (tgt := 55) S.1 S.2.1 d_V_in_49 (by decide) (fun c49 => ?_) (fun c49 => ?_)
      · refine lv_aload_n S.1 S.2.1 d_V_in_55 rfl (lv_at hl 1 rfl) ?_
        refine x_get_buffer S hK hP tg_208 d_V_in_56 ?_
        refine lv_iload S.1 S.2.1 d_V_in_59 (lv_at hl 5 rfl) ?_
        refine lv_iload S.1 S.2.1 d_V_in_61 (lv_at hl 0 rfl) ?_
        refine x_ast_buffer S hE hK hP hS (vin_n h3 h5 (lp_nn ek hi) c31) d_V_in_63 (fun H locs hP hS => ?_)
        refine lv_iinc (v := x5 + 1) (lv' := [(5, .int (x5 + 1)), (6, .int ((j_V_readByte n V k (a2 + x5)).1)), (0, .ref (ad 0)), (2, .int a2), (3, .int a3), (4, .ref (ad (6 + k)))]) S.1 S.2.1 d_V_in_64 hl (k := 5) rfl rfl (by decide) rfl (fun ls hl => ?_)
        refine lv_goto (tgt := 28) S.1 S.2.1 d_V_in_67 (by decide) ?_
        have hn9 := hE.2
        have hn8 := c512 h3 h5
        have hB := lp_lt (B := a3.toNatClampNeg) (nI_self h3) (clamp_lt _) ek hi c31
        rw [show j_V_in_h28 n (f + 1) V k a2 a3 x5 = j_V_in_h28 n f (s_buf ((j_V_readByte n V k (a2 + x5)).2) x5.toNatClampNeg ((j_V_readByte n V k (a2 + x5)).1)) k a2 a3 (x5 + 1) from by rw [j_V_in_h28, if_neg c31, if_neg c49]]
        exact ih (i + 1) k hk a2 a3 (x5 + 1) (s_buf ((j_V_readByte n V k (a2 + x5)).2) x5.toNatClampNeg ((j_V_readByte n V k (a2 + x5)).1)) _ _ _ (by rw [ek]; exact nI_1 i) (by omega) (by omega) h3 h5 hP hS (lv_sub hl [2, 3, 4, 5, 0] rfl)
      · refine lv_iload S.1 S.2.1 d_V_in_52 (lv_at hl 5 rfl) ?_
        rw [show j_V_in_h28 n (f + 1) V k a2 a3 x5 = (x5, (j_V_readByte n V k (a2 + x5)).2) from by rw [j_V_in_h28, if_neg c31, if_pos c49]]
        exact x_iret S hr hlk hP hS d_V_in_54
/-- PageVault.readByte(LPageVault$Space;I)I -/
def j_V_readByteN (n : Nat) (V : VS) (a2 : Int32) : Int32 × VS :=
  if ((j_V_touchN V a2 1).1) = (-1) then
    ((-1), (j_V_touchN V a2 1).2)
  else
    (j_F_read n ((j_V_touchN V a2 1).2) ((j_V_touchN V a2 1).1) a2 1, (j_V_touchN V a2 1).2)
set_option maxHeartbeats 4000000 in
set_option maxRecDepth 100000 in
theorem c_V_readByteN (hE : xE ad n) (V : VS) (a2 : Int32) : XC l D ad n cI cS cQ y_V_readByte b_V_readByte 4 (some .int) ({ frames := 6, cells := 0, slots := 0, locals := 156 }) [.ref (ad 0), .null, .int a2] V (some (.int (j_V_readByteN n V a2).1)) ((j_V_readByteN n V a2).2) := by
  refine FC_intro (by decide) (Nat.le_of_ble_eq_true rfl) ?_
  intro p e s m below meth c ls S hr hlk hK hP hS hl
  have S : CallFix p m c b_V_readByte 4 s _ TG "PageVault" := S
  have hl : lv_has ls 4 [(0, .ref (ad 0)), (1, .null), (2, .int a2)] := hl
  refine lv_aload_n S.1 S.2.1 d_V_readByte_0 rfl (lv_at hl 0 rfl) ?_
  refine lv_aload_nN S.1 S.2.1 d_V_readByte_1 rfl (lv_at hl 1 rfl) ?_
  refine lv_iload_n S.1 S.2.1 d_V_readByte_2 rfl (lv_at hl 2 rfl) ?_
  refine lv_iconst (v := 1) S.1 S.2.1 d_V_readByte_3 (by decide) ?_
  refine x_callVi (As := [.null, .int a2, .int 1]) (rest := []) S hK ci_V_138 (c_V_touchN l D ad n cI cS cQ hE V a2 1) (x_recV hK hP) hP hS ⟨rfl, rfl, Nat.le_of_ble_eq_true rfl, Nat.le_of_ble_eq_true rfl⟩ rfl hl.1 rfl (Nat.le_of_ble_eq_true rfl) d_V_readByte_4 (fun H locs hP hS => ?_)
  refine lv_istore_n (lv' := [(3, .int ((j_V_touchN V a2 1).1)), (0, .ref (ad 0)), (1, .null), (2, .int a2)]) S.1 S.2.1 d_V_readByte_7 rfl hl (by decide) rfl (fun ls hl => ?_)
  refine lv_iload_n S.1 S.2.1 d_V_readByte_8 rfl (lv_at hl 0 rfl) ?_
  refine lv_iconst (v := (-1)) S.1 S.2.1 d_V_readByte_9 (by decide) ?_
  refine lv_icmp_ne (tgt := 17) S.1 S.2.1 d_V_readByte_10 (by decide) (fun c10 => ?_) (fun c10 => ?_)
  · refine lv_aload_n S.1 S.2.1 d_V_readByte_17 rfl (lv_at hl 1 rfl) ?_
    refine x_get_frames S hK hP tg_12 d_V_readByte_18 ?_
    refine lv_iload_n S.1 S.2.1 d_V_readByte_21 rfl (lv_at hl 0 rfl) ?_
    refine lv_iload_n S.1 S.2.1 d_V_readByte_22 rfl (lv_at hl 3 rfl) ?_
    refine lv_iconst (v := 1) S.1 S.2.1 d_V_readByte_23 (by decide) ?_
    refine x_callVi (As := [.int ((j_V_touchN V a2 1).1), .int a2, .int 1]) (rest := []) S hK ci_V_142 (c_F_read l D ad n cI cS cQ hE ((j_V_touchN V a2 1).2) ((j_V_touchN V a2 1).1) a2 1) (x_recF hK hP) hP hS ⟨rfl, rfl, Nat.le_of_ble_eq_true rfl, Nat.le_of_ble_eq_true rfl⟩ rfl hl.1 rfl (Nat.le_of_ble_eq_true rfl) d_V_readByte_24 (fun H locs hP hS => ?_)
    rw [show j_V_readByteN n V a2 = (j_F_read n ((j_V_touchN V a2 1).2) ((j_V_touchN V a2 1).1) a2 1, (j_V_touchN V a2 1).2) from by rw [j_V_readByteN, if_neg c10]]
    exact x_iret S hr hlk hP hS d_V_readByte_27
  · refine lv_iconst (v := (-1)) S.1 S.2.1 d_V_readByte_13 (by decide) ?_
    refine lv_goto (tgt := 27) S.1 S.2.1 d_V_readByte_14 (by decide) ?_
    rw [show j_V_readByteN n V a2 = ((-1), (j_V_touchN V a2 1).2) from by rw [j_V_readByteN, if_pos c10]]
    exact x_iret S hr hlk hP hS d_V_readByte_27
def j_V_in_h28N (n : Nat) : Nat → VS → Int32 → Int32 → Int32 → Int32 × VS
  | 0, V, _, _, _ => (0, V)
  | f + 1, V, a2, a3, x5 =>
      if a3 ≤ x5 then
        (a3, V)
      else
        if ((j_V_readByteN n V (a2 + x5)).1) = (-1) then
          (x5, (j_V_readByteN n V (a2 + x5)).2)
        else
          j_V_in_h28N n f (s_buf ((j_V_readByteN n V (a2 + x5)).2) x5.toNatClampNeg ((j_V_readByteN n V (a2 + x5)).1)) a2 a3 (x5 + 1)
set_option maxHeartbeats 4000000 in
set_option maxRecDepth 100000 in
theorem w_V_in_h28N (hE : xE ad n) {p : Program} {e : Env} {s : State} {m : MethodId} {args : Array Value} {below : List Frame} {meth : Method} {c : Code} (S : CallFix p m c b_V_in 7 s args TG "PageVault") (hr : meth.sig.returnType = some .int) (hlk : meth.locks = false) (hK : xK D cI cS cQ s) :
    ∀ (f i : Nat) (a2 a3 x5 : Int32) (V : VS) (H : Heap) (locs : List Loc) (ls : Array Slot), x5 = nI i → i < 2 ^ 30 → a3.toNatClampNeg - i < f → ¬ a3 < 0 → a3 ≤ 512 → XP D ad n cI cS cQ V H → va_S (iA ad (xN n)) s.heap H locs → lv_has ls 7 [(0, .ref (ad 0)), (2, .int a2), (3, .int a3), (4, .null), (5, .int x5)] → W p l e ({ frames := 7, cells := 0, slots := 0, locals := 179 }) s m args below meth c H locs 0 0 (MQ below (gPost D ad (xN n) (some (.int (j_V_in_h28N n f V a2 a3 x5).1)) (xc ad n cI cS cQ ((j_V_in_h28N n f V a2 a3 x5).2))) args s 0 0 (iA ad (xN n))) (F0 m 28 ls []) := by
  intro f
  induction f with
  | zero =>
    intro i a2 a3 x5 V H locs ls ek hi hf h3 h5 hP hS hl
    exact absurd hf (Nat.not_lt_zero _)
  | succ f ih =>
    intro i a2 a3 x5 V H locs ls ek hi hf h3 h5 hP hS hl
    refine lv_iload S.1 S.2.1 d_V_in_28 (lv_at hl 4 rfl) ?_
    refine lv_iload_n S.1 S.2.1 d_V_in_30 rfl (lv_at hl 2 rfl) ?_
    refine lv_icmp_ge (tgt := 70) S.1 S.2.1 d_V_in_31 (by decide) (fun c31 => ?_) (fun c31 => ?_)
    · refine lv_iload_n S.1 S.2.1 d_V_in_70 rfl (lv_at hl 2 rfl) ?_
      rw [show j_V_in_h28N n (f + 1) V a2 a3 x5 = (a3, V) from by rw [j_V_in_h28N, if_pos c31]]
      exact x_iret S hr hlk hP hS d_V_in_71
    · refine lv_aload_n S.1 S.2.1 d_V_in_34 rfl (lv_at hl 0 rfl) ?_
      refine lv_aloadN S.1 S.2.1 d_V_in_35 (lv_at hl 3 rfl) ?_
      refine lv_iload_n S.1 S.2.1 d_V_in_37 rfl (lv_at hl 1 rfl) ?_
      refine lv_iload S.1 S.2.1 d_V_in_38 (lv_at hl 4 rfl) ?_
      refine lv_iadd S.1 S.2.1 d_V_in_40 ?_
      refine x_callVi (As := [.null, .int (a2 + x5)]) (rest := []) S hK ci_V_118 (c_V_readByteN l D ad n cI cS cQ hE V (a2 + x5)) (x_recV hK hP) hP hS ⟨rfl, rfl, Nat.le_of_ble_eq_true rfl, Nat.le_of_ble_eq_true rfl⟩ rfl hl.1 rfl (Nat.le_of_ble_eq_true rfl) d_V_in_41 (fun H locs hP hS => ?_)
      refine lv_istore (lv' := [(6, .int ((j_V_readByteN n V (a2 + x5)).1)), (0, .ref (ad 0)), (2, .int a2), (3, .int a3), (4, .null), (5, .int x5)]) S.1 S.2.1 d_V_in_44 hl (by decide) rfl (fun ls hl => ?_)
      refine lv_iload S.1 S.2.1 d_V_in_46 (lv_at hl 0 rfl) ?_
      refine lv_iconst (v := (-1)) S.1 S.2.1 d_V_in_48 (by decide) ?_
      refine lv_icmp_ne (tgt := 55) S.1 S.2.1 d_V_in_49 (by decide) (fun c49 => ?_) (fun c49 => ?_)
      · refine lv_aload_n S.1 S.2.1 d_V_in_55 rfl (lv_at hl 1 rfl) ?_
        refine x_get_buffer S hK hP tg_208 d_V_in_56 ?_
        refine lv_iload S.1 S.2.1 d_V_in_59 (lv_at hl 5 rfl) ?_
        refine lv_iload S.1 S.2.1 d_V_in_61 (lv_at hl 0 rfl) ?_
        refine x_ast_buffer S hE hK hP hS (vin_n h3 h5 (lp_nn ek hi) c31) d_V_in_63 (fun H locs hP hS => ?_)
        refine lv_iinc (v := x5 + 1) (lv' := [(5, .int (x5 + 1)), (6, .int ((j_V_readByteN n V (a2 + x5)).1)), (0, .ref (ad 0)), (2, .int a2), (3, .int a3), (4, .null)]) S.1 S.2.1 d_V_in_64 hl (k := 5) rfl rfl (by decide) rfl (fun ls hl => ?_)
        refine lv_goto (tgt := 28) S.1 S.2.1 d_V_in_67 (by decide) ?_
        have hn9 := hE.2
        have hn8 := c512 h3 h5
        have hB := lp_lt (B := a3.toNatClampNeg) (nI_self h3) (clamp_lt _) ek hi c31
        rw [show j_V_in_h28N n (f + 1) V a2 a3 x5 = j_V_in_h28N n f (s_buf ((j_V_readByteN n V (a2 + x5)).2) x5.toNatClampNeg ((j_V_readByteN n V (a2 + x5)).1)) a2 a3 (x5 + 1) from by rw [j_V_in_h28N, if_neg c31, if_neg c49]]
        exact ih (i + 1)  a2 a3 (x5 + 1) (s_buf ((j_V_readByteN n V (a2 + x5)).2) x5.toNatClampNeg ((j_V_readByteN n V (a2 + x5)).1)) _ _ _ (by rw [ek]; exact nI_1 i) (by omega) (by omega) h3 h5 hP hS (lv_sub hl [2, 3, 4, 5, 0] rfl)
      · refine lv_iload S.1 S.2.1 d_V_in_52 (lv_at hl 5 rfl) ?_
        rw [show j_V_in_h28N n (f + 1) V a2 a3 x5 = (x5, (j_V_readByteN n V (a2 + x5)).2) from by rw [j_V_in_h28N, if_neg c31, if_pos c49]]
        exact x_iret S hr hlk hP hS d_V_in_54
/-- PageVault.in(III)I -/
def j_V_in (n : Nat) (V : VS) (a1 : Int32) (a2 : Int32) (a3 : Int32) : Int32 × VS :=
  if a3 < 0 then
    ((-1), s_trap V 0)
  else
    if a3 ≤ 512 then
      oc (j_V_find (s_trap V 0) a1) (
        j_V_in_h28N n (a3.toNatClampNeg + 1) (s_trap V 0) a2 a3 0) (fun k1 =>
        j_V_in_h28 n (a3.toNatClampNeg + 1) (s_trap V 0) k1 a2 a3 0)
    else
      ((-1), s_trap V 0)
set_option maxHeartbeats 4000000 in
set_option maxRecDepth 100000 in
theorem c_V_in (hE : xE ad n) (V : VS) (a1 : Int32) (a2 : Int32) (a3 : Int32) : XC l D ad n cI cS cQ y_V_in b_V_in 7 (some .int) ({ frames := 7, cells := 0, slots := 0, locals := 179 }) [.ref (ad 0), .int a1, .int a2, .int a3] V (some (.int (j_V_in n V a1 a2 a3).1)) ((j_V_in n V a1 a2 a3).2) := by
  refine FC_intro (by decide) (Nat.le_of_ble_eq_true rfl) ?_
  intro p e s m below meth c ls S hr hlk hK hP hS hl
  have S : CallFix p m c b_V_in 7 s _ TG "PageVault" := S
  have hl : lv_has ls 7 [(0, .ref (ad 0)), (1, .int a1), (2, .int a2), (3, .int a3)] := hl
  refine lv_aload_n S.1 S.2.1 d_V_in_0 rfl (lv_at hl 0 rfl) ?_
  refine lv_iconst (v := 0) S.1 S.2.1 d_V_in_1 (by decide) ?_
  refine x_put_trap S hE hK hP hS tg_149 d_V_in_2 (fun H locs hP hS => ?_)
  refine lv_iload_n S.1 S.2.1 d_V_in_5 rfl (lv_at hl 3 rfl) ?_
  refine lv_if_lt (tgt := 16) S.1 S.2.1 d_V_in_6 (by decide) (fun c6 => ?_) (fun c6 => ?_)
  · refine lv_iconst (v := (-1)) S.1 S.2.1 d_V_in_16 (by decide) ?_
    rw [show j_V_in n V a1 a2 a3 = ((-1), s_trap V 0) from by rw [j_V_in, if_pos c6]]
    exact x_iret S hr hlk hP hS d_V_in_17
  · refine lv_iload_n S.1 S.2.1 d_V_in_9 rfl (lv_at hl 3 rfl) ?_
    refine lv_sipush (v := 512) S.1 S.2.1 d_V_in_10 (by decide) ?_
    refine lv_icmp_le (tgt := 18) S.1 S.2.1 d_V_in_13 (by decide) (fun c13 => ?_) (fun c13 => ?_)
    · refine lv_aload_n S.1 S.2.1 d_V_in_18 rfl (lv_at hl 0 rfl) ?_
      refine lv_iload_n S.1 S.2.1 d_V_in_19 rfl (lv_at hl 1 rfl) ?_
      refine x_callVq (As := [.int a1]) (rest := []) S hK ci_V_50 (c_V_find l D ad n cI cS cQ hE (s_trap V 0) a1) (x_recV hK hP) hP hS ⟨rfl, rfl, Nat.le_of_ble_eq_true rfl, Nat.le_of_ble_eq_true rfl⟩ rfl hl.1 rfl (Nat.le_of_ble_eq_true rfl) d_V_in_20 (fun hk1 H locs hP hS => ?_) (fun k1 hk1 H locs hP hS => ?_)
      · refine lv_astoreN (lv' := [(4, .null), (0, .ref (ad 0)), (1, .int a1), (2, .int a2), (3, .int a3)]) S.1 S.2.1 d_V_in_23 hl (by decide) rfl (fun ls hl => ?_)
        refine lv_iconst (v := 0) S.1 S.2.1 d_V_in_25 (by decide) ?_
        refine lv_istore (lv' := [(5, .int 0), (4, .null), (0, .ref (ad 0)), (1, .int a1), (2, .int a2), (3, .int a3)]) S.1 S.2.1 d_V_in_26 hl (by decide) rfl (fun ls hl => ?_)
        rw [show j_V_in n V a1 a2 a3 = j_V_in_h28N n (a3.toNatClampNeg + 1) (s_trap V 0) a2 a3 0 from by rw [j_V_in, if_neg c6, if_pos c13, oc_none hk1]]
        exact w_V_in_h28N l D ad n cI cS cQ hE S hr hlk hK (a3.toNatClampNeg + 1) 0 a2 a3 0 (s_trap V 0) _ _ _ nI_0.symm (by decide) (by omega) c6 c13 hP hS (lv_sub hl [2, 4, 5, 1, 0] rfl)
      · refine lv_astore (lv' := [(4, .ref (ad (6 + k1))), (0, .ref (ad 0)), (1, .int a1), (2, .int a2), (3, .int a3)]) S.1 S.2.1 d_V_in_23 hl (by decide) rfl (fun ls hl => ?_)
        refine lv_iconst (v := 0) S.1 S.2.1 d_V_in_25 (by decide) ?_
        refine lv_istore (lv' := [(5, .int 0), (4, .ref (ad (6 + k1))), (0, .ref (ad 0)), (1, .int a1), (2, .int a2), (3, .int a3)]) S.1 S.2.1 d_V_in_26 hl (by decide) rfl (fun ls hl => ?_)
        rw [show j_V_in n V a1 a2 a3 = j_V_in_h28 n (a3.toNatClampNeg + 1) (s_trap V 0) k1 a2 a3 0 from by rw [j_V_in, if_neg c6, if_pos c13, oc_some hk1]]
        exact w_V_in_h28 l D ad n cI cS cQ hE S hr hlk hK (a3.toNatClampNeg + 1) 0 k1 (find_lt hk1) a2 a3 0 (s_trap V 0) _ _ _ nI_0.symm (by decide) (by omega) c6 c13 hP hS (lv_sub hl [2, 4, 5, 1, 0] rfl)
    · refine lv_iconst (v := (-1)) S.1 S.2.1 d_V_in_16 (by decide) ?_
      rw [show j_V_in n V a1 a2 a3 = ((-1), s_trap V 0) from by rw [j_V_in, if_neg c6, if_neg c13]]
      exact x_iret S hr hlk hP hS d_V_in_17
def j_V_text_h29 (n : Nat) : Nat → VS → Nat → Int32 → Int32 → Int32 → Int32 × VS
  | 0, V, _, _, _, _ => (0, V)
  | f + 1, V, k, a2, a3, x5 =>
      if a3 ≤ x5 then
        ((-1), V)
      else
        if ((j_V_readByte n V k (a2 + x5)).1) = (-1) then
          ((-1), (j_V_readByte n V k (a2 + x5)).2)
        else
          if ((j_V_readByte n V k (a2 + x5)).1) = 0 then
            (x5, s_buf ((j_V_readByte n V k (a2 + x5)).2) x5.toNatClampNeg ((j_V_readByte n V k (a2 + x5)).1))
          else
            j_V_text_h29 n f (s_buf ((j_V_readByte n V k (a2 + x5)).2) x5.toNatClampNeg ((j_V_readByte n V k (a2 + x5)).1)) k a2 a3 (x5 + 1)
set_option maxHeartbeats 4000000 in
set_option maxRecDepth 100000 in
theorem w_V_text_h29 (hE : xE ad n) {p : Program} {e : Env} {s : State} {m : MethodId} {args : Array Value} {below : List Frame} {meth : Method} {c : Code} (S : CallFix p m c b_V_text 7 s args TG "PageVault") (hr : meth.sig.returnType = some .int) (hlk : meth.locks = false) (hK : xK D cI cS cQ s) :
    ∀ (f i : Nat) (k : Nat) (hk : k < 16) (a2 a3 x5 : Int32) (V : VS) (H : Heap) (locs : List Loc) (ls : Array Slot), x5 = nI i → i < 2 ^ 30 → a3.toNatClampNeg - i < f → ¬ a3 < 0 → a3 ≤ 512 → XP D ad n cI cS cQ V H → va_S (iA ad (xN n)) s.heap H locs → lv_has ls 7 [(0, .ref (ad 0)), (2, .int a2), (3, .int a3), (4, .ref (ad (6 + k))), (5, .int x5)] → W p l e ({ frames := 7, cells := 0, slots := 0, locals := 179 }) s m args below meth c H locs 0 0 (MQ below (gPost D ad (xN n) (some (.int (j_V_text_h29 n f V k a2 a3 x5).1)) (xc ad n cI cS cQ ((j_V_text_h29 n f V k a2 a3 x5).2))) args s 0 0 (iA ad (xN n))) (F0 m 29 ls []) := by
  intro f
  induction f with
  | zero =>
    intro i k hk a2 a3 x5 V H locs ls ek hi hf h3 h5 hP hS hl
    exact absurd hf (Nat.not_lt_zero _)
  | succ f ih =>
    intro i k hk a2 a3 x5 V H locs ls ek hi hf h3 h5 hP hS hl
    refine lv_iload S.1 S.2.1 d_V_text_29 (lv_at hl 4 rfl) ?_
    refine lv_iload_n S.1 S.2.1 d_V_text_31 rfl (lv_at hl 2 rfl) ?_
    refine lv_icmp_ge (tgt := 78) S.1 S.2.1 d_V_text_32 (by decide) (fun c32 => ?_) (fun c32 => ?_)
    · refine lv_iconst (v := (-1)) S.1 S.2.1 d_V_text_78 (by decide) ?_
      rw [show j_V_text_h29 n (f + 1) V k a2 a3 x5 = ((-1), V) from by rw [j_V_text_h29, if_pos c32]]
      exact x_iret S hr hlk hP hS d_V_text_79
    · refine lv_aload_n S.1 S.2.1 d_V_text_35 rfl (lv_at hl 0 rfl) ?_
      refine lv_aload S.1 S.2.1 d_V_text_36 (lv_at hl 3 rfl) ?_
      refine lv_iload_n S.1 S.2.1 d_V_text_38 rfl (lv_at hl 1 rfl) ?_
      refine lv_iload S.1 S.2.1 d_V_text_39 (lv_at hl 4 rfl) ?_
      refine lv_iadd S.1 S.2.1 d_V_text_41 ?_
      refine x_callVi (As := [.ref (ad (6 + k)), .int (a2 + x5)]) (rest := []) S hK ci_V_118 (c_V_readByte l D ad n cI cS cQ hE V k hk (a2 + x5)) (x_recV hK hP) hP hS ⟨rfl, rfl, Nat.le_of_ble_eq_true rfl, Nat.le_of_ble_eq_true rfl⟩ rfl hl.1 rfl (Nat.le_of_ble_eq_true rfl) d_V_text_42 (fun H locs hP hS => ?_)
      refine lv_istore (lv' := [(6, .int ((j_V_readByte n V k (a2 + x5)).1)), (0, .ref (ad 0)), (2, .int a2), (3, .int a3), (4, .ref (ad (6 + k))), (5, .int x5)]) S.1 S.2.1 d_V_text_45 hl (by decide) rfl (fun ls hl => ?_)
      refine lv_iload S.1 S.2.1 d_V_text_47 (lv_at hl 0 rfl) ?_
      refine lv_iconst (v := (-1)) S.1 S.2.1 d_V_text_49 (by decide) ?_
      refine lv_icmp_ne (tgt := 55) S.1 S.2.1 d_V_text_50 (by decide) (fun c50 => ?_) (fun c50 => ?_)
      · refine lv_aload_n S.1 S.2.1 d_V_text_55 rfl (lv_at hl 1 rfl) ?_
        refine x_get_buffer S hK hP tg_208 d_V_text_56 ?_
        refine lv_iload S.1 S.2.1 d_V_text_59 (lv_at hl 5 rfl) ?_
        refine lv_iload S.1 S.2.1 d_V_text_61 (lv_at hl 0 rfl) ?_
        refine x_ast_buffer S hE hK hP hS (vin_n h3 h5 (lp_nn ek hi) c32) d_V_text_63 (fun H locs hP hS => ?_)
        refine lv_iload S.1 S.2.1 d_V_text_64 (lv_at hl 0 rfl) ?_
        refine lv_if_ne (tgt := 72) S.1 S.2.1 d_V_text_66 (by decide) (fun c66 => ?_) (fun c66 => ?_)
        · refine lv_iinc (v := x5 + 1) (lv' := [(5, .int (x5 + 1)), (6, .int ((j_V_readByte n V k (a2 + x5)).1)), (0, .ref (ad 0)), (2, .int a2), (3, .int a3), (4, .ref (ad (6 + k)))]) S.1 S.2.1 d_V_text_72 hl (k := 5) rfl rfl (by decide) rfl (fun ls hl => ?_)
          refine lv_goto (tgt := 29) S.1 S.2.1 d_V_text_75 (by decide) ?_
          have hn9 := hE.2
          have hn8 := c512 h3 h5
          have hB := lp_lt (B := a3.toNatClampNeg) (nI_self h3) (clamp_lt _) ek hi c32
          rw [show j_V_text_h29 n (f + 1) V k a2 a3 x5 = j_V_text_h29 n f (s_buf ((j_V_readByte n V k (a2 + x5)).2) x5.toNatClampNeg ((j_V_readByte n V k (a2 + x5)).1)) k a2 a3 (x5 + 1) from by rw [j_V_text_h29, if_neg c32, if_neg c50, if_neg c66]]
          exact ih (i + 1) k hk a2 a3 (x5 + 1) (s_buf ((j_V_readByte n V k (a2 + x5)).2) x5.toNatClampNeg ((j_V_readByte n V k (a2 + x5)).1)) _ _ _ (by rw [ek]; exact nI_1 i) (by omega) (by omega) h3 h5 hP hS (lv_sub hl [2, 3, 4, 5, 0] rfl)
        · refine lv_iload S.1 S.2.1 d_V_text_69 (lv_at hl 5 rfl) ?_
          rw [show j_V_text_h29 n (f + 1) V k a2 a3 x5 = (x5, s_buf ((j_V_readByte n V k (a2 + x5)).2) x5.toNatClampNeg ((j_V_readByte n V k (a2 + x5)).1)) from by rw [j_V_text_h29, if_neg c32, if_neg c50, if_pos c66]]
          exact x_iret S hr hlk hP hS d_V_text_71
      · refine lv_iconst (v := (-1)) S.1 S.2.1 d_V_text_53 (by decide) ?_
        rw [show j_V_text_h29 n (f + 1) V k a2 a3 x5 = ((-1), (j_V_readByte n V k (a2 + x5)).2) from by rw [j_V_text_h29, if_neg c32, if_pos c50]]
        exact x_iret S hr hlk hP hS d_V_text_54
def j_V_text_h29N (n : Nat) : Nat → VS → Int32 → Int32 → Int32 → Int32 × VS
  | 0, V, _, _, _ => (0, V)
  | f + 1, V, a2, a3, x5 =>
      if a3 ≤ x5 then
        ((-1), V)
      else
        if ((j_V_readByteN n V (a2 + x5)).1) = (-1) then
          ((-1), (j_V_readByteN n V (a2 + x5)).2)
        else
          if ((j_V_readByteN n V (a2 + x5)).1) = 0 then
            (x5, s_buf ((j_V_readByteN n V (a2 + x5)).2) x5.toNatClampNeg ((j_V_readByteN n V (a2 + x5)).1))
          else
            j_V_text_h29N n f (s_buf ((j_V_readByteN n V (a2 + x5)).2) x5.toNatClampNeg ((j_V_readByteN n V (a2 + x5)).1)) a2 a3 (x5 + 1)
set_option maxHeartbeats 4000000 in
set_option maxRecDepth 100000 in
theorem w_V_text_h29N (hE : xE ad n) {p : Program} {e : Env} {s : State} {m : MethodId} {args : Array Value} {below : List Frame} {meth : Method} {c : Code} (S : CallFix p m c b_V_text 7 s args TG "PageVault") (hr : meth.sig.returnType = some .int) (hlk : meth.locks = false) (hK : xK D cI cS cQ s) :
    ∀ (f i : Nat) (a2 a3 x5 : Int32) (V : VS) (H : Heap) (locs : List Loc) (ls : Array Slot), x5 = nI i → i < 2 ^ 30 → a3.toNatClampNeg - i < f → ¬ a3 < 0 → a3 ≤ 512 → XP D ad n cI cS cQ V H → va_S (iA ad (xN n)) s.heap H locs → lv_has ls 7 [(0, .ref (ad 0)), (2, .int a2), (3, .int a3), (4, .null), (5, .int x5)] → W p l e ({ frames := 7, cells := 0, slots := 0, locals := 179 }) s m args below meth c H locs 0 0 (MQ below (gPost D ad (xN n) (some (.int (j_V_text_h29N n f V a2 a3 x5).1)) (xc ad n cI cS cQ ((j_V_text_h29N n f V a2 a3 x5).2))) args s 0 0 (iA ad (xN n))) (F0 m 29 ls []) := by
  intro f
  induction f with
  | zero =>
    intro i a2 a3 x5 V H locs ls ek hi hf h3 h5 hP hS hl
    exact absurd hf (Nat.not_lt_zero _)
  | succ f ih =>
    intro i a2 a3 x5 V H locs ls ek hi hf h3 h5 hP hS hl
    refine lv_iload S.1 S.2.1 d_V_text_29 (lv_at hl 4 rfl) ?_
    refine lv_iload_n S.1 S.2.1 d_V_text_31 rfl (lv_at hl 2 rfl) ?_
    refine lv_icmp_ge (tgt := 78) S.1 S.2.1 d_V_text_32 (by decide) (fun c32 => ?_) (fun c32 => ?_)
    · refine lv_iconst (v := (-1)) S.1 S.2.1 d_V_text_78 (by decide) ?_
      rw [show j_V_text_h29N n (f + 1) V a2 a3 x5 = ((-1), V) from by rw [j_V_text_h29N, if_pos c32]]
      exact x_iret S hr hlk hP hS d_V_text_79
    · refine lv_aload_n S.1 S.2.1 d_V_text_35 rfl (lv_at hl 0 rfl) ?_
      refine lv_aloadN S.1 S.2.1 d_V_text_36 (lv_at hl 3 rfl) ?_
      refine lv_iload_n S.1 S.2.1 d_V_text_38 rfl (lv_at hl 1 rfl) ?_
      refine lv_iload S.1 S.2.1 d_V_text_39 (lv_at hl 4 rfl) ?_
      refine lv_iadd S.1 S.2.1 d_V_text_41 ?_
      refine x_callVi (As := [.null, .int (a2 + x5)]) (rest := []) S hK ci_V_118 (c_V_readByteN l D ad n cI cS cQ hE V (a2 + x5)) (x_recV hK hP) hP hS ⟨rfl, rfl, Nat.le_of_ble_eq_true rfl, Nat.le_of_ble_eq_true rfl⟩ rfl hl.1 rfl (Nat.le_of_ble_eq_true rfl) d_V_text_42 (fun H locs hP hS => ?_)
      refine lv_istore (lv' := [(6, .int ((j_V_readByteN n V (a2 + x5)).1)), (0, .ref (ad 0)), (2, .int a2), (3, .int a3), (4, .null), (5, .int x5)]) S.1 S.2.1 d_V_text_45 hl (by decide) rfl (fun ls hl => ?_)
      refine lv_iload S.1 S.2.1 d_V_text_47 (lv_at hl 0 rfl) ?_
      refine lv_iconst (v := (-1)) S.1 S.2.1 d_V_text_49 (by decide) ?_
      refine lv_icmp_ne (tgt := 55) S.1 S.2.1 d_V_text_50 (by decide) (fun c50 => ?_) (fun c50 => ?_)
      · refine lv_aload_n S.1 S.2.1 d_V_text_55 rfl (lv_at hl 1 rfl) ?_
        refine x_get_buffer S hK hP tg_208 d_V_text_56 ?_
        refine lv_iload S.1 S.2.1 d_V_text_59 (lv_at hl 5 rfl) ?_
        refine lv_iload S.1 S.2.1 d_V_text_61 (lv_at hl 0 rfl) ?_
        refine x_ast_buffer S hE hK hP hS (vin_n h3 h5 (lp_nn ek hi) c32) d_V_text_63 (fun H locs hP hS => ?_)
        refine lv_iload S.1 S.2.1 d_V_text_64 (lv_at hl 0 rfl) ?_
        refine lv_if_ne (tgt := 72) S.1 S.2.1 d_V_text_66 (by decide) (fun c66 => ?_) (fun c66 => ?_)
        · refine lv_iinc (v := x5 + 1) (lv' := [(5, .int (x5 + 1)), (6, .int ((j_V_readByteN n V (a2 + x5)).1)), (0, .ref (ad 0)), (2, .int a2), (3, .int a3), (4, .null)]) S.1 S.2.1 d_V_text_72 hl (k := 5) rfl rfl (by decide) rfl (fun ls hl => ?_)
          refine lv_goto (tgt := 29) S.1 S.2.1 d_V_text_75 (by decide) ?_
          have hn9 := hE.2
          have hn8 := c512 h3 h5
          have hB := lp_lt (B := a3.toNatClampNeg) (nI_self h3) (clamp_lt _) ek hi c32
          rw [show j_V_text_h29N n (f + 1) V a2 a3 x5 = j_V_text_h29N n f (s_buf ((j_V_readByteN n V (a2 + x5)).2) x5.toNatClampNeg ((j_V_readByteN n V (a2 + x5)).1)) a2 a3 (x5 + 1) from by rw [j_V_text_h29N, if_neg c32, if_neg c50, if_neg c66]]
          exact ih (i + 1)  a2 a3 (x5 + 1) (s_buf ((j_V_readByteN n V (a2 + x5)).2) x5.toNatClampNeg ((j_V_readByteN n V (a2 + x5)).1)) _ _ _ (by rw [ek]; exact nI_1 i) (by omega) (by omega) h3 h5 hP hS (lv_sub hl [2, 3, 4, 5, 0] rfl)
        · refine lv_iload S.1 S.2.1 d_V_text_69 (lv_at hl 5 rfl) ?_
          rw [show j_V_text_h29N n (f + 1) V a2 a3 x5 = (x5, s_buf ((j_V_readByteN n V (a2 + x5)).2) x5.toNatClampNeg ((j_V_readByteN n V (a2 + x5)).1)) from by rw [j_V_text_h29N, if_neg c32, if_neg c50, if_pos c66]]
          exact x_iret S hr hlk hP hS d_V_text_71
      · refine lv_iconst (v := (-1)) S.1 S.2.1 d_V_text_53 (by decide) ?_
        rw [show j_V_text_h29N n (f + 1) V a2 a3 x5 = ((-1), (j_V_readByteN n V (a2 + x5)).2) from by rw [j_V_text_h29N, if_neg c32, if_pos c50]]
        exact x_iret S hr hlk hP hS d_V_text_54
/-- PageVault.text(III)I -/
def j_V_text (n : Nat) (V : VS) (a1 : Int32) (a2 : Int32) (a3 : Int32) : Int32 × VS :=
  if a3 < 1 then
    ((-1), s_trap V 0)
  else
    if a3 ≤ 512 then
      oc (j_V_find (s_trap V 0) a1) (
        j_V_text_h29N n (a3.toNatClampNeg + 1) (s_trap V 0) a2 a3 0) (fun k1 =>
        j_V_text_h29 n (a3.toNatClampNeg + 1) (s_trap V 0) k1 a2 a3 0)
    else
      ((-1), s_trap V 0)
set_option maxHeartbeats 4000000 in
set_option maxRecDepth 100000 in
theorem c_V_text (hE : xE ad n) (V : VS) (a1 : Int32) (a2 : Int32) (a3 : Int32) : XC l D ad n cI cS cQ y_V_text b_V_text 7 (some .int) ({ frames := 7, cells := 0, slots := 0, locals := 179 }) [.ref (ad 0), .int a1, .int a2, .int a3] V (some (.int (j_V_text n V a1 a2 a3).1)) ((j_V_text n V a1 a2 a3).2) := by
  refine FC_intro (by decide) (Nat.le_of_ble_eq_true rfl) ?_
  intro p e s m below meth c ls S hr hlk hK hP hS hl
  have S : CallFix p m c b_V_text 7 s _ TG "PageVault" := S
  have hl : lv_has ls 7 [(0, .ref (ad 0)), (1, .int a1), (2, .int a2), (3, .int a3)] := hl
  refine lv_aload_n S.1 S.2.1 d_V_text_0 rfl (lv_at hl 0 rfl) ?_
  refine lv_iconst (v := 0) S.1 S.2.1 d_V_text_1 (by decide) ?_
  refine x_put_trap S hE hK hP hS tg_149 d_V_text_2 (fun H locs hP hS => ?_)
  refine lv_iload_n S.1 S.2.1 d_V_text_5 rfl (lv_at hl 3 rfl) ?_
  refine lv_iconst (v := 1) S.1 S.2.1 d_V_text_6 (by decide) ?_
  refine lv_icmp_lt (tgt := 17) S.1 S.2.1 d_V_text_7 (by decide) (fun c7 => ?_) (fun c7 => ?_)
  · refine lv_iconst (v := (-1)) S.1 S.2.1 d_V_text_17 (by decide) ?_
    rw [show j_V_text n V a1 a2 a3 = ((-1), s_trap V 0) from by rw [j_V_text, if_pos c7]]
    exact x_iret S hr hlk hP hS d_V_text_18
  · refine lv_iload_n S.1 S.2.1 d_V_text_10 rfl (lv_at hl 3 rfl) ?_
    refine lv_sipush (v := 512) S.1 S.2.1 d_V_text_11 (by decide) ?_
    refine lv_icmp_le (tgt := 19) S.1 S.2.1 d_V_text_14 (by decide) (fun c14 => ?_) (fun c14 => ?_)
    · refine lv_aload_n S.1 S.2.1 d_V_text_19 rfl (lv_at hl 0 rfl) ?_
      refine lv_iload_n S.1 S.2.1 d_V_text_20 rfl (lv_at hl 1 rfl) ?_
      refine x_callVq (As := [.int a1]) (rest := []) S hK ci_V_50 (c_V_find l D ad n cI cS cQ hE (s_trap V 0) a1) (x_recV hK hP) hP hS ⟨rfl, rfl, Nat.le_of_ble_eq_true rfl, Nat.le_of_ble_eq_true rfl⟩ rfl hl.1 rfl (Nat.le_of_ble_eq_true rfl) d_V_text_21 (fun hk1 H locs hP hS => ?_) (fun k1 hk1 H locs hP hS => ?_)
      · refine lv_astoreN (lv' := [(4, .null), (0, .ref (ad 0)), (1, .int a1), (2, .int a2), (3, .int a3)]) S.1 S.2.1 d_V_text_24 hl (by decide) rfl (fun ls hl => ?_)
        refine lv_iconst (v := 0) S.1 S.2.1 d_V_text_26 (by decide) ?_
        refine lv_istore (lv' := [(5, .int 0), (4, .null), (0, .ref (ad 0)), (1, .int a1), (2, .int a2), (3, .int a3)]) S.1 S.2.1 d_V_text_27 hl (by decide) rfl (fun ls hl => ?_)
        rw [show j_V_text n V a1 a2 a3 = j_V_text_h29N n (a3.toNatClampNeg + 1) (s_trap V 0) a2 a3 0 from by rw [j_V_text, if_neg c7, if_pos c14, oc_none hk1]]
        exact w_V_text_h29N l D ad n cI cS cQ hE S hr hlk hK (a3.toNatClampNeg + 1) 0 a2 a3 0 (s_trap V 0) _ _ _ nI_0.symm (by decide) (by omega) (nn_of1 c7) c14 hP hS (lv_sub hl [2, 4, 5, 1, 0] rfl)
      · refine lv_astore (lv' := [(4, .ref (ad (6 + k1))), (0, .ref (ad 0)), (1, .int a1), (2, .int a2), (3, .int a3)]) S.1 S.2.1 d_V_text_24 hl (by decide) rfl (fun ls hl => ?_)
        refine lv_iconst (v := 0) S.1 S.2.1 d_V_text_26 (by decide) ?_
        refine lv_istore (lv' := [(5, .int 0), (4, .ref (ad (6 + k1))), (0, .ref (ad 0)), (1, .int a1), (2, .int a2), (3, .int a3)]) S.1 S.2.1 d_V_text_27 hl (by decide) rfl (fun ls hl => ?_)
        rw [show j_V_text n V a1 a2 a3 = j_V_text_h29 n (a3.toNatClampNeg + 1) (s_trap V 0) k1 a2 a3 0 from by rw [j_V_text, if_neg c7, if_pos c14, oc_some hk1]]
        exact w_V_text_h29 l D ad n cI cS cQ hE S hr hlk hK (a3.toNatClampNeg + 1) 0 k1 (find_lt hk1) a2 a3 0 (s_trap V 0) _ _ _ nI_0.symm (by decide) (by omega) (nn_of1 c7) c14 hP hS (lv_sub hl [2, 4, 5, 1, 0] rfl)
    · refine lv_iconst (v := (-1)) S.1 S.2.1 d_V_text_17 (by decide) ?_
      rw [show j_V_text n V a1 a2 a3 = ((-1), s_trap V 0) from by rw [j_V_text, if_neg c7, if_neg c14]]
      exact x_iret S hr hlk hP hS d_V_text_18
/-- PageVault.put(II)Z -/
def j_V_put (V : VS) (a1 : Int32) (a2 : Int32) : Int32 × VS :=
  if a1 < 0 then
    (0, V)
  else
    if 512 ≤ a1 then
      (0, V)
    else
      if a2 < 0 then
        (0, V)
      else
        if a2 ≤ 255 then
          (1, s_buf V a1.toNatClampNeg a2)
        else
          (0, V)
set_option maxHeartbeats 4000000 in
set_option maxRecDepth 100000 in
theorem c_V_put (hE : xE ad n) (V : VS) (a1 : Int32) (a2 : Int32) : XC l D ad n cI cS cQ y_V_put b_V_put 3 (some .boolean) ({ frames := 0, cells := 0, slots := 0, locals := 0 }) [.ref (ad 0), .int a1, .int a2] V (some (.int (j_V_put V a1 a2).1)) ((j_V_put V a1 a2).2) := by
  refine FC_intro (by decide) (Nat.le_of_ble_eq_true rfl) ?_
  intro p e s m below meth c ls S hr hlk hK hP hS hl
  have S : CallFix p m c b_V_put 3 s _ TG "PageVault" := S
  have hl : lv_has ls 3 [(0, .ref (ad 0)), (1, .int a1), (2, .int a2)] := hl
  refine lv_iload_n S.1 S.2.1 d_V_put_0 rfl (lv_at hl 1 rfl) ?_
  refine lv_if_lt (tgt := 22) S.1 S.2.1 d_V_put_1 (by decide) (fun c1 => ?_) (fun c1 => ?_)
  · refine lv_iconst (v := 0) S.1 S.2.1 d_V_put_22 (by decide) ?_
    rw [show j_V_put V a1 a2 = (0, V) from by rw [j_V_put, if_pos c1]]
    exact x_zret (v := 0) S hr hlk rfl hP hS d_V_put_23
  · refine lv_iload_n S.1 S.2.1 d_V_put_4 rfl (lv_at hl 1 rfl) ?_
    refine lv_sipush (v := 512) S.1 S.2.1 d_V_put_5 (by decide) ?_
    refine lv_icmp_ge (tgt := 22) S.1 S.2.1 d_V_put_8 (by decide) (fun c8 => ?_) (fun c8 => ?_)
    · refine lv_iconst (v := 0) S.1 S.2.1 d_V_put_22 (by decide) ?_
      rw [show j_V_put V a1 a2 = (0, V) from by rw [j_V_put, if_neg c1, if_pos c8]]
      exact x_zret (v := 0) S hr hlk rfl hP hS d_V_put_23
    · refine lv_iload_n S.1 S.2.1 d_V_put_11 rfl (lv_at hl 2 rfl) ?_
      refine lv_if_lt (tgt := 22) S.1 S.2.1 d_V_put_12 (by decide) (fun c12 => ?_) (fun c12 => ?_)
      · refine lv_iconst (v := 0) S.1 S.2.1 d_V_put_22 (by decide) ?_
        rw [show j_V_put V a1 a2 = (0, V) from by rw [j_V_put, if_neg c1, if_neg c8, if_pos c12]]
        exact x_zret (v := 0) S hr hlk rfl hP hS d_V_put_23
      · refine lv_iload_n S.1 S.2.1 d_V_put_15 rfl (lv_at hl 2 rfl) ?_
        refine lv_sipush (v := 255) S.1 S.2.1 d_V_put_16 (by decide) ?_
        refine lv_icmp_le (tgt := 24) S.1 S.2.1 d_V_put_19 (by decide) (fun c19 => ?_) (fun c19 => ?_)
        · refine lv_aload_n S.1 S.2.1 d_V_put_24 rfl (lv_at hl 0 rfl) ?_
          refine x_get_buffer S hK hP tg_208 d_V_put_25 ?_
          refine lv_iload_n S.1 S.2.1 d_V_put_28 rfl (lv_at hl 1 rfl) ?_
          refine lv_iload_n S.1 S.2.1 d_V_put_29 rfl (lv_at hl 2 rfl) ?_
          refine x_ast_buffer S hE hK hP hS (vin_c (B := 512) (by decide) (by decide) c1 c8) d_V_put_30 (fun H locs hP hS => ?_)
          refine lv_iconst (v := 1) S.1 S.2.1 d_V_put_31 (by decide) ?_
          rw [show j_V_put V a1 a2 = (1, s_buf V a1.toNatClampNeg a2) from by rw [j_V_put, if_neg c1, if_neg c8, if_neg c12, if_pos c19]]
          exact x_zret (v := 1) S hr hlk rfl hP hS d_V_put_32
        · refine lv_iconst (v := 0) S.1 S.2.1 d_V_put_22 (by decide) ?_
          rw [show j_V_put V a1 a2 = (0, V) from by rw [j_V_put, if_neg c1, if_neg c8, if_neg c12, if_neg c19]]
          exact x_zret (v := 0) S hr hlk rfl hP hS d_V_put_23
/-- PageVault.at(I)I -/
def j_V_at (V : VS) (a1 : Int32) : Int32 :=
  if a1 < 0 then
    (-1)
  else
    if a1 < 512 then
      v_buf V a1.toNatClampNeg
    else
      (-1)
set_option maxHeartbeats 4000000 in
set_option maxRecDepth 100000 in
theorem c_V_at (hE : xE ad n) (V : VS) (a1 : Int32) : XC l D ad n cI cS cQ y_V_at b_V_at 2 (some .int) ({ frames := 0, cells := 0, slots := 0, locals := 0 }) [.ref (ad 0), .int a1] V (some (.int (j_V_at V a1))) (V) := by
  refine FC_intro (by decide) (Nat.le_of_ble_eq_true rfl) ?_
  intro p e s m below meth c ls S hr hlk hK hP hS hl
  have S : CallFix p m c b_V_at 2 s _ TG "PageVault" := S
  have hl : lv_has ls 2 [(0, .ref (ad 0)), (1, .int a1)] := hl
  refine lv_iload_n S.1 S.2.1 d_V_at_0 rfl (lv_at hl 1 rfl) ?_
  refine lv_if_lt (tgt := 11) S.1 S.2.1 d_V_at_1 (by decide) (fun c1 => ?_) (fun c1 => ?_)
  · refine lv_iconst (v := (-1)) S.1 S.2.1 d_V_at_11 (by decide) ?_
    refine lv_goto (tgt := 21) S.1 S.2.1 d_V_at_12 (by decide) ?_
    rw [show j_V_at V a1 = (-1) from by rw [j_V_at, if_pos c1]]
    exact x_iret S hr hlk hP hS d_V_at_21
  · refine lv_iload_n S.1 S.2.1 d_V_at_4 rfl (lv_at hl 1 rfl) ?_
    refine lv_sipush (v := 512) S.1 S.2.1 d_V_at_5 (by decide) ?_
    refine lv_icmp_lt (tgt := 15) S.1 S.2.1 d_V_at_8 (by decide) (fun c8 => ?_) (fun c8 => ?_)
    · refine lv_aload_n S.1 S.2.1 d_V_at_15 rfl (lv_at hl 0 rfl) ?_
      refine x_get_buffer S hK hP tg_208 d_V_at_16 ?_
      refine lv_iload_n S.1 S.2.1 d_V_at_19 rfl (lv_at hl 1 rfl) ?_
      refine x_ald_buffer S hK hP (vin_d (B := 512) (by decide) (by decide) c1 c8) d_V_at_20 ?_
      rw [show j_V_at V a1 = v_buf V a1.toNatClampNeg from by rw [j_V_at, if_neg c1, if_pos c8]]
      exact x_iret S hr hlk hP hS d_V_at_21
    · refine lv_iconst (v := (-1)) S.1 S.2.1 d_V_at_11 (by decide) ?_
      refine lv_goto (tgt := 21) S.1 S.2.1 d_V_at_12 (by decide) ?_
      rw [show j_V_at V a1 = (-1) from by rw [j_V_at, if_neg c1, if_neg c8]]
      exact x_iret S hr hlk hP hS d_V_at_21
/-- PageVault.free()I -/
def j_V_free (V : VS) : Int32 :=
  j_F_spare V
set_option maxHeartbeats 4000000 in
set_option maxRecDepth 100000 in
theorem c_V_free (hE : xE ad n) (V : VS)  : XC l D ad n cI cS cQ y_V_free b_V_free 1 (some .int) ({ frames := 1, cells := 0, slots := 0, locals := 20 }) [.ref (ad 0)] V (some (.int (j_V_free V))) (V) := by
  refine FC_intro (by decide) (Nat.le_of_ble_eq_true rfl) ?_
  intro p e s m below meth c ls S hr hlk hK hP hS hl
  have S : CallFix p m c b_V_free 1 s _ TG "PageVault" := S
  have hl : lv_has ls 1 [(0, .ref (ad 0))] := hl
  refine lv_aload_n S.1 S.2.1 d_V_free_0 rfl (lv_at hl 0 rfl) ?_
  refine x_get_frames S hK hP tg_12 d_V_free_1 ?_
  refine x_callVi (As := []) (rest := []) S hK ci_V_44 (c_F_spare l D ad n cI cS cQ hE V) (x_recF hK hP) hP hS ⟨rfl, rfl, Nat.le_of_ble_eq_true rfl, Nat.le_of_ble_eq_true rfl⟩ rfl hl.1 rfl (Nat.le_of_ble_eq_true rfl) d_V_free_4 (fun H locs hP hS => ?_)
  rw [show j_V_free V = j_F_spare V from by rw [j_V_free]]
  exact x_iret S hr hlk hP hS d_V_free_7
end XW
end
section
section XW
variable (l : Launch) (D : va_G) (ad : Nat → Nat) (n : Nat) (cI cS cQ : ClassId)
/-- PageVault.entryIn(II)I -/
def j_V_entryIn (n : Nat) (V : VS) (a1 : Int32) (a2 : Int32) : Int32 :=
  oc (j_V_find V a1) (
    0) (fun k1 =>
    if (j_V_isUsers a2) = 0 then
      0
    else
      j_S_entryAt n V k1 a2)
set_option maxHeartbeats 4000000 in
set_option maxRecDepth 100000 in
theorem c_V_entryIn (hE : xE ad n) (V : VS) (a1 : Int32) (a2 : Int32) : XC l D ad n cI cS cQ y_V_entryIn b_V_entryIn 4 (some .int) ({ frames := 3, cells := 0, slots := 0, locals := 64 }) [.ref (ad 0), .int a1, .int a2] V (some (.int (j_V_entryIn n V a1 a2))) (V) := by
  refine FC_intro (by decide) (Nat.le_of_ble_eq_true rfl) ?_
  intro p e s m below meth c ls S hr hlk hK hP hS hl
  have S : CallFix p m c b_V_entryIn 4 s _ TG "PageVault" := S
  have hl : lv_has ls 4 [(0, .ref (ad 0)), (1, .int a1), (2, .int a2)] := hl
  refine lv_aload_n S.1 S.2.1 d_V_entryIn_0 rfl (lv_at hl 0 rfl) ?_
  refine lv_iload_n S.1 S.2.1 d_V_entryIn_1 rfl (lv_at hl 1 rfl) ?_
  refine x_callVq (As := [.int a1]) (rest := []) S hK ci_V_50 (c_V_find l D ad n cI cS cQ hE V a1) (x_recV hK hP) hP hS ⟨rfl, rfl, Nat.le_of_ble_eq_true rfl, Nat.le_of_ble_eq_true rfl⟩ rfl hl.1 rfl (Nat.le_of_ble_eq_true rfl) d_V_entryIn_2 (fun hk1 H locs hP hS => ?_) (fun k1 hk1 H locs hP hS => ?_)
  · refine lv_astore_nN (lv' := [(3, .null), (0, .ref (ad 0)), (1, .int a1), (2, .int a2)]) S.1 S.2.1 d_V_entryIn_5 rfl hl (by decide) rfl (fun ls hl => ?_)
    refine lv_aload_nN S.1 S.2.1 d_V_entryIn_6 rfl (lv_at hl 0 rfl) ?_
    refine lv_ifnullN (tgt := 17) S.1 S.2.1 d_V_entryIn_7 (by decide) ?_
    refine lv_iconst (v := 0) S.1 S.2.1 d_V_entryIn_17 (by decide) ?_
    refine lv_goto (tgt := 26) S.1 S.2.1 d_V_entryIn_18 (by decide) ?_
    rw [show j_V_entryIn n V a1 a2 = 0 from by rw [j_V_entryIn, oc_none hk1]]
    exact x_iret S hr hlk hP hS d_V_entryIn_26
  · refine lv_astore_n (lv' := [(3, .ref (ad (6 + k1))), (0, .ref (ad 0)), (1, .int a1), (2, .int a2)]) S.1 S.2.1 d_V_entryIn_5 rfl hl (by decide) rfl (fun ls hl => ?_)
    refine lv_aload_n S.1 S.2.1 d_V_entryIn_6 rfl (lv_at hl 0 rfl) ?_
    refine lv_ifnull S.1 S.2.1 d_V_entryIn_7 ?_
    refine lv_iload_n S.1 S.2.1 d_V_entryIn_10 rfl (lv_at hl 3 rfl) ?_
    refine x_callSi (As := [.int a2]) (rest := []) S hK ci_V_135 (c_V_isUsers l D ad n cI cS cQ hE V a2) hP hS ⟨rfl, rfl, Nat.le_of_ble_eq_true rfl, Nat.le_of_ble_eq_true rfl⟩ rfl hl.1 rfl (Nat.le_of_ble_eq_true rfl) d_V_entryIn_11 (fun H locs hP hS => ?_)
    refine lv_if_ne (tgt := 21) S.1 S.2.1 d_V_entryIn_14 (by decide) (fun c14 => ?_) (fun c14 => ?_)
    · refine lv_aload_n S.1 S.2.1 d_V_entryIn_21 rfl (lv_at hl 0 rfl) ?_
      refine lv_iload_n S.1 S.2.1 d_V_entryIn_22 rfl (lv_at hl 3 rfl) ?_
      refine x_callVi (As := [.int a2]) (rest := []) S hK ci_V_71 (c_S_entryAt l D ad n cI cS cQ hE V k1 (find_lt hk1) a2) (x_recS hK hP (find_lt hk1)) hP hS ⟨rfl, rfl, Nat.le_of_ble_eq_true rfl, Nat.le_of_ble_eq_true rfl⟩ rfl hl.1 rfl (Nat.le_of_ble_eq_true rfl) d_V_entryIn_23 (fun H locs hP hS => ?_)
      rw [show j_V_entryIn n V a1 a2 = j_S_entryAt n V k1 a2 from by rw [j_V_entryIn, oc_some hk1, if_neg c14]]
      exact x_iret S hr hlk hP hS d_V_entryIn_26
    · refine lv_iconst (v := 0) S.1 S.2.1 d_V_entryIn_17 (by decide) ?_
      refine lv_goto (tgt := 26) S.1 S.2.1 d_V_entryIn_18 (by decide) ?_
      rw [show j_V_entryIn n V a1 a2 = 0 from by rw [j_V_entryIn, oc_some hk1, if_pos c14]]
      exact x_iret S hr hlk hP hS d_V_entryIn_26
/-- PageVault.flags(II)I -/
def j_V_flags (n : Nat) (V : VS) (a1 : Int32) (a2 : Int32) : Int32 :=
  if (j_V_entryIn n V a1 a2) = 0 then
    (-1)
  else
    j_V_flagsOf (j_V_entryIn n V a1 a2)
set_option maxHeartbeats 4000000 in
set_option maxRecDepth 100000 in
theorem c_V_flags (hE : xE ad n) (V : VS) (a1 : Int32) (a2 : Int32) : XC l D ad n cI cS cQ y_V_flags b_V_flags 4 (some .int) ({ frames := 4, cells := 0, slots := 0, locals := 87 }) [.ref (ad 0), .int a1, .int a2] V (some (.int (j_V_flags n V a1 a2))) (V) := by
  refine FC_intro (by decide) (Nat.le_of_ble_eq_true rfl) ?_
  intro p e s m below meth c ls S hr hlk hK hP hS hl
  have S : CallFix p m c b_V_flags 4 s _ TG "PageVault" := S
  have hl : lv_has ls 4 [(0, .ref (ad 0)), (1, .int a1), (2, .int a2)] := hl
  refine lv_aload_n S.1 S.2.1 d_V_flags_0 rfl (lv_at hl 0 rfl) ?_
  refine lv_iload_n S.1 S.2.1 d_V_flags_1 rfl (lv_at hl 1 rfl) ?_
  refine lv_iload_n S.1 S.2.1 d_V_flags_2 rfl (lv_at hl 2 rfl) ?_
  refine x_callVi (As := [.int a1, .int a2]) (rest := []) S hK ci_V_122 (c_V_entryIn l D ad n cI cS cQ hE V a1 a2) (x_recV hK hP) hP hS ⟨rfl, rfl, Nat.le_of_ble_eq_true rfl, Nat.le_of_ble_eq_true rfl⟩ rfl hl.1 rfl (Nat.le_of_ble_eq_true rfl) d_V_flags_3 (fun H locs hP hS => ?_)
  refine lv_istore_n (lv' := [(3, .int (j_V_entryIn n V a1 a2)), (0, .ref (ad 0)), (1, .int a1), (2, .int a2)]) S.1 S.2.1 d_V_flags_6 rfl hl (by decide) rfl (fun ls hl => ?_)
  refine lv_iload_n S.1 S.2.1 d_V_flags_7 rfl (lv_at hl 0 rfl) ?_
  refine lv_if_ne (tgt := 15) S.1 S.2.1 d_V_flags_8 (by decide) (fun c8 => ?_) (fun c8 => ?_)
  · refine lv_iload_n S.1 S.2.1 d_V_flags_15 rfl (lv_at hl 0 rfl) ?_
    refine x_callSi (As := [.int (j_V_entryIn n V a1 a2)]) (rest := []) S hK ci_V_125 (c_V_flagsOf l D ad n cI cS cQ hE V (j_V_entryIn n V a1 a2)) hP hS ⟨rfl, rfl, Nat.le_of_ble_eq_true rfl, Nat.le_of_ble_eq_true rfl⟩ rfl hl.1 rfl (Nat.le_of_ble_eq_true rfl) d_V_flags_16 (fun H locs hP hS => ?_)
    rw [show j_V_flags n V a1 a2 = j_V_flagsOf (j_V_entryIn n V a1 a2) from by rw [j_V_flags, if_neg c8]]
    exact x_iret S hr hlk hP hS d_V_flags_19
  · refine lv_iconst (v := (-1)) S.1 S.2.1 d_V_flags_11 (by decide) ?_
    refine lv_goto (tgt := 19) S.1 S.2.1 d_V_flags_12 (by decide) ?_
    rw [show j_V_flags n V a1 a2 = (-1) from by rw [j_V_flags, if_pos c8]]
    exact x_iret S hr hlk hP hS d_V_flags_19
/-- PageVault.owners(II)I -/
def j_V_owners (n : Nat) (V : VS) (a1 : Int32) (a2 : Int32) : Int32 :=
  j_F_holders n V (j_V_frameOf (j_V_entryIn n V a1 a2))
set_option maxHeartbeats 4000000 in
set_option maxRecDepth 100000 in
theorem c_V_owners (hE : xE ad n) (V : VS) (a1 : Int32) (a2 : Int32) : XC l D ad n cI cS cQ y_V_owners b_V_owners 3 (some .int) ({ frames := 4, cells := 0, slots := 0, locals := 87 }) [.ref (ad 0), .int a1, .int a2] V (some (.int (j_V_owners n V a1 a2))) (V) := by
  refine FC_intro (by decide) (Nat.le_of_ble_eq_true rfl) ?_
  intro p e s m below meth c ls S hr hlk hK hP hS hl
  have S : CallFix p m c b_V_owners 3 s _ TG "PageVault" := S
  have hl : lv_has ls 3 [(0, .ref (ad 0)), (1, .int a1), (2, .int a2)] := hl
  refine lv_aload_n S.1 S.2.1 d_V_owners_0 rfl (lv_at hl 0 rfl) ?_
  refine x_get_frames S hK hP tg_12 d_V_owners_1 ?_
  refine lv_aload_n S.1 S.2.1 d_V_owners_4 rfl (lv_at hl 0 rfl) ?_
  refine lv_iload_n S.1 S.2.1 d_V_owners_5 rfl (lv_at hl 1 rfl) ?_
  refine lv_iload_n S.1 S.2.1 d_V_owners_6 rfl (lv_at hl 2 rfl) ?_
  refine x_callVi (As := [.int a1, .int a2]) (rest := [.ref (ad 1)]) S hK ci_V_122 (c_V_entryIn l D ad n cI cS cQ hE V a1 a2) (x_recV hK hP) hP hS ⟨rfl, rfl, Nat.le_of_ble_eq_true rfl, Nat.le_of_ble_eq_true rfl⟩ rfl hl.1 rfl (Nat.le_of_ble_eq_true rfl) d_V_owners_7 (fun H locs hP hS => ?_)
  refine x_callSi (As := [.int (j_V_entryIn n V a1 a2)]) (rest := [.ref (ad 1)]) S hK ci_V_81 (c_V_frameOf l D ad n cI cS cQ hE V (j_V_entryIn n V a1 a2)) hP hS ⟨rfl, rfl, Nat.le_of_ble_eq_true rfl, Nat.le_of_ble_eq_true rfl⟩ rfl hl.1 rfl (Nat.le_of_ble_eq_true rfl) d_V_owners_10 (fun H locs hP hS => ?_)
  refine x_callVi (As := [.int (j_V_frameOf (j_V_entryIn n V a1 a2))]) (rest := []) S hK ci_V_128 (c_F_holders l D ad n cI cS cQ hE V (j_V_frameOf (j_V_entryIn n V a1 a2))) (x_recF hK hP) hP hS ⟨rfl, rfl, Nat.le_of_ble_eq_true rfl, Nat.le_of_ble_eq_true rfl⟩ rfl hl.1 rfl (Nat.le_of_ble_eq_true rfl) d_V_owners_13 (fun H locs hP hS => ?_)
  rw [show j_V_owners n V a1 a2 = j_F_holders n V (j_V_frameOf (j_V_entryIn n V a1 a2)) from by rw [j_V_owners]]
  exact x_iret S hr hlk hP hS d_V_owners_16
end XW
end
