section XW
variable (l : Launch) (D : va_G) (ad : Nat → Nat) (n : Nat) (cI cS cQ : ClassId)
/-- PageVault.entryIn(II)I -/
def j_V_entryIn (n : Nat) (V : VS) (a1 : Int32) (a2 : Int32) : Int32 :=
  oc (j_V_find V a1) (
    0) (fun k1 =>
    if (j_V_isUsers a2) = 0 then
      0
    else
      j_S_entryAt n V k1 a2)
set_option maxHeartbeats 4000000 in
set_option maxRecDepth 100000 in
theorem c_V_entryIn (hE : xE ad n) (V : VS) (a1 : Int32) (a2 : Int32) : XC l D ad n cI cS cQ y_V_entryIn b_V_entryIn 4 (some .int) ({ frames := 3, cells := 0, slots := 0, locals := 64 }) [.ref (ad 0), .int a1, .int a2] V (some (.int (j_V_entryIn n V a1 a2))) (V) := by
  refine FC_intro (by decide) (Nat.le_of_ble_eq_true rfl) ?_
  intro p e s m below meth c ls S hr hlk hK hP hS hl
  have S : CallFix p m c b_V_entryIn 4 s _ TG "PageVault" := S
  have hl : lv_has ls 4 [(0, .ref (ad 0)), (1, .int a1), (2, .int a2)] := hl
  refine lv_aload_n S.1 S.2.1 d_V_entryIn_0 rfl (lv_at hl 0 rfl) ?_
  refine lv_iload_n S.1 S.2.1 d_V_entryIn_1 rfl (lv_at hl 1 rfl) ?_
  refine x_callVq (As := [.int a1]) (rest := []) S hK ci_V_50 (c_V_find l D ad n cI cS cQ hE V a1) (x_recV hK hP) hP hS ⟨rfl, rfl, Nat.le_of_ble_eq_true rfl, Nat.le_of_ble_eq_true rfl⟩ rfl hl.1 rfl (Nat.le_of_ble_eq_true rfl) d_V_entryIn_2 (fun hk1 H locs hP hS => ?_) (fun k1 hk1 H locs hP hS => ?_)
  · refine lv_astore_nN (lv' := [(3, .null), (0, .ref (ad 0)), (1, .int a1), (2, .int a2)]) S.1 S.2.1 d_V_entryIn_5 rfl hl (by decide) rfl (fun ls hl => ?_)
    refine lv_aload_nN S.1 S.2.1 d_V_entryIn_6 rfl (lv_at hl 0 rfl) ?_
    refine lv_ifnullN (tgt := 17) S.1 S.2.1 d_V_entryIn_7 (by decide) ?_
    refine lv_iconst (v := 0) S.1 S.2.1 d_V_entryIn_17 (by decide) ?_
    refine lv_goto (tgt := 26) S.1 S.2.1 d_V_entryIn_18 (by decide) ?_
    rw [show j_V_entryIn n V a1 a2 = 0 from by rw [j_V_entryIn, oc_none hk1]]
    exact x_iret S hr hlk hP hS d_V_entryIn_26
  · refine lv_astore_n (lv' := [(3, .ref (ad (6 + k1))), (0, .ref (ad 0)), (1, .int a1), (2, .int a2)]) S.1 S.2.1 d_V_entryIn_5 rfl hl (by decide) rfl (fun ls hl => ?_)
    refine lv_aload_n S.1 S.2.1 d_V_entryIn_6 rfl (lv_at hl 0 rfl) ?_
    refine lv_ifnull S.1 S.2.1 d_V_entryIn_7 ?_
    refine lv_iload_n S.1 S.2.1 d_V_entryIn_10 rfl (lv_at hl 3 rfl) ?_
    refine x_callSi (As := [.int a2]) (rest := []) S hK ci_V_135 (c_V_isUsers l D ad n cI cS cQ hE V a2) hP hS ⟨rfl, rfl, Nat.le_of_ble_eq_true rfl, Nat.le_of_ble_eq_true rfl⟩ rfl hl.1 rfl (Nat.le_of_ble_eq_true rfl) d_V_entryIn_11 (fun H locs hP hS => ?_)
    refine lv_if_ne (tgt := 21) S.1 S.2.1 d_V_entryIn_14 (by decide) (fun c14 => ?_) (fun c14 => ?_)
    · refine lv_aload_n S.1 S.2.1 d_V_entryIn_21 rfl (lv_at hl 0 rfl) ?_
      refine lv_iload_n S.1 S.2.1 d_V_entryIn_22 rfl (lv_at hl 3 rfl) ?_
      refine x_callVi (As := [.int a2]) (rest := []) S hK ci_V_71 (c_S_entryAt l D ad n cI cS cQ hE V k1 (find_lt hk1) a2) (x_recS hK hP (find_lt hk1)) hP hS ⟨rfl, rfl, Nat.le_of_ble_eq_true rfl, Nat.le_of_ble_eq_true rfl⟩ rfl hl.1 rfl (Nat.le_of_ble_eq_true rfl) d_V_entryIn_23 (fun H locs hP hS => ?_)
      rw [show j_V_entryIn n V a1 a2 = j_S_entryAt n V k1 a2 from by rw [j_V_entryIn, oc_some hk1, if_neg c14]]
      exact x_iret S hr hlk hP hS d_V_entryIn_26
    · refine lv_iconst (v := 0) S.1 S.2.1 d_V_entryIn_17 (by decide) ?_
      refine lv_goto (tgt := 26) S.1 S.2.1 d_V_entryIn_18 (by decide) ?_
      rw [show j_V_entryIn n V a1 a2 = 0 from by rw [j_V_entryIn, oc_some hk1, if_pos c14]]
      exact x_iret S hr hlk hP hS d_V_entryIn_26
/-- PageVault.flags(II)I -/
def j_V_flags (n : Nat) (V : VS) (a1 : Int32) (a2 : Int32) : Int32 :=
  if (j_V_entryIn n V a1 a2) = 0 then
    (-1)
  else
    j_V_flagsOf (j_V_entryIn n V a1 a2)
set_option maxHeartbeats 4000000 in
set_option maxRecDepth 100000 in
theorem c_V_flags (hE : xE ad n) (V : VS) (a1 : Int32) (a2 : Int32) : XC l D ad n cI cS cQ y_V_flags b_V_flags 4 (some .int) ({ frames := 4, cells := 0, slots := 0, locals := 87 }) [.ref (ad 0), .int a1, .int a2] V (some (.int (j_V_flags n V a1 a2))) (V) := by
  refine FC_intro (by decide) (Nat.le_of_ble_eq_true rfl) ?_
  intro p e s m below meth c ls S hr hlk hK hP hS hl
  have S : CallFix p m c b_V_flags 4 s _ TG "PageVault" := S
  have hl : lv_has ls 4 [(0, .ref (ad 0)), (1, .int a1), (2, .int a2)] := hl
  refine lv_aload_n S.1 S.2.1 d_V_flags_0 rfl (lv_at hl 0 rfl) ?_
  refine lv_iload_n S.1 S.2.1 d_V_flags_1 rfl (lv_at hl 1 rfl) ?_
  refine lv_iload_n S.1 S.2.1 d_V_flags_2 rfl (lv_at hl 2 rfl) ?_
  refine x_callVi (As := [.int a1, .int a2]) (rest := []) S hK ci_V_122 (c_V_entryIn l D ad n cI cS cQ hE V a1 a2) (x_recV hK hP) hP hS ⟨rfl, rfl, Nat.le_of_ble_eq_true rfl, Nat.le_of_ble_eq_true rfl⟩ rfl hl.1 rfl (Nat.le_of_ble_eq_true rfl) d_V_flags_3 (fun H locs hP hS => ?_)
  refine lv_istore_n (lv' := [(3, .int (j_V_entryIn n V a1 a2)), (0, .ref (ad 0)), (1, .int a1), (2, .int a2)]) S.1 S.2.1 d_V_flags_6 rfl hl (by decide) rfl (fun ls hl => ?_)
  refine lv_iload_n S.1 S.2.1 d_V_flags_7 rfl (lv_at hl 0 rfl) ?_
  refine lv_if_ne (tgt := 15) S.1 S.2.1 d_V_flags_8 (by decide) (fun c8 => ?_) (fun c8 => ?_)
  · refine lv_iload_n S.1 S.2.1 d_V_flags_15 rfl (lv_at hl 0 rfl) ?_
    refine x_callSi (As := [.int (j_V_entryIn n V a1 a2)]) (rest := []) S hK ci_V_125 (c_V_flagsOf l D ad n cI cS cQ hE V (j_V_entryIn n V a1 a2)) hP hS ⟨rfl, rfl, Nat.le_of_ble_eq_true rfl, Nat.le_of_ble_eq_true rfl⟩ rfl hl.1 rfl (Nat.le_of_ble_eq_true rfl) d_V_flags_16 (fun H locs hP hS => ?_)
    rw [show j_V_flags n V a1 a2 = j_V_flagsOf (j_V_entryIn n V a1 a2) from by rw [j_V_flags, if_neg c8]]
    exact x_iret S hr hlk hP hS d_V_flags_19
  · refine lv_iconst (v := (-1)) S.1 S.2.1 d_V_flags_11 (by decide) ?_
    refine lv_goto (tgt := 19) S.1 S.2.1 d_V_flags_12 (by decide) ?_
    rw [show j_V_flags n V a1 a2 = (-1) from by rw [j_V_flags, if_pos c8]]
    exact x_iret S hr hlk hP hS d_V_flags_19
/-- PageVault.owners(II)I -/
def j_V_owners (n : Nat) (V : VS) (a1 : Int32) (a2 : Int32) : Int32 :=
  j_F_holders n V (j_V_frameOf (j_V_entryIn n V a1 a2))
set_option maxHeartbeats 4000000 in
set_option maxRecDepth 100000 in
theorem c_V_owners (hE : xE ad n) (V : VS) (a1 : Int32) (a2 : Int32) : XC l D ad n cI cS cQ y_V_owners b_V_owners 3 (some .int) ({ frames := 4, cells := 0, slots := 0, locals := 87 }) [.ref (ad 0), .int a1, .int a2] V (some (.int (j_V_owners n V a1 a2))) (V) := by
  refine FC_intro (by decide) (Nat.le_of_ble_eq_true rfl) ?_
  intro p e s m below meth c ls S hr hlk hK hP hS hl
  have S : CallFix p m c b_V_owners 3 s _ TG "PageVault" := S
  have hl : lv_has ls 3 [(0, .ref (ad 0)), (1, .int a1), (2, .int a2)] := hl
  refine lv_aload_n S.1 S.2.1 d_V_owners_0 rfl (lv_at hl 0 rfl) ?_
  refine x_get_frames S hK hP tg_49 d_V_owners_1 ?_
  refine lv_aload_n S.1 S.2.1 d_V_owners_4 rfl (lv_at hl 0 rfl) ?_
  refine lv_iload_n S.1 S.2.1 d_V_owners_5 rfl (lv_at hl 1 rfl) ?_
  refine lv_iload_n S.1 S.2.1 d_V_owners_6 rfl (lv_at hl 2 rfl) ?_
  refine x_callVi (As := [.int a1, .int a2]) (rest := [.ref (ad 1)]) S hK ci_V_122 (c_V_entryIn l D ad n cI cS cQ hE V a1 a2) (x_recV hK hP) hP hS ⟨rfl, rfl, Nat.le_of_ble_eq_true rfl, Nat.le_of_ble_eq_true rfl⟩ rfl hl.1 rfl (Nat.le_of_ble_eq_true rfl) d_V_owners_7 (fun H locs hP hS => ?_)
  refine x_callSi (As := [.int (j_V_entryIn n V a1 a2)]) (rest := [.ref (ad 1)]) S hK ci_V_81 (c_V_frameOf l D ad n cI cS cQ hE V (j_V_entryIn n V a1 a2)) hP hS ⟨rfl, rfl, Nat.le_of_ble_eq_true rfl, Nat.le_of_ble_eq_true rfl⟩ rfl hl.1 rfl (Nat.le_of_ble_eq_true rfl) d_V_owners_10 (fun H locs hP hS => ?_)
  refine x_callVi (As := [.int (j_V_frameOf (j_V_entryIn n V a1 a2))]) (rest := []) S hK ci_V_128 (c_F_holders l D ad n cI cS cQ hE V (j_V_frameOf (j_V_entryIn n V a1 a2))) (x_recF hK hP) hP hS ⟨rfl, rfl, Nat.le_of_ble_eq_true rfl, Nat.le_of_ble_eq_true rfl⟩ rfl hl.1 rfl (Nat.le_of_ble_eq_true rfl) d_V_owners_13 (fun H locs hP hS => ?_)
  rw [show j_V_owners n V a1 a2 = j_F_holders n V (j_V_frameOf (j_V_entryIn n V a1 a2)) from by rw [j_V_owners]]
  exact x_iret S hr hlk hP hS d_V_owners_16
end XW
