section XW
variable (l : Launch) (D : va_G) (ad : Nat → Nat) (n : Nat) (cI cS cQ : ClassId)
/-- PageVault$Space.openAsCopy(LPageVault$Space;)V -/
def j_S_openAsCopy (n : Nat) (V : VS) (k : Nat) (q : Nat) : VS :=
  j_S_openAsCopy_h10 n 257 (j_S_open n V k (v_len V q)) k q 0
set_option maxHeartbeats 4000000 in
set_option maxRecDepth 100000 in
theorem c_S_openAsCopy (hE : xE ad n) (V : VS) (k : Nat) (hk : k < 16) (q : Nat) (hq : q < 16) : XC l D ad n cI cS cQ y_S_openAsCopy b_S_openAsCopy 3 none ({ frames := 4, cells := 0, slots := 0, locals := 107 }) [.ref (ad (6 + k)), .ref (ad (6 + q))] V none (j_S_openAsCopy n V k q) := by
  refine FC_intro (by decide) (Nat.le_of_ble_eq_true rfl) ?_
  intro p e s m below meth c ls S hr hlk hK hP hS hl
  have S : CallFix p m c b_S_openAsCopy 3 s _ TG "PageVault$Space" := S
  have hl : lv_has ls 3 [(0, .ref (ad (6 + k))), (1, .ref (ad (6 + q)))] := hl
  refine lv_aload_n S.1 S.2.1 d_S_openAsCopy_0 rfl (lv_at hl 0 rfl) ?_
  refine lv_aload_n S.1 S.2.1 d_S_openAsCopy_1 rfl (lv_at hl 1 rfl) ?_
  refine x_get_length S hK hP hq tg_173 d_S_openAsCopy_2 ?_
  refine x_callVv (As := [.int (v_len V q)]) (rest := []) S hK ci_S_39 (c_S_open l D ad n cI cS cQ hE V k hk (v_len V q)) (x_recS hK hP hk) hP hS ⟨rfl, rfl, Nat.le_of_ble_eq_true rfl, Nat.le_of_ble_eq_true rfl⟩ rfl hl.1 rfl (Nat.le_of_ble_eq_true rfl) d_S_openAsCopy_5 (fun H locs hP hS => ?_)
  refine lv_iconst (v := 0) S.1 S.2.1 d_S_openAsCopy_8 (by decide) ?_
  refine lv_istore_n (lv' := [(2, .int 0), (0, .ref (ad (6 + k))), (1, .ref (ad (6 + q)))]) S.1 S.2.1 d_S_openAsCopy_9 rfl hl (by decide) rfl (fun ls hl => ?_)
  rw [show j_S_openAsCopy n V k q = j_S_openAsCopy_h10 n 257 (j_S_open n V k (v_len V q)) k q 0 from by rw [j_S_openAsCopy]]
  exact w_S_openAsCopy_h10 l D ad n cI cS cQ hE S hr hlk hK 257 0 k hk q hq 0 (j_S_open n V k (v_len V q)) _ _ _ nI_0.symm (by decide) (by decide) hP hS (lv_sub hl [1, 2, 0] rfl)
/-- PageVault.fork(I)I -/
def j_V_fork (n : Nat) (V : VS) (a1 : Int32) : Int32 × VS :=
  oc (j_V_find V a1) (
    ((-1), V)) (fun k1 =>
    if (j_V_leastUnused V) = (-1) then
      ((-1), V)
    else
      if (j_S_framesOfCopy n V k1) ≤ (j_F_spare V) then
        (j_V_leastUnused V, j_S_openAsCopy n V ((j_V_leastUnused V).toNatClampNeg) k1)
      else
        ((-1), V))
set_option maxHeartbeats 4000000 in
set_option maxRecDepth 100000 in
theorem c_V_fork (hE : xE ad n) (V : VS) (a1 : Int32) : XC l D ad n cI cS cQ y_V_fork b_V_fork 4 (some .int) ({ frames := 5, cells := 0, slots := 0, locals := 129 }) [.ref (ad 0), .int a1] V (some (.int (j_V_fork n V a1).1)) ((j_V_fork n V a1).2) := by
  refine FC_intro (by decide) (Nat.le_of_ble_eq_true rfl) ?_
  intro p e s m below meth c ls S hr hlk hK hP hS hl
  have S : CallFix p m c b_V_fork 4 s _ TG "PageVault" := S
  have hl : lv_has ls 4 [(0, .ref (ad 0)), (1, .int a1)] := hl
  refine lv_aload_n S.1 S.2.1 d_V_fork_0 rfl (lv_at hl 0 rfl) ?_
  refine lv_iload_n S.1 S.2.1 d_V_fork_1 rfl (lv_at hl 1 rfl) ?_
  refine x_callVq (As := [.int a1]) (rest := []) S hK ci_V_50 (c_V_find l D ad n cI cS cQ hE V a1) (x_recV hK hP) hP hS ⟨rfl, rfl, Nat.le_of_ble_eq_true rfl, Nat.le_of_ble_eq_true rfl⟩ rfl hl.1 rfl (Nat.le_of_ble_eq_true rfl) d_V_fork_2 (fun hk1 H locs hP hS => ?_) (fun k1 hk1 H locs hP hS => ?_)
  · refine lv_astore_nN (lv' := [(2, .null), (0, .ref (ad 0)), (1, .int a1)]) S.1 S.2.1 d_V_fork_5 rfl hl (by decide) rfl (fun ls hl => ?_)
    refine lv_aload_n S.1 S.2.1 d_V_fork_6 rfl (lv_at hl 1 rfl) ?_
    refine x_callVi (As := []) (rest := []) S hK ci_V_40 (c_V_leastUnused l D ad n cI cS cQ hE V) (x_recV hK hP) hP hS ⟨rfl, rfl, Nat.le_of_ble_eq_true rfl, Nat.le_of_ble_eq_true rfl⟩ rfl hl.1 rfl (Nat.le_of_ble_eq_true rfl) d_V_fork_7 (fun H locs hP hS => ?_)
    refine lv_istore_n (lv' := [(3, .int (j_V_leastUnused V)), (2, .null), (0, .ref (ad 0)), (1, .int a1)]) S.1 S.2.1 d_V_fork_10 rfl hl (by decide) rfl (fun ls hl => ?_)
    refine lv_aload_nN S.1 S.2.1 d_V_fork_11 rfl (lv_at hl 1 rfl) ?_
    refine lv_ifnullN (tgt := 34) S.1 S.2.1 d_V_fork_12 (by decide) ?_
    refine lv_iconst (v := (-1)) S.1 S.2.1 d_V_fork_34 (by decide) ?_
    rw [show j_V_fork n V a1 = ((-1), V) from by rw [j_V_fork, oc_none hk1]]
    exact x_iret S hr hlk hP hS d_V_fork_35
  · refine lv_astore_n (lv' := [(2, .ref (ad (6 + k1))), (0, .ref (ad 0)), (1, .int a1)]) S.1 S.2.1 d_V_fork_5 rfl hl (by decide) rfl (fun ls hl => ?_)
    refine lv_aload_n S.1 S.2.1 d_V_fork_6 rfl (lv_at hl 1 rfl) ?_
    refine x_callVi (As := []) (rest := []) S hK ci_V_40 (c_V_leastUnused l D ad n cI cS cQ hE V) (x_recV hK hP) hP hS ⟨rfl, rfl, Nat.le_of_ble_eq_true rfl, Nat.le_of_ble_eq_true rfl⟩ rfl hl.1 rfl (Nat.le_of_ble_eq_true rfl) d_V_fork_7 (fun H locs hP hS => ?_)
    refine lv_istore_n (lv' := [(3, .int (j_V_leastUnused V)), (2, .ref (ad (6 + k1))), (0, .ref (ad 0)), (1, .int a1)]) S.1 S.2.1 d_V_fork_10 rfl hl (by decide) rfl (fun ls hl => ?_)
    refine lv_aload_n S.1 S.2.1 d_V_fork_11 rfl (lv_at hl 1 rfl) ?_
    refine lv_ifnull S.1 S.2.1 d_V_fork_12 ?_
    refine lv_iload_n S.1 S.2.1 d_V_fork_15 rfl (lv_at hl 0 rfl) ?_
    refine lv_iconst (v := (-1)) S.1 S.2.1 d_V_fork_16 (by decide) ?_
    refine lv_icmp_eq (tgt := 34) S.1 S.2.1 d_V_fork_17 (by decide) (fun c17 => ?_) (fun c17 => ?_)
    · refine lv_iconst (v := (-1)) S.1 S.2.1 d_V_fork_34 (by decide) ?_
      rw [show j_V_fork n V a1 = ((-1), V) from by rw [j_V_fork, oc_some hk1, if_pos c17]]
      exact x_iret S hr hlk hP hS d_V_fork_35
    · refine lv_aload_n S.1 S.2.1 d_V_fork_20 rfl (lv_at hl 2 rfl) ?_
      refine x_get_frames S hK hP tg_49 d_V_fork_21 ?_
      refine x_callVi (As := []) (rest := []) S hK ci_V_44 (c_F_spare l D ad n cI cS cQ hE V) (x_recF hK hP) hP hS ⟨rfl, rfl, Nat.le_of_ble_eq_true rfl, Nat.le_of_ble_eq_true rfl⟩ rfl hl.1 rfl (Nat.le_of_ble_eq_true rfl) d_V_fork_24 (fun H locs hP hS => ?_)
      refine lv_aload_n S.1 S.2.1 d_V_fork_27 rfl (lv_at hl 1 rfl) ?_
      refine x_callVi (As := []) (rest := [.int (j_F_spare V)]) S hK ci_V_57 (c_S_framesOfCopy l D ad n cI cS cQ hE V k1 (find_lt hk1)) (x_recS hK hP (find_lt hk1)) hP hS ⟨rfl, rfl, Nat.le_of_ble_eq_true rfl, Nat.le_of_ble_eq_true rfl⟩ rfl hl.1 rfl (Nat.le_of_ble_eq_true rfl) d_V_fork_28 (fun H locs hP hS => ?_)
      refine lv_icmp_ge (tgt := 36) S.1 S.2.1 d_V_fork_31 (by decide) (fun c31 => ?_) (fun c31 => ?_)
      · refine lv_aload_n S.1 S.2.1 d_V_fork_36 rfl (lv_at hl 2 rfl) ?_
        refine x_get_spaces S hK hP tg_50 d_V_fork_37 ?_
        refine lv_iload_n S.1 S.2.1 d_V_fork_40 rfl (lv_at hl 0 rfl) ?_
        refine x_ald_spaces S hK hP (lu_in c17) d_V_fork_41 ?_
        refine lv_aload_n S.1 S.2.1 d_V_fork_42 rfl (lv_at hl 1 rfl) ?_
        refine x_callVv (As := [.ref (ad (6 + k1))]) (rest := []) S hK ci_V_60 (c_S_openAsCopy l D ad n cI cS cQ hE V ((j_V_leastUnused V).toNatClampNeg) (vin_lt (lu_in c17)) k1 (find_lt hk1)) (x_recS hK hP (vin_lt (lu_in c17))) hP hS ⟨rfl, rfl, Nat.le_of_ble_eq_true rfl, Nat.le_of_ble_eq_true rfl⟩ rfl hl.1 rfl (Nat.le_of_ble_eq_true rfl) d_V_fork_43 (fun H locs hP hS => ?_)
        refine lv_iload_n S.1 S.2.1 d_V_fork_46 rfl (lv_at hl 0 rfl) ?_
        rw [show j_V_fork n V a1 = (j_V_leastUnused V, j_S_openAsCopy n V ((j_V_leastUnused V).toNatClampNeg) k1) from by rw [j_V_fork, oc_some hk1, if_neg c17, if_pos c31]]
        exact x_iret S hr hlk hP hS d_V_fork_47
      · refine lv_iconst (v := (-1)) S.1 S.2.1 d_V_fork_34 (by decide) ?_
        rw [show j_V_fork n V a1 = ((-1), V) from by rw [j_V_fork, oc_some hk1, if_neg c17, if_neg c31]]
        exact x_iret S hr hlk hP hS d_V_fork_35
/-- PageVault.isUsers(I)Z -/
def j_V_isUsers (a0 : Int32) : Int32 :=
  if a0 < 0 then
    0
  else
    if 1073741824 ≤ a0 then
      0
    else
      1
set_option maxHeartbeats 4000000 in
set_option maxRecDepth 100000 in
theorem c_V_isUsers (hE : xE ad n) (V : VS) (a0 : Int32) : XC l D ad n cI cS cQ y_V_isUsers b_V_isUsers 1 (some .boolean) ({ frames := 0, cells := 0, slots := 0, locals := 0 }) [.int a0] V (some (.int (j_V_isUsers a0))) (V) := by
  refine FC_intro (by decide) (Nat.le_of_ble_eq_true rfl) ?_
  intro p e s m below meth c ls S hr hlk hK hP hS hl
  have S : CallFix p m c b_V_isUsers 1 s _ TG "PageVault" := S
  have hl : lv_has ls 1 [(0, .int a0)] := hl
  refine lv_iload_n S.1 S.2.1 d_V_isUsers_0 rfl (lv_at hl 0 rfl) ?_
  refine lv_if_lt (tgt := 14) S.1 S.2.1 d_V_isUsers_1 (by decide) (fun c1 => ?_) (fun c1 => ?_)
  · refine lv_iconst (v := 0) S.1 S.2.1 d_V_isUsers_14 (by decide) ?_
    rw [show j_V_isUsers a0 = 0 from by rw [j_V_isUsers, if_pos c1]]
    exact x_zret (v := 0) S hr hlk rfl hP hS d_V_isUsers_15
  · refine lv_iload_n S.1 S.2.1 d_V_isUsers_4 rfl (lv_at hl 0 rfl) ?_
    refine lv_ldc (v := 1073741824) S.1 S.2.1 S.2.2.2.1 (S.2.2.2.2 _ tg_247) d_V_isUsers_5 ?_
    refine lv_icmp_ge (tgt := 14) S.1 S.2.1 d_V_isUsers_7 (by decide) (fun c7 => ?_) (fun c7 => ?_)
    · refine lv_iconst (v := 0) S.1 S.2.1 d_V_isUsers_14 (by decide) ?_
      rw [show j_V_isUsers a0 = 0 from by rw [j_V_isUsers, if_neg c1, if_pos c7]]
      exact x_zret (v := 0) S hr hlk rfl hP hS d_V_isUsers_15
    · refine lv_iconst (v := 1) S.1 S.2.1 d_V_isUsers_10 (by decide) ?_
      refine lv_goto (tgt := 15) S.1 S.2.1 d_V_isUsers_11 (by decide) ?_
      rw [show j_V_isUsers a0 = 1 from by rw [j_V_isUsers, if_neg c1, if_neg c7]]
      exact x_zret (v := 1) S hr hlk rfl hP hS d_V_isUsers_15
/-- PageVault.beginsPage(I)Z -/
def j_V_beginsPage (a0 : Int32) : Int32 :=
  if (j_V_isUsers a0) = 0 then
    0
  else
    if (a0 - a0 / 4096 * 4096) = 0 then
      1
    else
      0
set_option maxHeartbeats 4000000 in
set_option maxRecDepth 100000 in
theorem c_V_beginsPage (hE : xE ad n) (V : VS) (a0 : Int32) : XC l D ad n cI cS cQ y_V_beginsPage b_V_beginsPage 1 (some .boolean) ({ frames := 1, cells := 0, slots := 0, locals := 20 }) [.int a0] V (some (.int (j_V_beginsPage a0))) (V) := by
  refine FC_intro (by decide) (Nat.le_of_ble_eq_true rfl) ?_
  intro p e s m below meth c ls S hr hlk hK hP hS hl
  have S : CallFix p m c b_V_beginsPage 1 s _ TG "PageVault" := S
  have hl : lv_has ls 1 [(0, .int a0)] := hl
  refine lv_iload_n S.1 S.2.1 d_V_beginsPage_0 rfl (lv_at hl 0 rfl) ?_
  refine x_callSi (As := [.int a0]) (rest := []) S hK ci_V_135 (c_V_isUsers l D ad n cI cS cQ hE V a0) hP hS ⟨rfl, rfl, Nat.le_of_ble_eq_true rfl, Nat.le_of_ble_eq_true rfl⟩ rfl hl.1 rfl (Nat.le_of_ble_eq_true rfl) d_V_beginsPage_1 (fun H locs hP hS => ?_)
  refine lv_if_eq (tgt := 19) S.1 S.2.1 d_V_beginsPage_4 (by decide) (fun c4 => ?_) (fun c4 => ?_)
  · refine lv_iconst (v := 0) S.1 S.2.1 d_V_beginsPage_19 (by decide) ?_
    rw [show j_V_beginsPage a0 = 0 from by rw [j_V_beginsPage, if_pos c4]]
    exact x_zret (v := 0) S hr hlk rfl hP hS d_V_beginsPage_20
  · refine lv_iload_n S.1 S.2.1 d_V_beginsPage_7 rfl (lv_at hl 0 rfl) ?_
    refine lv_sipush (v := 4096) S.1 S.2.1 d_V_beginsPage_8 (by decide) ?_
    refine lv_irem S.1 S.2.1 d_V_beginsPage_11 (by decide) ?_
    refine lv_if_ne (tgt := 19) S.1 S.2.1 d_V_beginsPage_12 (by decide) (fun c12 => ?_) (fun c12 => ?_)
    · refine lv_iconst (v := 0) S.1 S.2.1 d_V_beginsPage_19 (by decide) ?_
      rw [show j_V_beginsPage a0 = 0 from by rw [j_V_beginsPage, if_neg c4, if_neg c12]]
      exact x_zret (v := 0) S hr hlk rfl hP hS d_V_beginsPage_20
    · refine lv_iconst (v := 1) S.1 S.2.1 d_V_beginsPage_15 (by decide) ?_
      refine lv_goto (tgt := 20) S.1 S.2.1 d_V_beginsPage_16 (by decide) ?_
      rw [show j_V_beginsPage a0 = 1 from by rw [j_V_beginsPage, if_neg c4, if_pos c12]]
      exact x_zret (v := 1) S hr hlk rfl hP hS d_V_beginsPage_20
/-- PageVault.areFlags(I)Z -/
def j_V_areFlags (a0 : Int32) : Int32 :=
  if a0 < 0 then
    0
  else
    if 15 < a0 then
      0
    else
      1
set_option maxHeartbeats 4000000 in
set_option maxRecDepth 100000 in
theorem c_V_areFlags (hE : xE ad n) (V : VS) (a0 : Int32) : XC l D ad n cI cS cQ y_V_areFlags b_V_areFlags 1 (some .boolean) ({ frames := 0, cells := 0, slots := 0, locals := 0 }) [.int a0] V (some (.int (j_V_areFlags a0))) (V) := by
  refine FC_intro (by decide) (Nat.le_of_ble_eq_true rfl) ?_
  intro p e s m below meth c ls S hr hlk hK hP hS hl
  have S : CallFix p m c b_V_areFlags 1 s _ TG "PageVault" := S
  have hl : lv_has ls 1 [(0, .int a0)] := hl
  refine lv_iload_n S.1 S.2.1 d_V_areFlags_0 rfl (lv_at hl 0 rfl) ?_
  refine lv_if_lt (tgt := 14) S.1 S.2.1 d_V_areFlags_1 (by decide) (fun c1 => ?_) (fun c1 => ?_)
  · refine lv_iconst (v := 0) S.1 S.2.1 d_V_areFlags_14 (by decide) ?_
    rw [show j_V_areFlags a0 = 0 from by rw [j_V_areFlags, if_pos c1]]
    exact x_zret (v := 0) S hr hlk rfl hP hS d_V_areFlags_15
  · refine lv_iload_n S.1 S.2.1 d_V_areFlags_4 rfl (lv_at hl 0 rfl) ?_
    refine lv_bipush (v := 15) S.1 S.2.1 d_V_areFlags_5 (by decide) ?_
    refine lv_icmp_gt (tgt := 14) S.1 S.2.1 d_V_areFlags_7 (by decide) (fun c7 => ?_) (fun c7 => ?_)
    · refine lv_iconst (v := 0) S.1 S.2.1 d_V_areFlags_14 (by decide) ?_
      rw [show j_V_areFlags a0 = 0 from by rw [j_V_areFlags, if_neg c1, if_pos c7]]
      exact x_zret (v := 0) S hr hlk rfl hP hS d_V_areFlags_15
    · refine lv_iconst (v := 1) S.1 S.2.1 d_V_areFlags_10 (by decide) ?_
      refine lv_goto (tgt := 15) S.1 S.2.1 d_V_areFlags_11 (by decide) ?_
      rw [show j_V_areFlags a0 = 1 from by rw [j_V_areFlags, if_neg c1, if_neg c7]]
      exact x_zret (v := 1) S hr hlk rfl hP hS d_V_areFlags_15
/-- PageVault$Space.slotOf(I)I -/
def j_S_slotOf (a0 : Int32) : Int32 :=
  (ju a0 12) &&& 1023
set_option maxHeartbeats 4000000 in
set_option maxRecDepth 100000 in
theorem c_S_slotOf (hE : xE ad n) (V : VS) (a0 : Int32) : XC l D ad n cI cS cQ y_S_slotOf b_S_slotOf 1 (some .int) ({ frames := 0, cells := 0, slots := 0, locals := 0 }) [.int a0] V (some (.int (j_S_slotOf a0))) (V) := by
  refine FC_intro (by decide) (Nat.le_of_ble_eq_true rfl) ?_
  intro p e s m below meth c ls S hr hlk hK hP hS hl
  have S : CallFix p m c b_S_slotOf 1 s _ TG "PageVault$Space" := S
  have hl : lv_has ls 1 [(0, .int a0)] := hl
  refine lv_iload_n S.1 S.2.1 d_S_slotOf_0 rfl (lv_at hl 0 rfl) ?_
  refine lv_bipush (v := 12) S.1 S.2.1 d_S_slotOf_1 (by decide) ?_
  refine lv_iushr (v := ju a0 12) S.1 S.2.1 d_S_slotOf_3 rfl ?_
  refine lv_sipush (v := 1023) S.1 S.2.1 d_S_slotOf_4 (by decide) ?_
  refine lv_iand S.1 S.2.1 d_S_slotOf_7 ?_
  rw [show j_S_slotOf a0 = (ju a0 12) &&& 1023 from by rw [j_S_slotOf]]
  exact x_iret S hr hlk hP hS d_S_slotOf_8
/-- PageVault$Space.entryAt(I)I -/
def j_S_entryAt (n : Nat) (V : VS) (k : Nat) (a1 : Int32) : Int32 :=
  j_F_word n V (j_S_tableOf n V k (ju a1 22)) (j_S_slotOf a1)
set_option maxHeartbeats 4000000 in
set_option maxRecDepth 100000 in
theorem c_S_entryAt (hE : xE ad n) (V : VS) (k : Nat) (hk : k < 16) (a1 : Int32) : XC l D ad n cI cS cQ y_S_entryAt b_S_entryAt 2 (some .int) ({ frames := 2, cells := 0, slots := 0, locals := 43 }) [.ref (ad (6 + k)), .int a1] V (some (.int (j_S_entryAt n V k a1))) (V) := by
  refine FC_intro (by decide) (Nat.le_of_ble_eq_true rfl) ?_
  intro p e s m below meth c ls S hr hlk hK hP hS hl
  have S : CallFix p m c b_S_entryAt 2 s _ TG "PageVault$Space" := S
  have hl : lv_has ls 2 [(0, .ref (ad (6 + k))), (1, .int a1)] := hl
  refine lv_aload_n S.1 S.2.1 d_S_entryAt_0 rfl (lv_at hl 0 rfl) ?_
  refine x_get_sframes S hK hP hk tg_47 d_S_entryAt_1 ?_
  refine lv_aload_n S.1 S.2.1 d_S_entryAt_4 rfl (lv_at hl 0 rfl) ?_
  refine lv_iload_n S.1 S.2.1 d_S_entryAt_5 rfl (lv_at hl 1 rfl) ?_
  refine lv_bipush (v := 22) S.1 S.2.1 d_S_entryAt_6 (by decide) ?_
  refine lv_iushr (v := ju a1 22) S.1 S.2.1 d_S_entryAt_8 rfl ?_
  refine x_callVi (As := [.int (ju a1 22)]) (rest := [.ref (ad 1)]) S hK ci_S_32 (c_S_tableOf l D ad n cI cS cQ hE V k hk (ju a1 22)) (x_recS hK hP hk) hP hS ⟨rfl, rfl, Nat.le_of_ble_eq_true rfl, Nat.le_of_ble_eq_true rfl⟩ rfl hl.1 rfl (Nat.le_of_ble_eq_true rfl) d_S_entryAt_9 (fun H locs hP hS => ?_)
  refine lv_iload_n S.1 S.2.1 d_S_entryAt_12 rfl (lv_at hl 1 rfl) ?_
  refine x_callSi (As := [.int a1]) (rest := [.int (j_S_tableOf n V k (ju a1 22)), .ref (ad 1)]) S hK ci_S_56 (c_S_slotOf l D ad n cI cS cQ hE V a1) hP hS ⟨rfl, rfl, Nat.le_of_ble_eq_true rfl, Nat.le_of_ble_eq_true rfl⟩ rfl hl.1 rfl (Nat.le_of_ble_eq_true rfl) d_S_entryAt_13 (fun H locs hP hS => ?_)
  refine x_callVi (As := [.int (j_S_tableOf n V k (ju a1 22)), .int (j_S_slotOf a1)]) (rest := []) S hK ci_S_59 (c_F_word l D ad n cI cS cQ hE V (j_S_tableOf n V k (ju a1 22)) (j_S_slotOf a1)) (x_recF hK hP) hP hS ⟨rfl, rfl, Nat.le_of_ble_eq_true rfl, Nat.le_of_ble_eq_true rfl⟩ rfl hl.1 rfl (Nat.le_of_ble_eq_true rfl) d_S_entryAt_16 (fun H locs hP hS => ?_)
  rw [show j_S_entryAt n V k a1 = j_F_word n V (j_S_tableOf n V k (ju a1 22)) (j_S_slotOf a1) from by rw [j_S_entryAt]]
  exact x_iret S hr hlk hP hS d_S_entryAt_19
/-- PageVault$Space.addPage(II)I -/
def j_S_addPage (n : Nat) (V : VS) (k : Nat) (a1 : Int32) (a2 : Int32) : Int32 × VS :=
  if (j_S_tableOf n V k (ju a1 22)) = (-1) then
    if 2 ≤ (j_F_spare V) then
      if (j_S_tableOf n V k (ju a1 22)) = (-1) then
        ((j_F_take n ((j_S_addTable n V k (ju a1 22)).2)).1, j_F_setWord n ((j_F_take n ((j_S_addTable n V k (ju a1 22)).2)).2) ((j_S_addTable n V k (ju a1 22)).1) (j_S_slotOf a1) (j_V_entryOf ((j_F_take n ((j_S_addTable n V k (ju a1 22)).2)).1) a2))
      else
        ((j_F_take n V).1, j_F_setWord n ((j_F_take n V).2) (j_S_tableOf n V k (ju a1 22)) (j_S_slotOf a1) (j_V_entryOf ((j_F_take n V).1) a2))
    else
      ((-1), V)
  else
    if 1 ≤ (j_F_spare V) then
      if (j_S_tableOf n V k (ju a1 22)) = (-1) then
        ((j_F_take n ((j_S_addTable n V k (ju a1 22)).2)).1, j_F_setWord n ((j_F_take n ((j_S_addTable n V k (ju a1 22)).2)).2) ((j_S_addTable n V k (ju a1 22)).1) (j_S_slotOf a1) (j_V_entryOf ((j_F_take n ((j_S_addTable n V k (ju a1 22)).2)).1) a2))
      else
        ((j_F_take n V).1, j_F_setWord n ((j_F_take n V).2) (j_S_tableOf n V k (ju a1 22)) (j_S_slotOf a1) (j_V_entryOf ((j_F_take n V).1) a2))
    else
      ((-1), V)
set_option maxHeartbeats 4000000 in
set_option maxRecDepth 100000 in
theorem c_S_addPage (hE : xE ad n) (V : VS) (k : Nat) (hk : k < 16) (a1 : Int32) (a2 : Int32) : XC l D ad n cI cS cQ y_S_addPage b_S_addPage 6 (some .int) ({ frames := 3, cells := 0, slots := 0, locals := 83 }) [.ref (ad (6 + k)), .int a1, .int a2] V (some (.int (j_S_addPage n V k a1 a2).1)) ((j_S_addPage n V k a1 a2).2) := by
  refine FC_intro (by decide) (Nat.le_of_ble_eq_true rfl) ?_
  intro p e s m below meth c ls S hr hlk hK hP hS hl
  have S : CallFix p m c b_S_addPage 6 s _ TG "PageVault$Space" := S
  have hl : lv_has ls 6 [(0, .ref (ad (6 + k))), (1, .int a1), (2, .int a2)] := hl
  refine lv_iload_n S.1 S.2.1 d_S_addPage_0 rfl (lv_at hl 1 rfl) ?_
  refine lv_bipush (v := 22) S.1 S.2.1 d_S_addPage_1 (by decide) ?_
  refine lv_iushr (v := ju a1 22) S.1 S.2.1 d_S_addPage_3 rfl ?_
  refine lv_istore_n (lv' := [(3, .int (ju a1 22)), (0, .ref (ad (6 + k))), (1, .int a1), (2, .int a2)]) S.1 S.2.1 d_S_addPage_4 rfl hl (by decide) rfl (fun ls hl => ?_)
  refine lv_aload_n S.1 S.2.1 d_S_addPage_5 rfl (lv_at hl 1 rfl) ?_
  refine lv_iload_n S.1 S.2.1 d_S_addPage_6 rfl (lv_at hl 0 rfl) ?_
  refine x_callVi (As := [.int (ju a1 22)]) (rest := []) S hK ci_S_32 (c_S_tableOf l D ad n cI cS cQ hE V k hk (ju a1 22)) (x_recS hK hP hk) hP hS ⟨rfl, rfl, Nat.le_of_ble_eq_true rfl, Nat.le_of_ble_eq_true rfl⟩ rfl hl.1 rfl (Nat.le_of_ble_eq_true rfl) d_S_addPage_7 (fun H locs hP hS => ?_)
  refine lv_istore (lv' := [(4, .int (j_S_tableOf n V k (ju a1 22))), (3, .int (ju a1 22)), (0, .ref (ad (6 + k))), (1, .int a1), (2, .int a2)]) S.1 S.2.1 d_S_addPage_10 hl (by decide) rfl (fun ls hl => ?_)
  refine lv_aload_n S.1 S.2.1 d_S_addPage_12 rfl (lv_at hl 2 rfl) ?_
  refine x_get_sframes S hK hP hk tg_47 d_S_addPage_13 ?_
  refine x_callVi (As := []) (rest := []) S hK ci_S_66 (c_F_spare l D ad n cI cS cQ hE V) (x_recF hK hP) hP hS ⟨rfl, rfl, Nat.le_of_ble_eq_true rfl, Nat.le_of_ble_eq_true rfl⟩ rfl hl.1 rfl (Nat.le_of_ble_eq_true rfl) d_S_addPage_16 (fun H locs hP hS => ?_)
  refine lv_iload S.1 S.2.1 d_S_addPage_19 (lv_at hl 0 rfl) ?_
  refine lv_iconst (v := (-1)) S.1 S.2.1 d_S_addPage_21 (by decide) ?_
  refine lv_icmp_ne (tgt := 29) S.1 S.2.1 d_S_addPage_22 (by decide) (fun c22 => ?_) (fun c22 => ?_)
  · refine lv_iconst (v := 1) S.1 S.2.1 d_S_addPage_29 (by decide) ?_
    refine lv_icmp_ge (tgt := 35) S.1 S.2.1 d_S_addPage_30 (by decide) (fun c30 => ?_) (fun c30 => ?_)
    · refine lv_iload S.1 S.2.1 d_S_addPage_35 (lv_at hl 0 rfl) ?_
      refine lv_iconst (v := (-1)) S.1 S.2.1 d_S_addPage_37 (by decide) ?_
      refine lv_icmp_ne (tgt := 48) S.1 S.2.1 d_S_addPage_38 (by decide) (fun c38 => ?_) (fun c38 => ?_)
      · refine lv_aload_n S.1 S.2.1 d_S_addPage_48 rfl (lv_at hl 2 rfl) ?_
        refine x_get_sframes S hK hP hk tg_47 d_S_addPage_49 ?_
        refine x_callVi (As := []) (rest := []) S hK ci_S_22 (c_F_take l D ad n cI cS cQ hE V) (x_recF hK hP) hP hS ⟨rfl, rfl, Nat.le_of_ble_eq_true rfl, Nat.le_of_ble_eq_true rfl⟩ rfl hl.1 rfl (Nat.le_of_ble_eq_true rfl) d_S_addPage_52 (fun H locs hP hS => ?_)
        refine lv_istore (lv' := [(5, .int ((j_F_take n V).1)), (4, .int (j_S_tableOf n V k (ju a1 22))), (3, .int (ju a1 22)), (0, .ref (ad (6 + k))), (1, .int a1), (2, .int a2)]) S.1 S.2.1 d_S_addPage_55 hl (by decide) rfl (fun ls hl => ?_)
        refine lv_aload_n S.1 S.2.1 d_S_addPage_57 rfl (lv_at hl 3 rfl) ?_
        refine x_get_sframes S hK hP hk tg_47 d_S_addPage_58 ?_
        refine lv_iload S.1 S.2.1 d_S_addPage_61 (lv_at hl 1 rfl) ?_
        refine lv_iload_n S.1 S.2.1 d_S_addPage_63 rfl (lv_at hl 4 rfl) ?_
        refine x_callSi (As := [.int a1]) (rest := [.int (j_S_tableOf n V k (ju a1 22)), .ref (ad 1)]) S hK ci_S_56 (c_S_slotOf l D ad n cI cS cQ hE ((j_F_take n V).2) a1) hP hS ⟨rfl, rfl, Nat.le_of_ble_eq_true rfl, Nat.le_of_ble_eq_true rfl⟩ rfl hl.1 rfl (Nat.le_of_ble_eq_true rfl) d_S_addPage_64 (fun H locs hP hS => ?_)
        refine lv_iload S.1 S.2.1 d_S_addPage_67 (lv_at hl 0 rfl) ?_
        refine lv_iload_n S.1 S.2.1 d_S_addPage_69 rfl (lv_at hl 5 rfl) ?_
        refine x_callNi (As := [.int ((j_F_take n V).1), .int a2]) (rest := [.int (j_S_slotOf a1), .int (j_S_tableOf n V k (ju a1 22)), .ref (ad 1)]) S hK ci_S_72 (hK.2 _ nl_1) (c_V_entryOf l D ad n cI cS cQ hE ((j_F_take n V).2) ((j_F_take n V).1) a2) hP hS ⟨rfl, rfl, Nat.le_of_ble_eq_true rfl, Nat.le_of_ble_eq_true rfl⟩ rfl hl.1 rfl (Nat.le_of_ble_eq_true rfl) d_S_addPage_70 (fun H locs hP hS => ?_)
        refine x_callVv (As := [.int (j_S_tableOf n V k (ju a1 22)), .int (j_S_slotOf a1), .int (j_V_entryOf ((j_F_take n V).1) a2)]) (rest := []) S hK ci_S_62 (c_F_setWord l D ad n cI cS cQ hE ((j_F_take n V).2) (j_S_tableOf n V k (ju a1 22)) (j_S_slotOf a1) (j_V_entryOf ((j_F_take n V).1) a2)) (x_recF hK hP) hP hS ⟨rfl, rfl, Nat.le_of_ble_eq_true rfl, Nat.le_of_ble_eq_true rfl⟩ rfl hl.1 rfl (Nat.le_of_ble_eq_true rfl) d_S_addPage_73 (fun H locs hP hS => ?_)
        refine lv_iload S.1 S.2.1 d_S_addPage_76 (lv_at hl 0 rfl) ?_
        rw [show j_S_addPage n V k a1 a2 = ((j_F_take n V).1, j_F_setWord n ((j_F_take n V).2) (j_S_tableOf n V k (ju a1 22)) (j_S_slotOf a1) (j_V_entryOf ((j_F_take n V).1) a2)) from by rw [j_S_addPage, if_neg c22, if_pos c30, if_neg c38]]
        exact x_iret S hr hlk hP hS d_S_addPage_78
      · refine lv_aload_n S.1 S.2.1 d_S_addPage_41 rfl (lv_at hl 2 rfl) ?_
        refine lv_iload_n S.1 S.2.1 d_S_addPage_42 rfl (lv_at hl 1 rfl) ?_
        refine x_callVi (As := [.int (ju a1 22)]) (rest := []) S hK ci_S_69 (c_S_addTable l D ad n cI cS cQ hE V k hk (ju a1 22)) (x_recS hK hP hk) hP hS ⟨rfl, rfl, Nat.le_of_ble_eq_true rfl, Nat.le_of_ble_eq_true rfl⟩ rfl hl.1 rfl (Nat.le_of_ble_eq_true rfl) d_S_addPage_43 (fun H locs hP hS => ?_)
        refine lv_istore (lv' := [(4, .int ((j_S_addTable n V k (ju a1 22)).1)), (3, .int (ju a1 22)), (0, .ref (ad (6 + k))), (1, .int a1), (2, .int a2)]) S.1 S.2.1 d_S_addPage_46 hl (by decide) rfl (fun ls hl => ?_)
        refine lv_aload_n S.1 S.2.1 d_S_addPage_48 rfl (lv_at hl 2 rfl) ?_
        refine x_get_sframes S hK hP hk tg_47 d_S_addPage_49 ?_
        refine x_callVi (As := []) (rest := []) S hK ci_S_22 (c_F_take l D ad n cI cS cQ hE ((j_S_addTable n V k (ju a1 22)).2)) (x_recF hK hP) hP hS ⟨rfl, rfl, Nat.le_of_ble_eq_true rfl, Nat.le_of_ble_eq_true rfl⟩ rfl hl.1 rfl (Nat.le_of_ble_eq_true rfl) d_S_addPage_52 (fun H locs hP hS => ?_)
        refine lv_istore (lv' := [(5, .int ((j_F_take n ((j_S_addTable n V k (ju a1 22)).2)).1)), (4, .int ((j_S_addTable n V k (ju a1 22)).1)), (3, .int (ju a1 22)), (0, .ref (ad (6 + k))), (1, .int a1), (2, .int a2)]) S.1 S.2.1 d_S_addPage_55 hl (by decide) rfl (fun ls hl => ?_)
        refine lv_aload_n S.1 S.2.1 d_S_addPage_57 rfl (lv_at hl 3 rfl) ?_
        refine x_get_sframes S hK hP hk tg_47 d_S_addPage_58 ?_
        refine lv_iload S.1 S.2.1 d_S_addPage_61 (lv_at hl 1 rfl) ?_
        refine lv_iload_n S.1 S.2.1 d_S_addPage_63 rfl (lv_at hl 4 rfl) ?_
        refine x_callSi (As := [.int a1]) (rest := [.int ((j_S_addTable n V k (ju a1 22)).1), .ref (ad 1)]) S hK ci_S_56 (c_S_slotOf l D ad n cI cS cQ hE ((j_F_take n ((j_S_addTable n V k (ju a1 22)).2)).2) a1) hP hS ⟨rfl, rfl, Nat.le_of_ble_eq_true rfl, Nat.le_of_ble_eq_true rfl⟩ rfl hl.1 rfl (Nat.le_of_ble_eq_true rfl) d_S_addPage_64 (fun H locs hP hS => ?_)
        refine lv_iload S.1 S.2.1 d_S_addPage_67 (lv_at hl 0 rfl) ?_
        refine lv_iload_n S.1 S.2.1 d_S_addPage_69 rfl (lv_at hl 5 rfl) ?_
        refine x_callNi (As := [.int ((j_F_take n ((j_S_addTable n V k (ju a1 22)).2)).1), .int a2]) (rest := [.int (j_S_slotOf a1), .int ((j_S_addTable n V k (ju a1 22)).1), .ref (ad 1)]) S hK ci_S_72 (hK.2 _ nl_1) (c_V_entryOf l D ad n cI cS cQ hE ((j_F_take n ((j_S_addTable n V k (ju a1 22)).2)).2) ((j_F_take n ((j_S_addTable n V k (ju a1 22)).2)).1) a2) hP hS ⟨rfl, rfl, Nat.le_of_ble_eq_true rfl, Nat.le_of_ble_eq_true rfl⟩ rfl hl.1 rfl (Nat.le_of_ble_eq_true rfl) d_S_addPage_70 (fun H locs hP hS => ?_)
        refine x_callVv (As := [.int ((j_S_addTable n V k (ju a1 22)).1), .int (j_S_slotOf a1), .int (j_V_entryOf ((j_F_take n ((j_S_addTable n V k (ju a1 22)).2)).1) a2)]) (rest := []) S hK ci_S_62 (c_F_setWord l D ad n cI cS cQ hE ((j_F_take n ((j_S_addTable n V k (ju a1 22)).2)).2) ((j_S_addTable n V k (ju a1 22)).1) (j_S_slotOf a1) (j_V_entryOf ((j_F_take n ((j_S_addTable n V k (ju a1 22)).2)).1) a2)) (x_recF hK hP) hP hS ⟨rfl, rfl, Nat.le_of_ble_eq_true rfl, Nat.le_of_ble_eq_true rfl⟩ rfl hl.1 rfl (Nat.le_of_ble_eq_true rfl) d_S_addPage_73 (fun H locs hP hS => ?_)
        refine lv_iload S.1 S.2.1 d_S_addPage_76 (lv_at hl 0 rfl) ?_
        rw [show j_S_addPage n V k a1 a2 = ((j_F_take n ((j_S_addTable n V k (ju a1 22)).2)).1, j_F_setWord n ((j_F_take n ((j_S_addTable n V k (ju a1 22)).2)).2) ((j_S_addTable n V k (ju a1 22)).1) (j_S_slotOf a1) (j_V_entryOf ((j_F_take n ((j_S_addTable n V k (ju a1 22)).2)).1) a2)) from by rw [j_S_addPage, if_neg c22, if_pos c30, if_pos c38]]
        exact x_iret S hr hlk hP hS d_S_addPage_78
    · refine lv_iconst (v := (-1)) S.1 S.2.1 d_S_addPage_33 (by decide) ?_
      rw [show j_S_addPage n V k a1 a2 = ((-1), V) from by rw [j_S_addPage, if_neg c22, if_neg c30]]
      exact x_iret S hr hlk hP hS d_S_addPage_34
  · refine lv_iconst (v := 2) S.1 S.2.1 d_S_addPage_25 (by decide) ?_
    refine lv_goto (tgt := 30) S.1 S.2.1 d_S_addPage_26 (by decide) ?_
    refine lv_icmp_ge (tgt := 35) S.1 S.2.1 d_S_addPage_30 (by decide) (fun c30 => ?_) (fun c30 => ?_)
    · refine lv_iload S.1 S.2.1 d_S_addPage_35 (lv_at hl 0 rfl) ?_
      refine lv_iconst (v := (-1)) S.1 S.2.1 d_S_addPage_37 (by decide) ?_
      refine lv_icmp_ne (tgt := 48) S.1 S.2.1 d_S_addPage_38 (by decide) (fun c38 => ?_) (fun c38 => ?_)
      · refine lv_aload_n S.1 S.2.1 d_S_addPage_48 rfl (lv_at hl 2 rfl) ?_
        refine x_get_sframes S hK hP hk tg_47 d_S_addPage_49 ?_
        refine x_callVi (As := []) (rest := []) S hK ci_S_22 (c_F_take l D ad n cI cS cQ hE V) (x_recF hK hP) hP hS ⟨rfl, rfl, Nat.le_of_ble_eq_true rfl, Nat.le_of_ble_eq_true rfl⟩ rfl hl.1 rfl (Nat.le_of_ble_eq_true rfl) d_S_addPage_52 (fun H locs hP hS => ?_)
        refine lv_istore (lv' := [(5, .int ((j_F_take n V).1)), (4, .int (j_S_tableOf n V k (ju a1 22))), (3, .int (ju a1 22)), (0, .ref (ad (6 + k))), (1, .int a1), (2, .int a2)]) S.1 S.2.1 d_S_addPage_55 hl (by decide) rfl (fun ls hl => ?_)
        refine lv_aload_n S.1 S.2.1 d_S_addPage_57 rfl (lv_at hl 3 rfl) ?_
        refine x_get_sframes S hK hP hk tg_47 d_S_addPage_58 ?_
        refine lv_iload S.1 S.2.1 d_S_addPage_61 (lv_at hl 1 rfl) ?_
        refine lv_iload_n S.1 S.2.1 d_S_addPage_63 rfl (lv_at hl 4 rfl) ?_
        refine x_callSi (As := [.int a1]) (rest := [.int (j_S_tableOf n V k (ju a1 22)), .ref (ad 1)]) S hK ci_S_56 (c_S_slotOf l D ad n cI cS cQ hE ((j_F_take n V).2) a1) hP hS ⟨rfl, rfl, Nat.le_of_ble_eq_true rfl, Nat.le_of_ble_eq_true rfl⟩ rfl hl.1 rfl (Nat.le_of_ble_eq_true rfl) d_S_addPage_64 (fun H locs hP hS => ?_)
        refine lv_iload S.1 S.2.1 d_S_addPage_67 (lv_at hl 0 rfl) ?_
        refine lv_iload_n S.1 S.2.1 d_S_addPage_69 rfl (lv_at hl 5 rfl) ?_
        refine x_callNi (As := [.int ((j_F_take n V).1), .int a2]) (rest := [.int (j_S_slotOf a1), .int (j_S_tableOf n V k (ju a1 22)), .ref (ad 1)]) S hK ci_S_72 (hK.2 _ nl_1) (c_V_entryOf l D ad n cI cS cQ hE ((j_F_take n V).2) ((j_F_take n V).1) a2) hP hS ⟨rfl, rfl, Nat.le_of_ble_eq_true rfl, Nat.le_of_ble_eq_true rfl⟩ rfl hl.1 rfl (Nat.le_of_ble_eq_true rfl) d_S_addPage_70 (fun H locs hP hS => ?_)
        refine x_callVv (As := [.int (j_S_tableOf n V k (ju a1 22)), .int (j_S_slotOf a1), .int (j_V_entryOf ((j_F_take n V).1) a2)]) (rest := []) S hK ci_S_62 (c_F_setWord l D ad n cI cS cQ hE ((j_F_take n V).2) (j_S_tableOf n V k (ju a1 22)) (j_S_slotOf a1) (j_V_entryOf ((j_F_take n V).1) a2)) (x_recF hK hP) hP hS ⟨rfl, rfl, Nat.le_of_ble_eq_true rfl, Nat.le_of_ble_eq_true rfl⟩ rfl hl.1 rfl (Nat.le_of_ble_eq_true rfl) d_S_addPage_73 (fun H locs hP hS => ?_)
        refine lv_iload S.1 S.2.1 d_S_addPage_76 (lv_at hl 0 rfl) ?_
        rw [show j_S_addPage n V k a1 a2 = ((j_F_take n V).1, j_F_setWord n ((j_F_take n V).2) (j_S_tableOf n V k (ju a1 22)) (j_S_slotOf a1) (j_V_entryOf ((j_F_take n V).1) a2)) from by rw [j_S_addPage, if_pos c22, if_pos c30, if_neg c38]]
        exact x_iret S hr hlk hP hS d_S_addPage_78
      · refine lv_aload_n S.1 S.2.1 d_S_addPage_41 rfl (lv_at hl 2 rfl) ?_
        refine lv_iload_n S.1 S.2.1 d_S_addPage_42 rfl (lv_at hl 1 rfl) ?_
        refine x_callVi (As := [.int (ju a1 22)]) (rest := []) S hK ci_S_69 (c_S_addTable l D ad n cI cS cQ hE V k hk (ju a1 22)) (x_recS hK hP hk) hP hS ⟨rfl, rfl, Nat.le_of_ble_eq_true rfl, Nat.le_of_ble_eq_true rfl⟩ rfl hl.1 rfl (Nat.le_of_ble_eq_true rfl) d_S_addPage_43 (fun H locs hP hS => ?_)
        refine lv_istore (lv' := [(4, .int ((j_S_addTable n V k (ju a1 22)).1)), (3, .int (ju a1 22)), (0, .ref (ad (6 + k))), (1, .int a1), (2, .int a2)]) S.1 S.2.1 d_S_addPage_46 hl (by decide) rfl (fun ls hl => ?_)
        refine lv_aload_n S.1 S.2.1 d_S_addPage_48 rfl (lv_at hl 2 rfl) ?_
        refine x_get_sframes S hK hP hk tg_47 d_S_addPage_49 ?_
        refine x_callVi (As := []) (rest := []) S hK ci_S_22 (c_F_take l D ad n cI cS cQ hE ((j_S_addTable n V k (ju a1 22)).2)) (x_recF hK hP) hP hS ⟨rfl, rfl, Nat.le_of_ble_eq_true rfl, Nat.le_of_ble_eq_true rfl⟩ rfl hl.1 rfl (Nat.le_of_ble_eq_true rfl) d_S_addPage_52 (fun H locs hP hS => ?_)
        refine lv_istore (lv' := [(5, .int ((j_F_take n ((j_S_addTable n V k (ju a1 22)).2)).1)), (4, .int ((j_S_addTable n V k (ju a1 22)).1)), (3, .int (ju a1 22)), (0, .ref (ad (6 + k))), (1, .int a1), (2, .int a2)]) S.1 S.2.1 d_S_addPage_55 hl (by decide) rfl (fun ls hl => ?_)
        refine lv_aload_n S.1 S.2.1 d_S_addPage_57 rfl (lv_at hl 3 rfl) ?_
        refine x_get_sframes S hK hP hk tg_47 d_S_addPage_58 ?_
        refine lv_iload S.1 S.2.1 d_S_addPage_61 (lv_at hl 1 rfl) ?_
        refine lv_iload_n S.1 S.2.1 d_S_addPage_63 rfl (lv_at hl 4 rfl) ?_
        refine x_callSi (As := [.int a1]) (rest := [.int ((j_S_addTable n V k (ju a1 22)).1), .ref (ad 1)]) S hK ci_S_56 (c_S_slotOf l D ad n cI cS cQ hE ((j_F_take n ((j_S_addTable n V k (ju a1 22)).2)).2) a1) hP hS ⟨rfl, rfl, Nat.le_of_ble_eq_true rfl, Nat.le_of_ble_eq_true rfl⟩ rfl hl.1 rfl (Nat.le_of_ble_eq_true rfl) d_S_addPage_64 (fun H locs hP hS => ?_)
        refine lv_iload S.1 S.2.1 d_S_addPage_67 (lv_at hl 0 rfl) ?_
        refine lv_iload_n S.1 S.2.1 d_S_addPage_69 rfl (lv_at hl 5 rfl) ?_
        refine x_callNi (As := [.int ((j_F_take n ((j_S_addTable n V k (ju a1 22)).2)).1), .int a2]) (rest := [.int (j_S_slotOf a1), .int ((j_S_addTable n V k (ju a1 22)).1), .ref (ad 1)]) S hK ci_S_72 (hK.2 _ nl_1) (c_V_entryOf l D ad n cI cS cQ hE ((j_F_take n ((j_S_addTable n V k (ju a1 22)).2)).2) ((j_F_take n ((j_S_addTable n V k (ju a1 22)).2)).1) a2) hP hS ⟨rfl, rfl, Nat.le_of_ble_eq_true rfl, Nat.le_of_ble_eq_true rfl⟩ rfl hl.1 rfl (Nat.le_of_ble_eq_true rfl) d_S_addPage_70 (fun H locs hP hS => ?_)
        refine x_callVv (As := [.int ((j_S_addTable n V k (ju a1 22)).1), .int (j_S_slotOf a1), .int (j_V_entryOf ((j_F_take n ((j_S_addTable n V k (ju a1 22)).2)).1) a2)]) (rest := []) S hK ci_S_62 (c_F_setWord l D ad n cI cS cQ hE ((j_F_take n ((j_S_addTable n V k (ju a1 22)).2)).2) ((j_S_addTable n V k (ju a1 22)).1) (j_S_slotOf a1) (j_V_entryOf ((j_F_take n ((j_S_addTable n V k (ju a1 22)).2)).1) a2)) (x_recF hK hP) hP hS ⟨rfl, rfl, Nat.le_of_ble_eq_true rfl, Nat.le_of_ble_eq_true rfl⟩ rfl hl.1 rfl (Nat.le_of_ble_eq_true rfl) d_S_addPage_73 (fun H locs hP hS => ?_)
        refine lv_iload S.1 S.2.1 d_S_addPage_76 (lv_at hl 0 rfl) ?_
        rw [show j_S_addPage n V k a1 a2 = ((j_F_take n ((j_S_addTable n V k (ju a1 22)).2)).1, j_F_setWord n ((j_F_take n ((j_S_addTable n V k (ju a1 22)).2)).2) ((j_S_addTable n V k (ju a1 22)).1) (j_S_slotOf a1) (j_V_entryOf ((j_F_take n ((j_S_addTable n V k (ju a1 22)).2)).1) a2)) from by rw [j_S_addPage, if_pos c22, if_pos c30, if_pos c38]]
        exact x_iret S hr hlk hP hS d_S_addPage_78
    · refine lv_iconst (v := (-1)) S.1 S.2.1 d_S_addPage_33 (by decide) ?_
      rw [show j_S_addPage n V k a1 a2 = ((-1), V) from by rw [j_S_addPage, if_pos c22, if_neg c30]]
      exact x_iret S hr hlk hP hS d_S_addPage_34
/-- PageVault$Space.reach(I)V -/
def j_S_reach (V : VS) (k : Nat) (a1 : Int32) : VS :=
  s_len V k (if (v_len V k) < a1 then a1 else v_len V k)
set_option maxHeartbeats 4000000 in
set_option maxRecDepth 100000 in
theorem c_S_reach (hE : xE ad n) (V : VS) (k : Nat) (hk : k < 16) (a1 : Int32) : XC l D ad n cI cS cQ y_S_reach b_S_reach 2 none ({ frames := 1, cells := 0, slots := 0, locals := 40 }) [.ref (ad (6 + k)), .int a1] V none (j_S_reach V k a1) := by
  refine FC_intro (by decide) (Nat.le_of_ble_eq_true rfl) ?_
  intro p e s m below meth c ls S hr hlk hK hP hS hl
  have S : CallFix p m c b_S_reach 2 s _ TG "PageVault$Space" := S
  have hl : lv_has ls 2 [(0, .ref (ad (6 + k))), (1, .int a1)] := hl
  refine lv_aload_n S.1 S.2.1 d_S_reach_0 rfl (lv_at hl 0 rfl) ?_
  refine lv_aload_n S.1 S.2.1 d_S_reach_1 rfl (lv_at hl 0 rfl) ?_
  refine x_get_length S hK hP hk tg_173 d_S_reach_2 ?_
  refine lv_iload_n S.1 S.2.1 d_S_reach_5 rfl (lv_at hl 1 rfl) ?_
  refine va_mmax S.1 S.2.1 (S.2.2.1.trans hl.1.symm) S.2.2.2.1 (S.2.2.2.2 _ tg_269) (S.2.2.2.2 _ tg_32) (S.2.2.2.2 _ tg_35) (S.2.2.2.2 _ tg_34) (Nat.le_of_ble_eq_true rfl) (Nat.le_of_ble_eq_true rfl) (Nat.zero_le _) (Nat.zero_le _) d_S_reach_6 ?_
  refine x_put_length S hE hK hP hS hk tg_173 d_S_reach_9 (fun H locs hP hS => ?_)
  rw [show j_S_reach V k a1 = s_len V k (if (v_len V k) < a1 then a1 else v_len V k) from by rw [j_S_reach]]
  exact x_vret S hr hlk hP hS d_S_reach_12
/-- PageVault.map(III)I -/
def j_V_map (n : Nat) (V : VS) (a1 : Int32) (a2 : Int32) (a3 : Int32) : Int32 × VS :=
  oc (j_V_find V a1) (
    ((-1), V)) (fun k1 =>
    if (j_V_beginsPage a2) = 0 then
      ((-1), V)
    else
      if (j_V_areFlags a3) = 0 then
        ((-1), V)
      else
        if (j_S_entryAt n V k1 a2) = 0 then
          if ((j_S_addPage n V k1 a2 a3).1) = (-1) then
            ((-2), (j_S_addPage n V k1 a2 a3).2)
          else
            (0, j_S_reach ((j_S_addPage n V k1 a2 a3).2) k1 (a2 + 4096))
        else
          ((-1), V))
set_option maxHeartbeats 4000000 in
set_option maxRecDepth 100000 in
theorem c_V_map (hE : xE ad n) (V : VS) (a1 : Int32) (a2 : Int32) (a3 : Int32) : XC l D ad n cI cS cQ y_V_map b_V_map 5 (some .int) ({ frames := 4, cells := 0, slots := 0, locals := 108 }) [.ref (ad 0), .int a1, .int a2, .int a3] V (some (.int (j_V_map n V a1 a2 a3).1)) ((j_V_map n V a1 a2 a3).2) := by
  refine FC_intro (by decide) (Nat.le_of_ble_eq_true rfl) ?_
  intro p e s m below meth c ls S hr hlk hK hP hS hl
  have S : CallFix p m c b_V_map 5 s _ TG "PageVault" := S
  have hl : lv_has ls 5 [(0, .ref (ad 0)), (1, .int a1), (2, .int a2), (3, .int a3)] := hl
  refine lv_aload_n S.1 S.2.1 d_V_map_0 rfl (lv_at hl 0 rfl) ?_
  refine lv_iload_n S.1 S.2.1 d_V_map_1 rfl (lv_at hl 1 rfl) ?_
  refine x_callVq (As := [.int a1]) (rest := []) S hK ci_V_50 (c_V_find l D ad n cI cS cQ hE V a1) (x_recV hK hP) hP hS ⟨rfl, rfl, Nat.le_of_ble_eq_true rfl, Nat.le_of_ble_eq_true rfl⟩ rfl hl.1 rfl (Nat.le_of_ble_eq_true rfl) d_V_map_2 (fun hk1 H locs hP hS => ?_) (fun k1 hk1 H locs hP hS => ?_)
  · refine lv_astoreN (lv' := [(4, .null), (0, .ref (ad 0)), (1, .int a1), (2, .int a2), (3, .int a3)]) S.1 S.2.1 d_V_map_5 hl (by decide) rfl (fun ls hl => ?_)
    refine lv_aloadN S.1 S.2.1 d_V_map_7 (lv_at hl 0 rfl) ?_
    refine lv_ifnullN (tgt := 35) S.1 S.2.1 d_V_map_9 (by decide) ?_
    refine lv_iconst (v := (-1)) S.1 S.2.1 d_V_map_35 (by decide) ?_
    rw [show j_V_map n V a1 a2 a3 = ((-1), V) from by rw [j_V_map, oc_none hk1]]
    exact x_iret S hr hlk hP hS d_V_map_36
  · refine lv_astore (lv' := [(4, .ref (ad (6 + k1))), (0, .ref (ad 0)), (1, .int a1), (2, .int a2), (3, .int a3)]) S.1 S.2.1 d_V_map_5 hl (by decide) rfl (fun ls hl => ?_)
    refine lv_aload S.1 S.2.1 d_V_map_7 (lv_at hl 0 rfl) ?_
    refine lv_ifnull S.1 S.2.1 d_V_map_9 ?_
    refine lv_iload_n S.1 S.2.1 d_V_map_12 rfl (lv_at hl 3 rfl) ?_
    refine x_callSi (As := [.int a2]) (rest := []) S hK ci_V_64 (c_V_beginsPage l D ad n cI cS cQ hE V a2) hP hS ⟨rfl, rfl, Nat.le_of_ble_eq_true rfl, Nat.le_of_ble_eq_true rfl⟩ rfl hl.1 rfl (Nat.le_of_ble_eq_true rfl) d_V_map_13 (fun H locs hP hS => ?_)
    refine lv_if_eq (tgt := 35) S.1 S.2.1 d_V_map_16 (by decide) (fun c16 => ?_) (fun c16 => ?_)
    · refine lv_iconst (v := (-1)) S.1 S.2.1 d_V_map_35 (by decide) ?_
      rw [show j_V_map n V a1 a2 a3 = ((-1), V) from by rw [j_V_map, oc_some hk1, if_pos c16]]
      exact x_iret S hr hlk hP hS d_V_map_36
    · refine lv_iload_n S.1 S.2.1 d_V_map_19 rfl (lv_at hl 4 rfl) ?_
      refine x_callSi (As := [.int a3]) (rest := []) S hK ci_V_68 (c_V_areFlags l D ad n cI cS cQ hE V a3) hP hS ⟨rfl, rfl, Nat.le_of_ble_eq_true rfl, Nat.le_of_ble_eq_true rfl⟩ rfl hl.1 rfl (Nat.le_of_ble_eq_true rfl) d_V_map_20 (fun H locs hP hS => ?_)
      refine lv_if_eq (tgt := 35) S.1 S.2.1 d_V_map_23 (by decide) (fun c23 => ?_) (fun c23 => ?_)
      · refine lv_iconst (v := (-1)) S.1 S.2.1 d_V_map_35 (by decide) ?_
        rw [show j_V_map n V a1 a2 a3 = ((-1), V) from by rw [j_V_map, oc_some hk1, if_neg c16, if_pos c23]]
        exact x_iret S hr hlk hP hS d_V_map_36
      · refine lv_aload S.1 S.2.1 d_V_map_26 (lv_at hl 0 rfl) ?_
        refine lv_iload_n S.1 S.2.1 d_V_map_28 rfl (lv_at hl 3 rfl) ?_
        refine x_callVi (As := [.int a2]) (rest := []) S hK ci_V_71 (c_S_entryAt l D ad n cI cS cQ hE V k1 (find_lt hk1) a2) (x_recS hK hP (find_lt hk1)) hP hS ⟨rfl, rfl, Nat.le_of_ble_eq_true rfl, Nat.le_of_ble_eq_true rfl⟩ rfl hl.1 rfl (Nat.le_of_ble_eq_true rfl) d_V_map_29 (fun H locs hP hS => ?_)
        refine lv_if_eq (tgt := 37) S.1 S.2.1 d_V_map_32 (by decide) (fun c32 => ?_) (fun c32 => ?_)
        · refine lv_aload S.1 S.2.1 d_V_map_37 (lv_at hl 0 rfl) ?_
          refine lv_iload_n S.1 S.2.1 d_V_map_39 rfl (lv_at hl 3 rfl) ?_
          refine lv_iload_n S.1 S.2.1 d_V_map_40 rfl (lv_at hl 4 rfl) ?_
          refine x_callVi (As := [.int a2, .int a3]) (rest := []) S hK ci_V_75 (c_S_addPage l D ad n cI cS cQ hE V k1 (find_lt hk1) a2 a3) (x_recS hK hP (find_lt hk1)) hP hS ⟨rfl, rfl, Nat.le_of_ble_eq_true rfl, Nat.le_of_ble_eq_true rfl⟩ rfl hl.1 rfl (Nat.le_of_ble_eq_true rfl) d_V_map_41 (fun H locs hP hS => ?_)
          refine lv_iconst (v := (-1)) S.1 S.2.1 d_V_map_44 (by decide) ?_
          refine lv_icmp_ne (tgt := 51) S.1 S.2.1 d_V_map_45 (by decide) (fun c45 => ?_) (fun c45 => ?_)
          · refine lv_aload S.1 S.2.1 d_V_map_51 (lv_at hl 0 rfl) ?_
            refine lv_iload_n S.1 S.2.1 d_V_map_53 rfl (lv_at hl 3 rfl) ?_
            refine lv_sipush (v := 4096) S.1 S.2.1 d_V_map_54 (by decide) ?_
            refine lv_iadd S.1 S.2.1 d_V_map_57 ?_
            refine x_callVv (As := [.int (a2 + 4096)]) (rest := []) S hK ci_V_78 (c_S_reach l D ad n cI cS cQ hE ((j_S_addPage n V k1 a2 a3).2) k1 (find_lt hk1) (a2 + 4096)) (x_recS hK hP (find_lt hk1)) hP hS ⟨rfl, rfl, Nat.le_of_ble_eq_true rfl, Nat.le_of_ble_eq_true rfl⟩ rfl hl.1 rfl (Nat.le_of_ble_eq_true rfl) d_V_map_58 (fun H locs hP hS => ?_)
            refine lv_iconst (v := 0) S.1 S.2.1 d_V_map_61 (by decide) ?_
            rw [show j_V_map n V a1 a2 a3 = (0, j_S_reach ((j_S_addPage n V k1 a2 a3).2) k1 (a2 + 4096)) from by rw [j_V_map, oc_some hk1, if_neg c16, if_neg c23, if_pos c32, if_neg c45]]
            exact x_iret S hr hlk hP hS d_V_map_62
          · refine lv_bipush (v := (-2)) S.1 S.2.1 d_V_map_48 (by decide) ?_
            rw [show j_V_map n V a1 a2 a3 = ((-2), (j_S_addPage n V k1 a2 a3).2) from by rw [j_V_map, oc_some hk1, if_neg c16, if_neg c23, if_pos c32, if_pos c45]]
            exact x_iret S hr hlk hP hS d_V_map_50
        · refine lv_iconst (v := (-1)) S.1 S.2.1 d_V_map_35 (by decide) ?_
          rw [show j_V_map n V a1 a2 a3 = ((-1), V) from by rw [j_V_map, oc_some hk1, if_neg c16, if_neg c23, if_neg c32]]
          exact x_iret S hr hlk hP hS d_V_map_36
/-- PageVault$Space.setEntry(II)V -/
def j_S_setEntry (n : Nat) (V : VS) (k : Nat) (a1 : Int32) (a2 : Int32) : VS :=
  j_F_setWord n V (j_S_tableOf n V k (ju a1 22)) (j_S_slotOf a1) a2
set_option maxHeartbeats 4000000 in
set_option maxRecDepth 100000 in
theorem c_S_setEntry (hE : xE ad n) (V : VS) (k : Nat) (hk : k < 16) (a1 : Int32) (a2 : Int32) : XC l D ad n cI cS cQ y_S_setEntry b_S_setEntry 3 none ({ frames := 2, cells := 0, slots := 0, locals := 43 }) [.ref (ad (6 + k)), .int a1, .int a2] V none (j_S_setEntry n V k a1 a2) := by
  refine FC_intro (by decide) (Nat.le_of_ble_eq_true rfl) ?_
  intro p e s m below meth c ls S hr hlk hK hP hS hl
  have S : CallFix p m c b_S_setEntry 3 s _ TG "PageVault$Space" := S
  have hl : lv_has ls 3 [(0, .ref (ad (6 + k))), (1, .int a1), (2, .int a2)] := hl
  refine lv_aload_n S.1 S.2.1 d_S_setEntry_0 rfl (lv_at hl 0 rfl) ?_
  refine x_get_sframes S hK hP hk tg_47 d_S_setEntry_1 ?_
  refine lv_aload_n S.1 S.2.1 d_S_setEntry_4 rfl (lv_at hl 0 rfl) ?_
  refine lv_iload_n S.1 S.2.1 d_S_setEntry_5 rfl (lv_at hl 1 rfl) ?_
  refine lv_bipush (v := 22) S.1 S.2.1 d_S_setEntry_6 (by decide) ?_
  refine lv_iushr (v := ju a1 22) S.1 S.2.1 d_S_setEntry_8 rfl ?_
  refine x_callVi (As := [.int (ju a1 22)]) (rest := [.ref (ad 1)]) S hK ci_S_32 (c_S_tableOf l D ad n cI cS cQ hE V k hk (ju a1 22)) (x_recS hK hP hk) hP hS ⟨rfl, rfl, Nat.le_of_ble_eq_true rfl, Nat.le_of_ble_eq_true rfl⟩ rfl hl.1 rfl (Nat.le_of_ble_eq_true rfl) d_S_setEntry_9 (fun H locs hP hS => ?_)
  refine lv_iload_n S.1 S.2.1 d_S_setEntry_12 rfl (lv_at hl 1 rfl) ?_
  refine x_callSi (As := [.int a1]) (rest := [.int (j_S_tableOf n V k (ju a1 22)), .ref (ad 1)]) S hK ci_S_56 (c_S_slotOf l D ad n cI cS cQ hE V a1) hP hS ⟨rfl, rfl, Nat.le_of_ble_eq_true rfl, Nat.le_of_ble_eq_true rfl⟩ rfl hl.1 rfl (Nat.le_of_ble_eq_true rfl) d_S_setEntry_13 (fun H locs hP hS => ?_)
  refine lv_iload_n S.1 S.2.1 d_S_setEntry_16 rfl (lv_at hl 2 rfl) ?_
  refine x_callVv (As := [.int (j_S_tableOf n V k (ju a1 22)), .int (j_S_slotOf a1), .int a2]) (rest := []) S hK ci_S_62 (c_F_setWord l D ad n cI cS cQ hE V (j_S_tableOf n V k (ju a1 22)) (j_S_slotOf a1) a2) (x_recF hK hP) hP hS ⟨rfl, rfl, Nat.le_of_ble_eq_true rfl, Nat.le_of_ble_eq_true rfl⟩ rfl hl.1 rfl (Nat.le_of_ble_eq_true rfl) d_S_setEntry_17 (fun H locs hP hS => ?_)
  rw [show j_S_setEntry n V k a1 a2 = j_F_setWord n V (j_S_tableOf n V k (ju a1 22)) (j_S_slotOf a1) a2 from by rw [j_S_setEntry]]
  exact x_vret S hr hlk hP hS d_S_setEntry_20
/-- PageVault.protect(III)Z -/
def j_V_protect (n : Nat) (V : VS) (a1 : Int32) (a2 : Int32) (a3 : Int32) : Int32 × VS :=
  oc (j_V_find V a1) (
    (0, V)) (fun k1 =>
    if (j_V_beginsPage a2) = 0 then
      (0, V)
    else
      if (j_V_areFlags a3) = 0 then
        (0, V)
      else
        if (j_S_entryAt n V k1 a2) = 0 then
          (0, V)
        else
          (1, j_S_setEntry n V k1 a2 (j_V_entryOf (j_V_frameOf (j_S_entryAt n V k1 a2)) a3)))
end XW
