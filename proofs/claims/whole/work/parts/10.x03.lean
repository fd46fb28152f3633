section XW
variable (l : Launch) (D : va_G) (ad : Nat → Nat) (n : Nat) (cI cS cQ : ClassId)
set_option maxHeartbeats 4000000 in
set_option maxRecDepth 100000 in
theorem c_V_protect (hE : xE ad n) (V : VS) (a1 : Int32) (a2 : Int32) (a3 : Int32) : XC l D ad n cI cS cQ y_V_protect b_V_protect 6 (some .boolean) ({ frames := 3, cells := 0, slots := 0, locals := 65 }) [.ref (ad 0), .int a1, .int a2, .int a3] V (some (.int (j_V_protect n V a1 a2 a3).1)) ((j_V_protect n V a1 a2 a3).2) := by
  refine FC_intro (by decide) (Nat.le_of_ble_eq_true rfl) ?_
  intro p e s m below meth c ls S hr hlk hK hP hS hl
  have S : CallFix p m c b_V_protect 6 s _ TG "PageVault" := S
  have hl : lv_has ls 6 [(0, .ref (ad 0)), (1, .int a1), (2, .int a2), (3, .int a3)] := hl
  refine lv_aload_n S.1 S.2.1 d_V_protect_0 rfl (lv_at hl 0 rfl) ?_
  refine lv_iload_n S.1 S.2.1 d_V_protect_1 rfl (lv_at hl 1 rfl) ?_
  refine x_callVq (As := [.int a1]) (rest := []) S hK ci_V_50 (c_V_find l D ad n cI cS cQ hE V a1) (x_recV hK hP) hP hS ⟨rfl, rfl, Nat.le_of_ble_eq_true rfl, Nat.le_of_ble_eq_true rfl⟩ rfl hl.1 rfl (Nat.le_of_ble_eq_true rfl) d_V_protect_2 (fun hk1 H locs hP hS => ?_) (fun k1 hk1 H locs hP hS => ?_)
  · refine lv_astoreN (lv' := [(4, .null), (0, .ref (ad 0)), (1, .int a1), (2, .int a2), (3, .int a3)]) S.1 S.2.1 d_V_protect_5 hl (by decide) rfl (fun ls hl => ?_)
    refine lv_aloadN S.1 S.2.1 d_V_protect_7 (lv_at hl 0 rfl) ?_
    refine lv_ifnullN (tgt := 26) S.1 S.2.1 d_V_protect_9 (by decide) ?_
    refine lv_iconst (v := 0) S.1 S.2.1 d_V_protect_26 (by decide) ?_
    rw [show j_V_protect n V a1 a2 a3 = (0, V) from by rw [j_V_protect, oc_none hk1]]
    exact x_zret (v := 0) S hr hlk rfl hP hS d_V_protect_27
  · refine lv_astore (lv' := [(4, .ref (ad (6 + k1))), (0, .ref (ad 0)), (1, .int a1), (2, .int a2), (3, .int a3)]) S.1 S.2.1 d_V_protect_5 hl (by decide) rfl (fun ls hl => ?_)
    refine lv_aload S.1 S.2.1 d_V_protect_7 (lv_at hl 0 rfl) ?_
    refine lv_ifnull S.1 S.2.1 d_V_protect_9 ?_
    refine lv_iload_n S.1 S.2.1 d_V_protect_12 rfl (lv_at hl 3 rfl) ?_
    refine x_callSi (As := [.int a2]) (rest := []) S hK ci_V_64 (c_V_beginsPage l D ad n cI cS cQ hE V a2) hP hS ⟨rfl, rfl, Nat.le_of_ble_eq_true rfl, Nat.le_of_ble_eq_true rfl⟩ rfl hl.1 rfl (Nat.le_of_ble_eq_true rfl) d_V_protect_13 (fun H locs hP hS => ?_)
    refine lv_if_eq (tgt := 26) S.1 S.2.1 d_V_protect_16 (by decide) (fun c16 => ?_) (fun c16 => ?_)
    · refine lv_iconst (v := 0) S.1 S.2.1 d_V_protect_26 (by decide) ?_
      rw [show j_V_protect n V a1 a2 a3 = (0, V) from by rw [j_V_protect, oc_some hk1, if_pos c16]]
      exact x_zret (v := 0) S hr hlk rfl hP hS d_V_protect_27
    · refine lv_iload_n S.1 S.2.1 d_V_protect_19 rfl (lv_at hl 4 rfl) ?_
      refine x_callSi (As := [.int a3]) (rest := []) S hK ci_V_68 (c_V_areFlags l D ad n cI cS cQ hE V a3) hP hS ⟨rfl, rfl, Nat.le_of_ble_eq_true rfl, Nat.le_of_ble_eq_true rfl⟩ rfl hl.1 rfl (Nat.le_of_ble_eq_true rfl) d_V_protect_20 (fun H locs hP hS => ?_)
      refine lv_if_ne (tgt := 28) S.1 S.2.1 d_V_protect_23 (by decide) (fun c23 => ?_) (fun c23 => ?_)
      · refine lv_aload S.1 S.2.1 d_V_protect_28 (lv_at hl 0 rfl) ?_
        refine lv_iload_n S.1 S.2.1 d_V_protect_30 rfl (lv_at hl 3 rfl) ?_
        refine x_callVi (As := [.int a2]) (rest := []) S hK ci_V_71 (c_S_entryAt l D ad n cI cS cQ hE V k1 (find_lt hk1) a2) (x_recS hK hP (find_lt hk1)) hP hS ⟨rfl, rfl, Nat.le_of_ble_eq_true rfl, Nat.le_of_ble_eq_true rfl⟩ rfl hl.1 rfl (Nat.le_of_ble_eq_true rfl) d_V_protect_31 (fun H locs hP hS => ?_)
        refine lv_istore (lv' := [(5, .int (j_S_entryAt n V k1 a2)), (4, .ref (ad (6 + k1))), (0, .ref (ad 0)), (1, .int a1), (2, .int a2), (3, .int a3)]) S.1 S.2.1 d_V_protect_34 hl (by decide) rfl (fun ls hl => ?_)
        refine lv_iload S.1 S.2.1 d_V_protect_36 (lv_at hl 0 rfl) ?_
        refine lv_if_ne (tgt := 43) S.1 S.2.1 d_V_protect_38 (by decide) (fun c38 => ?_) (fun c38 => ?_)
        · refine lv_aload S.1 S.2.1 d_V_protect_43 (lv_at hl 1 rfl) ?_
          refine lv_iload_n S.1 S.2.1 d_V_protect_45 rfl (lv_at hl 4 rfl) ?_
          refine lv_iload S.1 S.2.1 d_V_protect_46 (lv_at hl 0 rfl) ?_
          refine x_callSi (As := [.int (j_S_entryAt n V k1 a2)]) (rest := [.int a2, .ref (ad (6 + k1))]) S hK ci_V_81 (c_V_frameOf l D ad n cI cS cQ hE V (j_S_entryAt n V k1 a2)) hP hS ⟨rfl, rfl, Nat.le_of_ble_eq_true rfl, Nat.le_of_ble_eq_true rfl⟩ rfl hl.1 rfl (Nat.le_of_ble_eq_true rfl) d_V_protect_48 (fun H locs hP hS => ?_)
          refine lv_iload_n S.1 S.2.1 d_V_protect_51 rfl (lv_at hl 5 rfl) ?_
          refine x_callSi (As := [.int (j_V_frameOf (j_S_entryAt n V k1 a2)), .int a3]) (rest := [.int a2, .ref (ad (6 + k1))]) S hK ci_V_84 (c_V_entryOf l D ad n cI cS cQ hE V (j_V_frameOf (j_S_entryAt n V k1 a2)) a3) hP hS ⟨rfl, rfl, Nat.le_of_ble_eq_true rfl, Nat.le_of_ble_eq_true rfl⟩ rfl hl.1 rfl (Nat.le_of_ble_eq_true rfl) d_V_protect_52 (fun H locs hP hS => ?_)
          refine x_callVv (As := [.int a2, .int (j_V_entryOf (j_V_frameOf (j_S_entryAt n V k1 a2)) a3)]) (rest := []) S hK ci_V_87 (c_S_setEntry l D ad n cI cS cQ hE V k1 (find_lt hk1) a2 (j_V_entryOf (j_V_frameOf (j_S_entryAt n V k1 a2)) a3)) (x_recS hK hP (find_lt hk1)) hP hS ⟨rfl, rfl, Nat.le_of_ble_eq_true rfl, Nat.le_of_ble_eq_true rfl⟩ rfl hl.1 rfl (Nat.le_of_ble_eq_true rfl) d_V_protect_55 (fun H locs hP hS => ?_)
          refine lv_iconst (v := 1) S.1 S.2.1 d_V_protect_58 (by decide) ?_
          rw [show j_V_protect n V a1 a2 a3 = (1, j_S_setEntry n V k1 a2 (j_V_entryOf (j_V_frameOf (j_S_entryAt n V k1 a2)) a3)) from by rw [j_V_protect, oc_some hk1, if_neg c16, if_neg c23, if_neg c38]]
          exact x_zret (v := 1) S hr hlk rfl hP hS d_V_protect_59
        · refine lv_iconst (v := 0) S.1 S.2.1 d_V_protect_41 (by decide) ?_
          rw [show j_V_protect n V a1 a2 a3 = (0, V) from by rw [j_V_protect, oc_some hk1, if_neg c16, if_neg c23, if_pos c38]]
          exact x_zret (v := 0) S hr hlk rfl hP hS d_V_protect_42
      · refine lv_iconst (v := 0) S.1 S.2.1 d_V_protect_26 (by decide) ?_
        rw [show j_V_protect n V a1 a2 a3 = (0, V) from by rw [j_V_protect, oc_some hk1, if_neg c16, if_pos c23]]
        exact x_zret (v := 0) S hr hlk rfl hP hS d_V_protect_27
/-- PageVault$Space.length()I -/
def j_S_length (V : VS) (k : Nat) : Int32 :=
  v_len V k
set_option maxHeartbeats 4000000 in
set_option maxRecDepth 100000 in
theorem c_S_length (hE : xE ad n) (V : VS) (k : Nat) (hk : k < 16) : XC l D ad n cI cS cQ y_S_length b_S_length 1 (some .int) ({ frames := 0, cells := 0, slots := 0, locals := 0 }) [.ref (ad (6 + k))] V (some (.int (j_S_length V k))) (V) := by
  refine FC_intro (by decide) (Nat.le_of_ble_eq_true rfl) ?_
  intro p e s m below meth c ls S hr hlk hK hP hS hl
  have S : CallFix p m c b_S_length 1 s _ TG "PageVault$Space" := S
  have hl : lv_has ls 1 [(0, .ref (ad (6 + k)))] := hl
  refine lv_aload_n S.1 S.2.1 d_S_length_0 rfl (lv_at hl 0 rfl) ?_
  refine x_get_length S hK hP hk tg_173 d_S_length_1 ?_
  rw [show j_S_length V k = v_len V k from by rw [j_S_length]]
  exact x_iret S hr hlk hP hS d_S_length_4
/-- PageVault$Space.resize(I)V -/
def j_S_resize (n : Nat) (V : VS) (k : Nat) (a1 : Int32) : VS :=
  if (v_len V k) ≤ a1 then
    s_len V k a1
  else
    s_len (j_S_removePagesFrom n V k (ju ((a1 + 4096) - 1) 12)) k a1
set_option maxHeartbeats 4000000 in
set_option maxRecDepth 100000 in
theorem c_S_resize (hE : xE ad n) (V : VS) (k : Nat) (hk : k < 16) (a1 : Int32) : XC l D ad n cI cS cQ y_S_resize b_S_resize 2 none ({ frames := 3, cells := 0, slots := 0, locals := 69 }) [.ref (ad (6 + k)), .int a1] V none (j_S_resize n V k a1) := by
  refine FC_intro (by decide) (Nat.le_of_ble_eq_true rfl) ?_
  intro p e s m below meth c ls S hr hlk hK hP hS hl
  have S : CallFix p m c b_S_resize 2 s _ TG "PageVault$Space" := S
  have hl : lv_has ls 2 [(0, .ref (ad (6 + k))), (1, .int a1)] := hl
  refine lv_iload_n S.1 S.2.1 d_S_resize_0 rfl (lv_at hl 1 rfl) ?_
  refine lv_aload_n S.1 S.2.1 d_S_resize_1 rfl (lv_at hl 0 rfl) ?_
  refine x_get_length S hK hP hk tg_173 d_S_resize_2 ?_
  refine lv_icmp_ge (tgt := 22) S.1 S.2.1 d_S_resize_5 (by decide) (fun c5 => ?_) (fun c5 => ?_)
  · refine lv_aload_n S.1 S.2.1 d_S_resize_22 rfl (lv_at hl 0 rfl) ?_
    refine lv_iload_n S.1 S.2.1 d_S_resize_23 rfl (lv_at hl 1 rfl) ?_
    refine x_put_length S hE hK hP hS hk tg_173 d_S_resize_24 (fun H locs hP hS => ?_)
    rw [show j_S_resize n V k a1 = s_len V k a1 from by rw [j_S_resize, if_pos c5]]
    exact x_vret S hr hlk hP hS d_S_resize_27
  · refine lv_aload_n S.1 S.2.1 d_S_resize_8 rfl (lv_at hl 0 rfl) ?_
    refine lv_iload_n S.1 S.2.1 d_S_resize_9 rfl (lv_at hl 1 rfl) ?_
    refine lv_sipush (v := 4096) S.1 S.2.1 d_S_resize_10 (by decide) ?_
    refine lv_iadd S.1 S.2.1 d_S_resize_13 ?_
    refine lv_iconst (v := 1) S.1 S.2.1 d_S_resize_14 (by decide) ?_
    refine lv_isub S.1 S.2.1 d_S_resize_15 ?_
    refine lv_bipush (v := 12) S.1 S.2.1 d_S_resize_16 (by decide) ?_
    refine lv_iushr (v := ju ((a1 + 4096) - 1) 12) S.1 S.2.1 d_S_resize_18 rfl ?_
    refine x_callVv (As := [.int (ju ((a1 + 4096) - 1) 12)]) (rest := []) S hK ci_S_28 (c_S_removePagesFrom l D ad n cI cS cQ hE V k hk (ju ((a1 + 4096) - 1) 12) _ (ju12_lt (a1 + 4096 - 1)) (ju12 (a1 + 4096 - 1))) (x_recS hK hP hk) hP hS ⟨rfl, rfl, Nat.le_of_ble_eq_true rfl, Nat.le_of_ble_eq_true rfl⟩ rfl hl.1 rfl (Nat.le_of_ble_eq_true rfl) d_S_resize_19 (fun H locs hP hS => ?_)
    refine lv_aload_n S.1 S.2.1 d_S_resize_22 rfl (lv_at hl 0 rfl) ?_
    refine lv_iload_n S.1 S.2.1 d_S_resize_23 rfl (lv_at hl 1 rfl) ?_
    refine x_put_length S hE hK hP hS hk tg_173 d_S_resize_24 (fun H locs hP hS => ?_)
    rw [show j_S_resize n V k a1 = s_len (j_S_removePagesFrom n V k (ju ((a1 + 4096) - 1) 12)) k a1 from by rw [j_S_resize, if_neg c5]]
    exact x_vret S hr hlk hP hS d_S_resize_27
/-- PageVault.grow(II)I -/
def j_V_grow (n : Nat) (V : VS) (a1 : Int32) (a2 : Int32) : Int32 × VS :=
  oc (j_V_find V a1) (
    ((-1), V)) (fun k1 =>
    if (lg_cmp (((j_S_length V k1).toInt64) + a2.toInt64) 0) < 0 then
      ((-1), V)
    else
      if (lg_cmp (((j_S_length V k1).toInt64) + a2.toInt64) 1073741824) ≤ 0 then
        (j_S_length V k1, j_S_resize n V k1 ((((j_S_length V k1).toInt64) + a2.toInt64).toInt32))
      else
        ((-1), V))
set_option maxHeartbeats 4000000 in
set_option maxRecDepth 100000 in
theorem c_V_grow (hE : xE ad n) (V : VS) (a1 : Int32) (a2 : Int32) : XC l D ad n cI cS cQ y_V_grow b_V_grow 7 (some .int) ({ frames := 4, cells := 0, slots := 0, locals := 90 }) [.ref (ad 0), .int a1, .int a2] V (some (.int (j_V_grow n V a1 a2).1)) ((j_V_grow n V a1 a2).2) := by
  refine FC_intro (by decide) (Nat.le_of_ble_eq_true rfl) ?_
  intro p e s m below meth c ls S hr hlk hK hP hS hl
  have S : CallFix p m c b_V_grow 7 s _ TG "PageVault" := S
  have hl : lv_has ls 7 [(0, .ref (ad 0)), (1, .int a1), (2, .int a2)] := hl
  refine lv_aload_n S.1 S.2.1 d_V_grow_0 rfl (lv_at hl 0 rfl) ?_
  refine lv_iload_n S.1 S.2.1 d_V_grow_1 rfl (lv_at hl 1 rfl) ?_
  refine x_callVq (As := [.int a1]) (rest := []) S hK ci_V_50 (c_V_find l D ad n cI cS cQ hE V a1) (x_recV hK hP) hP hS ⟨rfl, rfl, Nat.le_of_ble_eq_true rfl, Nat.le_of_ble_eq_true rfl⟩ rfl hl.1 rfl (Nat.le_of_ble_eq_true rfl) d_V_grow_2 (fun hk1 H locs hP hS => ?_) (fun k1 hk1 H locs hP hS => ?_)
  · refine lv_astore_nN (lv' := [(3, .null), (0, .ref (ad 0)), (1, .int a1), (2, .int a2)]) S.1 S.2.1 d_V_grow_5 rfl hl (by decide) rfl (fun ls hl => ?_)
    refine lv_aload_nN S.1 S.2.1 d_V_grow_6 rfl (lv_at hl 0 rfl) ?_
    refine lv_ifnonnullN S.1 S.2.1 d_V_grow_7 ?_
    refine lv_iconst (v := (-1)) S.1 S.2.1 d_V_grow_10 (by decide) ?_
    rw [show j_V_grow n V a1 a2 = ((-1), V) from by rw [j_V_grow, oc_none hk1]]
    exact x_iret S hr hlk hP hS d_V_grow_11
  · refine lv_astore_n (lv' := [(3, .ref (ad (6 + k1))), (0, .ref (ad 0)), (1, .int a1), (2, .int a2)]) S.1 S.2.1 d_V_grow_5 rfl hl (by decide) rfl (fun ls hl => ?_)
    refine lv_aload_n S.1 S.2.1 d_V_grow_6 rfl (lv_at hl 0 rfl) ?_
    refine lv_ifnonnull (tgt := 12) S.1 S.2.1 d_V_grow_7 (by decide) ?_
    refine lv_aload_n S.1 S.2.1 d_V_grow_12 rfl (lv_at hl 0 rfl) ?_
    refine x_callVi (As := []) (rest := []) S hK ci_V_91 (c_S_length l D ad n cI cS cQ hE V k1 (find_lt hk1)) (x_recS hK hP (find_lt hk1)) hP hS ⟨rfl, rfl, Nat.le_of_ble_eq_true rfl, Nat.le_of_ble_eq_true rfl⟩ rfl hl.1 rfl (Nat.le_of_ble_eq_true rfl) d_V_grow_13 (fun H locs hP hS => ?_)
    refine lv_istore (lv' := [(4, .int (j_S_length V k1)), (3, .ref (ad (6 + k1))), (0, .ref (ad 0)), (1, .int a1), (2, .int a2)]) S.1 S.2.1 d_V_grow_16 hl (by decide) rfl (fun ls hl => ?_)
    refine lv_iload S.1 S.2.1 d_V_grow_18 (lv_at hl 0 rfl) ?_
    refine lv_i2l (v := (j_S_length V k1).toInt64) S.1 S.2.1 d_V_grow_20 rfl ?_
    refine lv_iload_n S.1 S.2.1 d_V_grow_21 rfl (lv_at hl 4 rfl) ?_
    refine lv_i2l (v := a2.toInt64) S.1 S.2.1 d_V_grow_22 rfl ?_
    refine lv_ladd S.1 S.2.1 d_V_grow_23 ?_
    refine lv_lstore (lv' := [(5, .long (((j_S_length V k1).toInt64) + a2.toInt64)), (4, .int (j_S_length V k1)), (3, .ref (ad (6 + k1))), (0, .ref (ad 0)), (1, .int a1), (2, .int a2)]) S.1 S.2.1 d_V_grow_24 hl (by decide) rfl (fun ls hl => ?_)
    refine lv_lload S.1 S.2.1 d_V_grow_26 (lv_at hl 0 rfl) ?_
    refine lv_lconst (v := 0) S.1 S.2.1 d_V_grow_28 rfl ?_
    refine W.lcmp S.1 S.2.1 d_V_grow_29 ?_
    refine lv_if_lt (tgt := 42) S.1 S.2.1 d_V_grow_30 (by decide) (fun c30 => ?_) (fun c30 => ?_)
    · refine lv_iconst (v := (-1)) S.1 S.2.1 d_V_grow_42 (by decide) ?_
      rw [show j_V_grow n V a1 a2 = ((-1), V) from by rw [j_V_grow, oc_some hk1, if_pos c30]]
      exact x_iret S hr hlk hP hS d_V_grow_43
    · refine lv_lload S.1 S.2.1 d_V_grow_33 (lv_at hl 0 rfl) ?_
      refine lv_ldc2 (v := 1073741824) S.1 S.2.1 S.2.2.2.1 (S.2.2.2.2 _ tg_284) d_V_grow_35 ?_
      refine W.lcmp S.1 S.2.1 d_V_grow_38 ?_
      refine lv_if_le (tgt := 44) S.1 S.2.1 d_V_grow_39 (by decide) (fun c39 => ?_) (fun c39 => ?_)
      · refine lv_aload_n S.1 S.2.1 d_V_grow_44 rfl (lv_at hl 2 rfl) ?_
        refine lv_lload S.1 S.2.1 d_V_grow_45 (lv_at hl 0 rfl) ?_
        refine lv_l2i (v := (((j_S_length V k1).toInt64) + a2.toInt64).toInt32) S.1 S.2.1 d_V_grow_47 rfl ?_
        refine x_callVv (As := [.int ((((j_S_length V k1).toInt64) + a2.toInt64).toInt32)]) (rest := []) S hK ci_V_96 (c_S_resize l D ad n cI cS cQ hE V k1 (find_lt hk1) ((((j_S_length V k1).toInt64) + a2.toInt64).toInt32)) (x_recS hK hP (find_lt hk1)) hP hS ⟨rfl, rfl, Nat.le_of_ble_eq_true rfl, Nat.le_of_ble_eq_true rfl⟩ rfl hl.1 rfl (Nat.le_of_ble_eq_true rfl) d_V_grow_48 (fun H locs hP hS => ?_)
        refine lv_iload S.1 S.2.1 d_V_grow_51 (lv_at hl 1 rfl) ?_
        rw [show j_V_grow n V a1 a2 = (j_S_length V k1, j_S_resize n V k1 ((((j_S_length V k1).toInt64) + a2.toInt64).toInt32)) from by rw [j_V_grow, oc_some hk1, if_neg c30, if_pos c39]]
        exact x_iret S hr hlk hP hS d_V_grow_53
      · refine lv_iconst (v := (-1)) S.1 S.2.1 d_V_grow_42 (by decide) ?_
        rw [show j_V_grow n V a1 a2 = ((-1), V) from by rw [j_V_grow, oc_some hk1, if_neg c30, if_neg c39]]
        exact x_iret S hr hlk hP hS d_V_grow_43
/-- PageVault.size(I)I -/
def j_V_size (V : VS) (a1 : Int32) : Int32 :=
  oc (j_V_find V a1) (
    (-1)) (fun k1 =>
    j_S_length V k1)
set_option maxHeartbeats 4000000 in
set_option maxRecDepth 100000 in
theorem c_V_size (hE : xE ad n) (V : VS) (a1 : Int32) : XC l D ad n cI cS cQ y_V_size b_V_size 3 (some .int) ({ frames := 2, cells := 0, slots := 0, locals := 41 }) [.ref (ad 0), .int a1] V (some (.int (j_V_size V a1))) (V) := by
  refine FC_intro (by decide) (Nat.le_of_ble_eq_true rfl) ?_
  intro p e s m below meth c ls S hr hlk hK hP hS hl
  have S : CallFix p m c b_V_size 3 s _ TG "PageVault" := S
  have hl : lv_has ls 3 [(0, .ref (ad 0)), (1, .int a1)] := hl
  refine lv_aload_n S.1 S.2.1 d_V_size_0 rfl (lv_at hl 0 rfl) ?_
  refine lv_iload_n S.1 S.2.1 d_V_size_1 rfl (lv_at hl 1 rfl) ?_
  refine x_callVq (As := [.int a1]) (rest := []) S hK ci_V_50 (c_V_find l D ad n cI cS cQ hE V a1) (x_recV hK hP) hP hS ⟨rfl, rfl, Nat.le_of_ble_eq_true rfl, Nat.le_of_ble_eq_true rfl⟩ rfl hl.1 rfl (Nat.le_of_ble_eq_true rfl) d_V_size_2 (fun hk1 H locs hP hS => ?_) (fun k1 hk1 H locs hP hS => ?_)
  · refine lv_astore_nN (lv' := [(2, .null), (0, .ref (ad 0)), (1, .int a1)]) S.1 S.2.1 d_V_size_5 rfl hl (by decide) rfl (fun ls hl => ?_)
    refine lv_aload_nN S.1 S.2.1 d_V_size_6 rfl (lv_at hl 0 rfl) ?_
    refine lv_ifnonnullN S.1 S.2.1 d_V_size_7 ?_
    refine lv_iconst (v := (-1)) S.1 S.2.1 d_V_size_10 (by decide) ?_
    refine lv_goto (tgt := 18) S.1 S.2.1 d_V_size_11 (by decide) ?_
    rw [show j_V_size V a1 = (-1) from by rw [j_V_size, oc_none hk1]]
    exact x_iret S hr hlk hP hS d_V_size_18
  · refine lv_astore_n (lv' := [(2, .ref (ad (6 + k1))), (0, .ref (ad 0)), (1, .int a1)]) S.1 S.2.1 d_V_size_5 rfl hl (by decide) rfl (fun ls hl => ?_)
    refine lv_aload_n S.1 S.2.1 d_V_size_6 rfl (lv_at hl 0 rfl) ?_
    refine lv_ifnonnull (tgt := 14) S.1 S.2.1 d_V_size_7 (by decide) ?_
    refine lv_aload_n S.1 S.2.1 d_V_size_14 rfl (lv_at hl 0 rfl) ?_
    refine x_callVi (As := []) (rest := []) S hK ci_V_91 (c_S_length l D ad n cI cS cQ hE V k1 (find_lt hk1)) (x_recS hK hP (find_lt hk1)) hP hS ⟨rfl, rfl, Nat.le_of_ble_eq_true rfl, Nat.le_of_ble_eq_true rfl⟩ rfl hl.1 rfl (Nat.le_of_ble_eq_true rfl) d_V_size_15 (fun H locs hP hS => ?_)
    rw [show j_V_size V a1 = j_S_length V k1 from by rw [j_V_size, oc_some hk1]]
    exact x_iret S hr hlk hP hS d_V_size_18
/-- PageVault.isStraight(II)Z -/
def j_V_isStraight (a0 : Int32) (a1 : Int32) : Int32 :=
  if a1 = 1 then
    if (a0 - a0 / a1 * a1) = 0 then
      1
    else
      0
  else
    if a1 = 2 then
      if (a0 - a0 / a1 * a1) = 0 then
        1
      else
        0
    else
      if a1 = 4 then
        if (a0 - a0 / a1 * a1) = 0 then
          1
        else
          0
      else
        0
set_option maxHeartbeats 4000000 in
set_option maxRecDepth 100000 in
theorem c_V_isStraight (hE : xE ad n) (V : VS) (a0 : Int32) (a1 : Int32) : XC l D ad n cI cS cQ y_V_isStraight b_V_isStraight 2 (some .boolean) ({ frames := 0, cells := 0, slots := 0, locals := 0 }) [.int a0, .int a1] V (some (.int (j_V_isStraight a0 a1))) (V) := by
  refine FC_intro (by decide) (Nat.le_of_ble_eq_true rfl) ?_
  intro p e s m below meth c ls S hr hlk hK hP hS hl
  have S : CallFix p m c b_V_isStraight 2 s _ TG "PageVault" := S
  have hl : lv_has ls 2 [(0, .int a0), (1, .int a1)] := hl
  refine lv_iload_n S.1 S.2.1 d_V_isStraight_0 rfl (lv_at hl 1 rfl) ?_
  refine lv_iconst (v := 1) S.1 S.2.1 d_V_isStraight_1 (by decide) ?_
  refine lv_icmp_eq (tgt := 15) S.1 S.2.1 d_V_isStraight_2 (by decide) (fun c2 => ?_) (fun c2 => ?_)
  · refine lv_iload_n S.1 S.2.1 d_V_isStraight_15 rfl (lv_at hl 0 rfl) ?_
    refine lv_iload_n S.1 S.2.1 d_V_isStraight_16 rfl (lv_at hl 1 rfl) ?_
    refine lv_irem S.1 S.2.1 d_V_isStraight_17 (by rw [c2]; decide) ?_
    refine lv_if_ne (tgt := 25) S.1 S.2.1 d_V_isStraight_18 (by decide) (fun c18 => ?_) (fun c18 => ?_)
    · refine lv_iconst (v := 0) S.1 S.2.1 d_V_isStraight_25 (by decide) ?_
      rw [show j_V_isStraight a0 a1 = 0 from by rw [j_V_isStraight, if_pos c2, if_neg c18]]
      exact x_zret (v := 0) S hr hlk rfl hP hS d_V_isStraight_26
    · refine lv_iconst (v := 1) S.1 S.2.1 d_V_isStraight_21 (by decide) ?_
      refine lv_goto (tgt := 26) S.1 S.2.1 d_V_isStraight_22 (by decide) ?_
      rw [show j_V_isStraight a0 a1 = 1 from by rw [j_V_isStraight, if_pos c2, if_pos c18]]
      exact x_zret (v := 1) S hr hlk rfl hP hS d_V_isStraight_26
  · refine lv_iload_n S.1 S.2.1 d_V_isStraight_5 rfl (lv_at hl 1 rfl) ?_
    refine lv_iconst (v := 2) S.1 S.2.1 d_V_isStraight_6 (by decide) ?_
    refine lv_icmp_eq (tgt := 15) S.1 S.2.1 d_V_isStraight_7 (by decide) (fun c7 => ?_) (fun c7 => ?_)
    · refine lv_iload_n S.1 S.2.1 d_V_isStraight_15 rfl (lv_at hl 0 rfl) ?_
      refine lv_iload_n S.1 S.2.1 d_V_isStraight_16 rfl (lv_at hl 1 rfl) ?_
      refine lv_irem S.1 S.2.1 d_V_isStraight_17 (by rw [c7]; decide) ?_
      refine lv_if_ne (tgt := 25) S.1 S.2.1 d_V_isStraight_18 (by decide) (fun c18 => ?_) (fun c18 => ?_)
      · refine lv_iconst (v := 0) S.1 S.2.1 d_V_isStraight_25 (by decide) ?_
        rw [show j_V_isStraight a0 a1 = 0 from by rw [j_V_isStraight, if_neg c2, if_pos c7, if_neg c18]]
        exact x_zret (v := 0) S hr hlk rfl hP hS d_V_isStraight_26
      · refine lv_iconst (v := 1) S.1 S.2.1 d_V_isStraight_21 (by decide) ?_
        refine lv_goto (tgt := 26) S.1 S.2.1 d_V_isStraight_22 (by decide) ?_
        rw [show j_V_isStraight a0 a1 = 1 from by rw [j_V_isStraight, if_neg c2, if_pos c7, if_pos c18]]
        exact x_zret (v := 1) S hr hlk rfl hP hS d_V_isStraight_26
    · refine lv_iload_n S.1 S.2.1 d_V_isStraight_10 rfl (lv_at hl 1 rfl) ?_
      refine lv_iconst (v := 4) S.1 S.2.1 d_V_isStraight_11 (by decide) ?_
      refine lv_icmp_ne (tgt := 25) S.1 S.2.1 d_V_isStraight_12 (by decide) (fun c12 => ?_) (fun c12 => ?_)
      · refine lv_iconst (v := 0) S.1 S.2.1 d_V_isStraight_25 (by decide) ?_
        rw [show j_V_isStraight a0 a1 = 0 from by rw [j_V_isStraight, if_neg c2, if_neg c7, if_neg c12]]
        exact x_zret (v := 0) S hr hlk rfl hP hS d_V_isStraight_26
      · refine lv_iload_n S.1 S.2.1 d_V_isStraight_15 rfl (lv_at hl 0 rfl) ?_
        refine lv_iload_n S.1 S.2.1 d_V_isStraight_16 rfl (lv_at hl 1 rfl) ?_
        refine lv_irem S.1 S.2.1 d_V_isStraight_17 (by rw [c12]; decide) ?_
        refine lv_if_ne (tgt := 25) S.1 S.2.1 d_V_isStraight_18 (by decide) (fun c18 => ?_) (fun c18 => ?_)
        · refine lv_iconst (v := 0) S.1 S.2.1 d_V_isStraight_25 (by decide) ?_
          rw [show j_V_isStraight a0 a1 = 0 from by rw [j_V_isStraight, if_neg c2, if_neg c7, if_pos c12, if_neg c18]]
          exact x_zret (v := 0) S hr hlk rfl hP hS d_V_isStraight_26
        · refine lv_iconst (v := 1) S.1 S.2.1 d_V_isStraight_21 (by decide) ?_
          refine lv_goto (tgt := 26) S.1 S.2.1 d_V_isStraight_22 (by decide) ?_
          rw [show j_V_isStraight a0 a1 = 1 from by rw [j_V_isStraight, if_neg c2, if_neg c7, if_pos c12, if_pos c18]]
          exact x_zret (v := 1) S hr hlk rfl hP hS d_V_isStraight_26
/-- PageVault.trapped(I)I -/
def j_V_trapped (V : VS) (a1 : Int32) : Int32 × VS :=
  ((-1), s_trap V a1)
set_option maxHeartbeats 4000000 in
set_option maxRecDepth 100000 in
theorem c_V_trapped (hE : xE ad n) (V : VS) (a1 : Int32) : XC l D ad n cI cS cQ y_V_trapped b_V_trapped 2 (some .int) ({ frames := 0, cells := 0, slots := 0, locals := 0 }) [.ref (ad 0), .int a1] V (some (.int (j_V_trapped V a1).1)) ((j_V_trapped V a1).2) := by
  refine FC_intro (by decide) (Nat.le_of_ble_eq_true rfl) ?_
  intro p e s m below meth c ls S hr hlk hK hP hS hl
  have S : CallFix p m c b_V_trapped 2 s _ TG "PageVault" := S
  have hl : lv_has ls 2 [(0, .ref (ad 0)), (1, .int a1)] := hl
  refine lv_aload_n S.1 S.2.1 d_V_trapped_0 rfl (lv_at hl 0 rfl) ?_
  refine lv_iload_n S.1 S.2.1 d_V_trapped_1 rfl (lv_at hl 1 rfl) ?_
  refine x_put_trap S hE hK hP hS tg_289 d_V_trapped_2 (fun H locs hP hS => ?_)
  refine lv_iconst (v := (-1)) S.1 S.2.1 d_V_trapped_5 (by decide) ?_
  rw [show j_V_trapped V a1 = ((-1), s_trap V a1) from by rw [j_V_trapped]]
  exact x_iret S hr hlk hP hS d_V_trapped_6
/-- PageVault.touch(LPageVault$Space;II)I -/
def j_V_touchN (V : VS) (a2 : Int32) (a3 : Int32) : Int32 × VS :=
  ((j_V_trapped V 1).1, (j_V_trapped V 1).2)
set_option maxHeartbeats 4000000 in
set_option maxRecDepth 100000 in
theorem c_V_touchN (hE : xE ad n) (V : VS) (a2 : Int32) (a3 : Int32) : XC l D ad n cI cS cQ y_V_touch b_V_touch 6 (some .int) ({ frames := 5, cells := 0, slots := 0, locals := 131 }) [.ref (ad 0), .null, .int a2, .int a3] V (some (.int (j_V_touchN V a2 a3).1)) ((j_V_touchN V a2 a3).2) := by
  refine FC_intro (by decide) (Nat.le_of_ble_eq_true rfl) ?_
  intro p e s m below meth c ls S hr hlk hK hP hS hl
  have S : CallFix p m c b_V_touch 6 s _ TG "PageVault" := S
  have hl : lv_has ls 6 [(0, .ref (ad 0)), (1, .null), (2, .int a2), (3, .int a3)] := hl
  refine lv_aload_nN S.1 S.2.1 d_V_touch_0 rfl (lv_at hl 1 rfl) ?_
  refine lv_ifnullN (tgt := 11) S.1 S.2.1 d_V_touch_1 (by decide) ?_
  refine lv_aload_n S.1 S.2.1 d_V_touch_11 rfl (lv_at hl 0 rfl) ?_
  refine lv_iconst (v := 1) S.1 S.2.1 d_V_touch_12 (by decide) ?_
  refine x_callVi (As := [.int 1]) (rest := []) S hK ci_V_111 (c_V_trapped l D ad n cI cS cQ hE V 1) (x_recV hK hP) hP hS ⟨rfl, rfl, Nat.le_of_ble_eq_true rfl, Nat.le_of_ble_eq_true rfl⟩ rfl hl.1 rfl (Nat.le_of_ble_eq_true rfl) d_V_touch_13 (fun H locs hP hS => ?_)
  rw [show j_V_touchN V a2 a3 = ((j_V_trapped V 1).1, (j_V_trapped V 1).2) from by rw [j_V_touchN]]
  exact x_iret S hr hlk hP hS d_V_touch_16
/-- PageVault$Frames.wordOf(I)I -/
def j_F_wordOf (a0 : Int32) : Int32 :=
  ju (a0 &&& 4095) 2
set_option maxHeartbeats 4000000 in
set_option maxRecDepth 100000 in
theorem c_F_wordOf (hE : xE ad n) (V : VS) (a0 : Int32) : XC l D ad n cI cS cQ y_F_wordOf b_F_wordOf 1 (some .int) ({ frames := 0, cells := 0, slots := 0, locals := 0 }) [.int a0] V (some (.int (j_F_wordOf a0))) (V) := by
  refine FC_intro (by decide) (Nat.le_of_ble_eq_true rfl) ?_
  intro p e s m below meth c ls S hr hlk hK hP hS hl
  have S : CallFix p m c b_F_wordOf 1 s _ TG "PageVault$Frames" := S
  have hl : lv_has ls 1 [(0, .int a0)] := hl
  refine lv_iload_n S.1 S.2.1 d_F_wordOf_0 rfl (lv_at hl 0 rfl) ?_
  refine lv_sipush (v := 4095) S.1 S.2.1 d_F_wordOf_1 (by decide) ?_
  refine lv_iand S.1 S.2.1 d_F_wordOf_4 ?_
  refine lv_iconst (v := 2) S.1 S.2.1 d_F_wordOf_5 (by decide) ?_
  refine lv_iushr (v := ju (a0 &&& 4095) 2) S.1 S.2.1 d_F_wordOf_6 rfl ?_
  rw [show j_F_wordOf a0 = ju (a0 &&& 4095) 2 from by rw [j_F_wordOf]]
  exact x_iret S hr hlk hP hS d_F_wordOf_7
/-- PageVault$Frames.bitOf(I)I -/
def j_F_bitOf (a0 : Int32) : Int32 :=
  (a0 &&& 3) * 8
set_option maxHeartbeats 4000000 in
set_option maxRecDepth 100000 in
theorem c_F_bitOf (hE : xE ad n) (V : VS) (a0 : Int32) : XC l D ad n cI cS cQ y_F_bitOf b_F_bitOf 1 (some .int) ({ frames := 0, cells := 0, slots := 0, locals := 0 }) [.int a0] V (some (.int (j_F_bitOf a0))) (V) := by
  refine FC_intro (by decide) (Nat.le_of_ble_eq_true rfl) ?_
  intro p e s m below meth c ls S hr hlk hK hP hS hl
  have S : CallFix p m c b_F_bitOf 1 s _ TG "PageVault$Frames" := S
  have hl : lv_has ls 1 [(0, .int a0)] := hl
  refine lv_iload_n S.1 S.2.1 d_F_bitOf_0 rfl (lv_at hl 0 rfl) ?_
  refine lv_iconst (v := 3) S.1 S.2.1 d_F_bitOf_1 (by decide) ?_
  refine lv_iand S.1 S.2.1 d_F_bitOf_2 ?_
  refine lv_bipush (v := 8) S.1 S.2.1 d_F_bitOf_3 (by decide) ?_
  refine lv_imul S.1 S.2.1 d_F_bitOf_5 ?_
  rw [show j_F_bitOf a0 = (a0 &&& 3) * 8 from by rw [j_F_bitOf]]
  exact x_iret S hr hlk hP hS d_F_bitOf_6
/-- PageVault$Frames.mask(I)I -/
def j_F_mask (a0 : Int32) : Int32 :=
  ju (-1) (32 - (8 * a0))
set_option maxHeartbeats 4000000 in
set_option maxRecDepth 100000 in
theorem c_F_mask (hE : xE ad n) (V : VS) (a0 : Int32) : XC l D ad n cI cS cQ y_F_mask b_F_mask 1 (some .int) ({ frames := 0, cells := 0, slots := 0, locals := 0 }) [.int a0] V (some (.int (j_F_mask a0))) (V) := by
  refine FC_intro (by decide) (Nat.le_of_ble_eq_true rfl) ?_
  intro p e s m below meth c ls S hr hlk hK hP hS hl
  have S : CallFix p m c b_F_mask 1 s _ TG "PageVault$Frames" := S
  have hl : lv_has ls 1 [(0, .int a0)] := hl
  refine lv_iconst (v := (-1)) S.1 S.2.1 d_F_mask_0 (by decide) ?_
  refine lv_bipush (v := 32) S.1 S.2.1 d_F_mask_1 (by decide) ?_
  refine lv_bipush (v := 8) S.1 S.2.1 d_F_mask_3 (by decide) ?_
  refine lv_iload_n S.1 S.2.1 d_F_mask_5 rfl (lv_at hl 0 rfl) ?_
  refine lv_imul S.1 S.2.1 d_F_mask_6 ?_
  refine lv_isub S.1 S.2.1 d_F_mask_7 ?_
  refine lv_iushr (v := ju (-1) (32 - (8 * a0))) S.1 S.2.1 d_F_mask_8 rfl ?_
  rw [show j_F_mask a0 = ju (-1) (32 - (8 * a0)) from by rw [j_F_mask]]
  exact x_iret S hr hlk hP hS d_F_mask_9
/-- PageVault$Frames.read(III)I -/
def j_F_read (n : Nat) (V : VS) (a1 : Int32) (a2 : Int32) (a3 : Int32) : Int32 :=
  (ju (j_F_word n V a1 (j_F_wordOf a2)) (j_F_bitOf a2)) &&& (j_F_mask a3)
set_option maxHeartbeats 4000000 in
set_option maxRecDepth 100000 in
theorem c_F_read (hE : xE ad n) (V : VS) (a1 : Int32) (a2 : Int32) (a3 : Int32) : XC l D ad n cI cS cQ y_F_read b_F_read 4 (some .int) ({ frames := 1, cells := 0, slots := 0, locals := 22 }) [.ref (ad 1), .int a1, .int a2, .int a3] V (some (.int (j_F_read n V a1 a2 a3))) (V) := by
  refine FC_intro (by decide) (Nat.le_of_ble_eq_true rfl) ?_
  intro p e s m below meth c ls S hr hlk hK hP hS hl
  have S : CallFix p m c b_F_read 4 s _ TG "PageVault$Frames" := S
  have hl : lv_has ls 4 [(0, .ref (ad 1)), (1, .int a1), (2, .int a2), (3, .int a3)] := hl
  refine lv_aload_n S.1 S.2.1 d_F_read_0 rfl (lv_at hl 0 rfl) ?_
  refine lv_iload_n S.1 S.2.1 d_F_read_1 rfl (lv_at hl 1 rfl) ?_
  refine lv_iload_n S.1 S.2.1 d_F_read_2 rfl (lv_at hl 2 rfl) ?_
  refine x_callSi (As := [.int a2]) (rest := [.int a1, .ref (ad 1)]) S hK ci_F_40 (c_F_wordOf l D ad n cI cS cQ hE V a2) hP hS ⟨rfl, rfl, Nat.le_of_ble_eq_true rfl, Nat.le_of_ble_eq_true rfl⟩ rfl hl.1 rfl (Nat.le_of_ble_eq_true rfl) d_F_read_3 (fun H locs hP hS => ?_)
  refine x_callVi (As := [.int a1, .int (j_F_wordOf a2)]) (rest := []) S hK ci_F_44 (c_F_word l D ad n cI cS cQ hE V a1 (j_F_wordOf a2)) (x_recF hK hP) hP hS ⟨rfl, rfl, Nat.le_of_ble_eq_true rfl, Nat.le_of_ble_eq_true rfl⟩ rfl hl.1 rfl (Nat.le_of_ble_eq_true rfl) d_F_read_6 (fun H locs hP hS => ?_)
  refine lv_iload_n S.1 S.2.1 d_F_read_9 rfl (lv_at hl 2 rfl) ?_
  refine x_callSi (As := [.int a2]) (rest := [.int (j_F_word n V a1 (j_F_wordOf a2))]) S hK ci_F_48 (c_F_bitOf l D ad n cI cS cQ hE V a2) hP hS ⟨rfl, rfl, Nat.le_of_ble_eq_true rfl, Nat.le_of_ble_eq_true rfl⟩ rfl hl.1 rfl (Nat.le_of_ble_eq_true rfl) d_F_read_10 (fun H locs hP hS => ?_)
  refine lv_iushr (v := ju (j_F_word n V a1 (j_F_wordOf a2)) (j_F_bitOf a2)) S.1 S.2.1 d_F_read_13 rfl ?_
  refine lv_iload_n S.1 S.2.1 d_F_read_14 rfl (lv_at hl 3 rfl) ?_
  refine x_callSi (As := [.int a3]) (rest := [.int (ju (j_F_word n V a1 (j_F_wordOf a2)) (j_F_bitOf a2))]) S hK ci_F_51 (c_F_mask l D ad n cI cS cQ hE V a3) hP hS ⟨rfl, rfl, Nat.le_of_ble_eq_true rfl, Nat.le_of_ble_eq_true rfl⟩ rfl hl.1 rfl (Nat.le_of_ble_eq_true rfl) d_F_read_15 (fun H locs hP hS => ?_)
  refine lv_iand S.1 S.2.1 d_F_read_18 ?_
  rw [show j_F_read n V a1 a2 a3 = (ju (j_F_word n V a1 (j_F_wordOf a2)) (j_F_bitOf a2)) &&& (j_F_mask a3) from by rw [j_F_read]]
  exact x_iret S hr hlk hP hS d_F_read_19
/-- PageVault$Frames.holders(I)I -/
def j_F_holders (n : Nat) (V : VS) (a1 : Int32) : Int32 :=
  if (j_F_isFrame n a1) = 0 then
    0
  else
    v_hold V a1.toNatClampNeg
set_option maxHeartbeats 4000000 in
set_option maxRecDepth 100000 in
theorem c_F_holders (hE : xE ad n) (V : VS) (a1 : Int32) : XC l D ad n cI cS cQ y_F_holders b_F_holders 2 (some .int) ({ frames := 1, cells := 0, slots := 0, locals := 21 }) [.ref (ad 1), .int a1] V (some (.int (j_F_holders n V a1))) (V) := by
  refine FC_intro (by decide) (Nat.le_of_ble_eq_true rfl) ?_
  intro p e s m below meth c ls S hr hlk hK hP hS hl
  have S : CallFix p m c b_F_holders 2 s _ TG "PageVault$Frames" := S
  have hl : lv_has ls 2 [(0, .ref (ad 1)), (1, .int a1)] := hl
  refine lv_aload_n S.1 S.2.1 d_F_holders_0 rfl (lv_at hl 0 rfl) ?_
  refine lv_iload_n S.1 S.2.1 d_F_holders_1 rfl (lv_at hl 1 rfl) ?_
  refine x_callVi (As := [.int a1]) (rest := []) S hK ci_F_30 (c_F_isFrame l D ad n cI cS cQ hE V a1) (x_recF hK hP) hP hS ⟨rfl, rfl, Nat.le_of_ble_eq_true rfl, Nat.le_of_ble_eq_true rfl⟩ rfl hl.1 rfl (Nat.le_of_ble_eq_true rfl) d_F_holders_2 (fun H locs hP hS => ?_)
  refine lv_if_eq (tgt := 17) S.1 S.2.1 d_F_holders_5 (by decide) (fun c5 => ?_) (fun c5 => ?_)
  · refine lv_iconst (v := 0) S.1 S.2.1 d_F_holders_17 (by decide) ?_
    rw [show j_F_holders n V a1 = 0 from by rw [j_F_holders, if_pos c5]]
    exact x_iret S hr hlk hP hS d_F_holders_18
  · refine lv_aload_n S.1 S.2.1 d_F_holders_8 rfl (lv_at hl 0 rfl) ?_
    refine x_get_holders S hK hP tg_45 d_F_holders_9 ?_
    refine lv_iload_n S.1 S.2.1 d_F_holders_12 rfl (lv_at hl 1 rfl) ?_
    refine x_ald_holders S hK hP (isFrame_in hE c5) d_F_holders_13 ?_
    refine lv_goto (tgt := 18) S.1 S.2.1 d_F_holders_14 (by decide) ?_
    rw [show j_F_holders n V a1 = v_hold V a1.toNatClampNeg from by rw [j_F_holders, if_neg c5]]
    exact x_iret S hr hlk hP hS d_F_holders_18
/-- PageVault.flagsOf(I)I -/
def j_V_flagsOf (a0 : Int32) : Int32 :=
  a0 &&& 15
set_option maxHeartbeats 4000000 in
set_option maxRecDepth 100000 in
theorem c_V_flagsOf (hE : xE ad n) (V : VS) (a0 : Int32) : XC l D ad n cI cS cQ y_V_flagsOf b_V_flagsOf 1 (some .int) ({ frames := 0, cells := 0, slots := 0, locals := 0 }) [.int a0] V (some (.int (j_V_flagsOf a0))) (V) := by
  refine FC_intro (by decide) (Nat.le_of_ble_eq_true rfl) ?_
  intro p e s m below meth c ls S hr hlk hK hP hS hl
  have S : CallFix p m c b_V_flagsOf 1 s _ TG "PageVault" := S
  have hl : lv_has ls 1 [(0, .int a0)] := hl
  refine lv_iload_n S.1 S.2.1 d_V_flagsOf_0 rfl (lv_at hl 0 rfl) ?_
  refine lv_bipush (v := 15) S.1 S.2.1 d_V_flagsOf_1 (by decide) ?_
  refine lv_iand S.1 S.2.1 d_V_flagsOf_3 ?_
  rw [show j_V_flagsOf a0 = a0 &&& 15 from by rw [j_V_flagsOf]]
  exact x_iret S hr hlk hP hS d_V_flagsOf_4
/-- PageVault$Space.partPage(I)I -/
def j_S_partPage (n : Nat) (V : VS) (k : Nat) (a1 : Int32) : Int32 × VS :=
  if ((j_F_take n V).1) = (-1) then
    ((-1), (j_F_take n V).2)
  else
    ((j_F_take n V).1, j_S_setEntry n (j_F_release n (j_F_copyWords n ((j_F_take n V).2) (j_V_frameOf (j_S_entryAt n ((j_F_take n V).2) k a1)) ((j_F_take n V).1)) (j_V_frameOf (j_S_entryAt n ((j_F_take n V).2) k a1))) k a1 (j_V_entryOf ((j_F_take n V).1) (j_V_flagsOf (j_S_entryAt n ((j_F_take n V).2) k a1))))
set_option maxHeartbeats 4000000 in
set_option maxRecDepth 100000 in
theorem c_S_partPage (hE : xE ad n) (V : VS) (k : Nat) (hk : k < 16) (a1 : Int32) : XC l D ad n cI cS cQ y_S_partPage b_S_partPage 4 (some .int) ({ frames := 3, cells := 0, slots := 0, locals := 65 }) [.ref (ad (6 + k)), .int a1] V (some (.int (j_S_partPage n V k a1).1)) ((j_S_partPage n V k a1).2) := by
  refine FC_intro (by decide) (Nat.le_of_ble_eq_true rfl) ?_
  intro p e s m below meth c ls S hr hlk hK hP hS hl
  have S : CallFix p m c b_S_partPage 4 s _ TG "PageVault$Space" := S
  have hl : lv_has ls 4 [(0, .ref (ad (6 + k))), (1, .int a1)] := hl
  refine lv_aload_n S.1 S.2.1 d_S_partPage_0 rfl (lv_at hl 0 rfl) ?_
  refine x_get_sframes S hK hP hk tg_47 d_S_partPage_1 ?_
  refine x_callVi (As := []) (rest := []) S hK ci_S_22 (c_F_take l D ad n cI cS cQ hE V) (x_recF hK hP) hP hS ⟨rfl, rfl, Nat.le_of_ble_eq_true rfl, Nat.le_of_ble_eq_true rfl⟩ rfl hl.1 rfl (Nat.le_of_ble_eq_true rfl) d_S_partPage_4 (fun H locs hP hS => ?_)
  refine lv_istore_n (lv' := [(2, .int ((j_F_take n V).1)), (0, .ref (ad (6 + k))), (1, .int a1)]) S.1 S.2.1 d_S_partPage_7 rfl hl (by decide) rfl (fun ls hl => ?_)
  refine lv_iload_n S.1 S.2.1 d_S_partPage_8 rfl (lv_at hl 0 rfl) ?_
  refine lv_iconst (v := (-1)) S.1 S.2.1 d_S_partPage_9 (by decide) ?_
  refine lv_icmp_ne (tgt := 15) S.1 S.2.1 d_S_partPage_10 (by decide) (fun c10 => ?_) (fun c10 => ?_)
  · refine lv_aload_n S.1 S.2.1 d_S_partPage_15 rfl (lv_at hl 1 rfl) ?_
    refine lv_iload_n S.1 S.2.1 d_S_partPage_16 rfl (lv_at hl 2 rfl) ?_
    refine x_callVi (As := [.int a1]) (rest := []) S hK ci_S_75 (c_S_entryAt l D ad n cI cS cQ hE ((j_F_take n V).2) k hk a1) (x_recS hK hP hk) hP hS ⟨rfl, rfl, Nat.le_of_ble_eq_true rfl, Nat.le_of_ble_eq_true rfl⟩ rfl hl.1 rfl (Nat.le_of_ble_eq_true rfl) d_S_partPage_17 (fun H locs hP hS => ?_)
    refine lv_istore_n (lv' := [(3, .int (j_S_entryAt n ((j_F_take n V).2) k a1)), (2, .int ((j_F_take n V).1)), (0, .ref (ad (6 + k))), (1, .int a1)]) S.1 S.2.1 d_S_partPage_20 rfl hl (by decide) rfl (fun ls hl => ?_)
    refine lv_aload_n S.1 S.2.1 d_S_partPage_21 rfl (lv_at hl 2 rfl) ?_
    refine x_get_sframes S hK hP hk tg_47 d_S_partPage_22 ?_
    refine lv_iload_n S.1 S.2.1 d_S_partPage_25 rfl (lv_at hl 0 rfl) ?_
    refine x_callNi (As := [.int (j_S_entryAt n ((j_F_take n V).2) k a1)]) (rest := [.ref (ad 1)]) S hK ci_S_78 (hK.2 _ nl_0) (c_V_frameOf l D ad n cI cS cQ hE ((j_F_take n V).2) (j_S_entryAt n ((j_F_take n V).2) k a1)) hP hS ⟨rfl, rfl, Nat.le_of_ble_eq_true rfl, Nat.le_of_ble_eq_true rfl⟩ rfl hl.1 rfl (Nat.le_of_ble_eq_true rfl) d_S_partPage_26 (fun H locs hP hS => ?_)
    refine lv_iload_n S.1 S.2.1 d_S_partPage_29 rfl (lv_at hl 1 rfl) ?_
    refine x_callVv (As := [.int (j_V_frameOf (j_S_entryAt n ((j_F_take n V).2) k a1)), .int ((j_F_take n V).1)]) (rest := []) S hK ci_S_81 (c_F_copyWords l D ad n cI cS cQ hE ((j_F_take n V).2) (j_V_frameOf (j_S_entryAt n ((j_F_take n V).2) k a1)) ((j_F_take n V).1)) (x_recF hK hP) hP hS ⟨rfl, rfl, Nat.le_of_ble_eq_true rfl, Nat.le_of_ble_eq_true rfl⟩ rfl hl.1 rfl (Nat.le_of_ble_eq_true rfl) d_S_partPage_30 (fun H locs hP hS => ?_)
    refine lv_aload_n S.1 S.2.1 d_S_partPage_33 rfl (lv_at hl 2 rfl) ?_
    refine x_get_sframes S hK hP hk tg_47 d_S_partPage_34 ?_
    refine lv_iload_n S.1 S.2.1 d_S_partPage_37 rfl (lv_at hl 0 rfl) ?_
    refine x_callNi (As := [.int (j_S_entryAt n ((j_F_take n V).2) k a1)]) (rest := [.ref (ad 1)]) S hK ci_S_78 (hK.2 _ nl_0) (c_V_frameOf l D ad n cI cS cQ hE (j_F_copyWords n ((j_F_take n V).2) (j_V_frameOf (j_S_entryAt n ((j_F_take n V).2) k a1)) ((j_F_take n V).1)) (j_S_entryAt n ((j_F_take n V).2) k a1)) hP hS ⟨rfl, rfl, Nat.le_of_ble_eq_true rfl, Nat.le_of_ble_eq_true rfl⟩ rfl hl.1 rfl (Nat.le_of_ble_eq_true rfl) d_S_partPage_38 (fun H locs hP hS => ?_)
    refine x_callVv (As := [.int (j_V_frameOf (j_S_entryAt n ((j_F_take n V).2) k a1))]) (rest := []) S hK ci_S_36 (c_F_release l D ad n cI cS cQ hE (j_F_copyWords n ((j_F_take n V).2) (j_V_frameOf (j_S_entryAt n ((j_F_take n V).2) k a1)) ((j_F_take n V).1)) (j_V_frameOf (j_S_entryAt n ((j_F_take n V).2) k a1))) (x_recF hK hP) hP hS ⟨rfl, rfl, Nat.le_of_ble_eq_true rfl, Nat.le_of_ble_eq_true rfl⟩ rfl hl.1 rfl (Nat.le_of_ble_eq_true rfl) d_S_partPage_41 (fun H locs hP hS => ?_)
    refine lv_aload_n S.1 S.2.1 d_S_partPage_44 rfl (lv_at hl 2 rfl) ?_
    refine lv_iload_n S.1 S.2.1 d_S_partPage_45 rfl (lv_at hl 3 rfl) ?_
    refine lv_iload_n S.1 S.2.1 d_S_partPage_46 rfl (lv_at hl 1 rfl) ?_
    refine lv_iload_n S.1 S.2.1 d_S_partPage_47 rfl (lv_at hl 0 rfl) ?_
    refine x_callNi (As := [.int (j_S_entryAt n ((j_F_take n V).2) k a1)]) (rest := [.int ((j_F_take n V).1), .int a1, .ref (ad (6 + k))]) S hK ci_S_85 (hK.2 _ nl_2) (c_V_flagsOf l D ad n cI cS cQ hE (j_F_release n (j_F_copyWords n ((j_F_take n V).2) (j_V_frameOf (j_S_entryAt n ((j_F_take n V).2) k a1)) ((j_F_take n V).1)) (j_V_frameOf (j_S_entryAt n ((j_F_take n V).2) k a1))) (j_S_entryAt n ((j_F_take n V).2) k a1)) hP hS ⟨rfl, rfl, Nat.le_of_ble_eq_true rfl, Nat.le_of_ble_eq_true rfl⟩ rfl hl.1 rfl (Nat.le_of_ble_eq_true rfl) d_S_partPage_48 (fun H locs hP hS => ?_)
    refine x_callNi (As := [.int ((j_F_take n V).1), .int (j_V_flagsOf (j_S_entryAt n ((j_F_take n V).2) k a1))]) (rest := [.int a1, .ref (ad (6 + k))]) S hK ci_S_72 (hK.2 _ nl_1) (c_V_entryOf l D ad n cI cS cQ hE (j_F_release n (j_F_copyWords n ((j_F_take n V).2) (j_V_frameOf (j_S_entryAt n ((j_F_take n V).2) k a1)) ((j_F_take n V).1)) (j_V_frameOf (j_S_entryAt n ((j_F_take n V).2) k a1))) ((j_F_take n V).1) (j_V_flagsOf (j_S_entryAt n ((j_F_take n V).2) k a1))) hP hS ⟨rfl, rfl, Nat.le_of_ble_eq_true rfl, Nat.le_of_ble_eq_true rfl⟩ rfl hl.1 rfl (Nat.le_of_ble_eq_true rfl) d_S_partPage_51 (fun H locs hP hS => ?_)
    refine x_callVv (As := [.int a1, .int (j_V_entryOf ((j_F_take n V).1) (j_V_flagsOf (j_S_entryAt n ((j_F_take n V).2) k a1)))]) (rest := []) S hK ci_S_88 (c_S_setEntry l D ad n cI cS cQ hE (j_F_release n (j_F_copyWords n ((j_F_take n V).2) (j_V_frameOf (j_S_entryAt n ((j_F_take n V).2) k a1)) ((j_F_take n V).1)) (j_V_frameOf (j_S_entryAt n ((j_F_take n V).2) k a1))) k hk a1 (j_V_entryOf ((j_F_take n V).1) (j_V_flagsOf (j_S_entryAt n ((j_F_take n V).2) k a1)))) (x_recS hK hP hk) hP hS ⟨rfl, rfl, Nat.le_of_ble_eq_true rfl, Nat.le_of_ble_eq_true rfl⟩ rfl hl.1 rfl (Nat.le_of_ble_eq_true rfl) d_S_partPage_54 (fun H locs hP hS => ?_)
    refine lv_iload_n S.1 S.2.1 d_S_partPage_57 rfl (lv_at hl 1 rfl) ?_
    rw [show j_S_partPage n V k a1 = ((j_F_take n V).1, j_S_setEntry n (j_F_release n (j_F_copyWords n ((j_F_take n V).2) (j_V_frameOf (j_S_entryAt n ((j_F_take n V).2) k a1)) ((j_F_take n V).1)) (j_V_frameOf (j_S_entryAt n ((j_F_take n V).2) k a1))) k a1 (j_V_entryOf ((j_F_take n V).1) (j_V_flagsOf (j_S_entryAt n ((j_F_take n V).2) k a1)))) from by rw [j_S_partPage, if_neg c10]]
    exact x_iret S hr hlk hP hS d_S_partPage_58
  · refine lv_iconst (v := (-1)) S.1 S.2.1 d_S_partPage_13 (by decide) ?_
    rw [show j_S_partPage n V k a1 = ((-1), (j_F_take n V).2) from by rw [j_S_partPage, if_pos c10]]
    exact x_iret S hr hlk hP hS d_S_partPage_14
/-- PageVault.frameOrFull(I)I -/
def j_V_frameOrFull (V : VS) (a1 : Int32) : Int32 × VS :=
  if a1 = (-1) then
    ((j_V_trapped V 3).1, (j_V_trapped V 3).2)
  else
    (a1, V)
set_option maxHeartbeats 4000000 in
set_option maxRecDepth 100000 in
theorem c_V_frameOrFull (hE : xE ad n) (V : VS) (a1 : Int32) : XC l D ad n cI cS cQ y_V_frameOrFull b_V_frameOrFull 2 (some .int) ({ frames := 1, cells := 0, slots := 0, locals := 21 }) [.ref (ad 0), .int a1] V (some (.int (j_V_frameOrFull V a1).1)) ((j_V_frameOrFull V a1).2) := by
  refine FC_intro (by decide) (Nat.le_of_ble_eq_true rfl) ?_
  intro p e s m below meth c ls S hr hlk hK hP hS hl
  have S : CallFix p m c b_V_frameOrFull 2 s _ TG "PageVault" := S
  have hl : lv_has ls 2 [(0, .ref (ad 0)), (1, .int a1)] := hl
  refine lv_iload_n S.1 S.2.1 d_V_frameOrFull_0 rfl (lv_at hl 1 rfl) ?_
  refine lv_iconst (v := (-1)) S.1 S.2.1 d_V_frameOrFull_1 (by decide) ?_
  refine lv_icmp_ne (tgt := 13) S.1 S.2.1 d_V_frameOrFull_2 (by decide) (fun c2 => ?_) (fun c2 => ?_)
  · refine lv_iload_n S.1 S.2.1 d_V_frameOrFull_13 rfl (lv_at hl 1 rfl) ?_
    rw [show j_V_frameOrFull V a1 = (a1, V) from by rw [j_V_frameOrFull, if_neg c2]]
    exact x_iret S hr hlk hP hS d_V_frameOrFull_14
  · refine lv_aload_n S.1 S.2.1 d_V_frameOrFull_5 rfl (lv_at hl 0 rfl) ?_
    refine lv_iconst (v := 3) S.1 S.2.1 d_V_frameOrFull_6 (by decide) ?_
    refine x_callVi (As := [.int 3]) (rest := []) S hK ci_V_111 (c_V_trapped l D ad n cI cS cQ hE V 3) (x_recV hK hP) hP hS ⟨rfl, rfl, Nat.le_of_ble_eq_true rfl, Nat.le_of_ble_eq_true rfl⟩ rfl hl.1 rfl (Nat.le_of_ble_eq_true rfl) d_V_frameOrFull_7 (fun H locs hP hS => ?_)
    refine lv_goto (tgt := 14) S.1 S.2.1 d_V_frameOrFull_10 (by decide) ?_
    rw [show j_V_frameOrFull V a1 = ((j_V_trapped V 3).1, (j_V_trapped V 3).2) from by rw [j_V_frameOrFull, if_pos c2]]
    exact x_iret S hr hlk hP hS d_V_frameOrFull_14
/-- PageVault.touchAbsent(LPageVault$Space;II)I -/
def j_V_touchAbsent (n : Nat) (V : VS) (k : Nat) (a2 : Int32) (a3 : Int32) : Int32 × VS :=
  if (j_S_length V k) ≤ a2 then
    ((j_V_trapped V 1).1, (j_V_trapped V 1).2)
  else
    if a3 = 4 then
      ((j_V_trapped V 1).1, (j_V_trapped V 1).2)
    else
      ((j_V_frameOrFull ((j_S_addPage n V k a2 11).2) ((j_S_addPage n V k a2 11).1)).1, (j_V_frameOrFull ((j_S_addPage n V k a2 11).2) ((j_S_addPage n V k a2 11).1)).2)
set_option maxHeartbeats 4000000 in
set_option maxRecDepth 100000 in
theorem c_V_touchAbsent (hE : xE ad n) (V : VS) (k : Nat) (hk : k < 16) (a2 : Int32) (a3 : Int32) : XC l D ad n cI cS cQ y_V_touchAbsent b_V_touchAbsent 4 (some .int) ({ frames := 4, cells := 0, slots := 0, locals := 108 }) [.ref (ad 0), .ref (ad (6 + k)), .int a2, .int a3] V (some (.int (j_V_touchAbsent n V k a2 a3).1)) ((j_V_touchAbsent n V k a2 a3).2) := by
  refine FC_intro (by decide) (Nat.le_of_ble_eq_true rfl) ?_
  intro p e s m below meth c ls S hr hlk hK hP hS hl
  have S : CallFix p m c b_V_touchAbsent 4 s _ TG "PageVault" := S
  have hl : lv_has ls 4 [(0, .ref (ad 0)), (1, .ref (ad (6 + k))), (2, .int a2), (3, .int a3)] := hl
  refine lv_iload_n S.1 S.2.1 d_V_touchAbsent_0 rfl (lv_at hl 2 rfl) ?_
  refine lv_aload_n S.1 S.2.1 d_V_touchAbsent_1 rfl (lv_at hl 1 rfl) ?_
  refine x_callVi (As := []) (rest := [.int a2]) S hK ci_V_91 (c_S_length l D ad n cI cS cQ hE V k hk) (x_recS hK hP hk) hP hS ⟨rfl, rfl, Nat.le_of_ble_eq_true rfl, Nat.le_of_ble_eq_true rfl⟩ rfl hl.1 rfl (Nat.le_of_ble_eq_true rfl) d_V_touchAbsent_2 (fun H locs hP hS => ?_)
  refine lv_icmp_ge (tgt := 13) S.1 S.2.1 d_V_touchAbsent_5 (by decide) (fun c5 => ?_) (fun c5 => ?_)
  · refine lv_aload_n S.1 S.2.1 d_V_touchAbsent_13 rfl (lv_at hl 0 rfl) ?_
    refine lv_iconst (v := 1) S.1 S.2.1 d_V_touchAbsent_14 (by decide) ?_
    refine x_callVi (As := [.int 1]) (rest := []) S hK ci_V_111 (c_V_trapped l D ad n cI cS cQ hE V 1) (x_recV hK hP) hP hS ⟨rfl, rfl, Nat.le_of_ble_eq_true rfl, Nat.le_of_ble_eq_true rfl⟩ rfl hl.1 rfl (Nat.le_of_ble_eq_true rfl) d_V_touchAbsent_15 (fun H locs hP hS => ?_)
    rw [show j_V_touchAbsent n V k a2 a3 = ((j_V_trapped V 1).1, (j_V_trapped V 1).2) from by rw [j_V_touchAbsent, if_pos c5]]
    exact x_iret S hr hlk hP hS d_V_touchAbsent_18
  · refine lv_iload_n S.1 S.2.1 d_V_touchAbsent_8 rfl (lv_at hl 3 rfl) ?_
    refine lv_iconst (v := 4) S.1 S.2.1 d_V_touchAbsent_9 (by decide) ?_
    refine lv_icmp_ne (tgt := 19) S.1 S.2.1 d_V_touchAbsent_10 (by decide) (fun c10 => ?_) (fun c10 => ?_)
    · refine lv_aload_n S.1 S.2.1 d_V_touchAbsent_19 rfl (lv_at hl 0 rfl) ?_
      refine lv_aload_n S.1 S.2.1 d_V_touchAbsent_20 rfl (lv_at hl 1 rfl) ?_
      refine lv_iload_n S.1 S.2.1 d_V_touchAbsent_21 rfl (lv_at hl 2 rfl) ?_
      refine lv_bipush (v := 11) S.1 S.2.1 d_V_touchAbsent_22 (by decide) ?_
      refine x_callVi (As := [.int a2, .int 11]) (rest := [.ref (ad 0)]) S hK ci_V_75 (c_S_addPage l D ad n cI cS cQ hE V k hk a2 11) (x_recS hK hP hk) hP hS ⟨rfl, rfl, Nat.le_of_ble_eq_true rfl, Nat.le_of_ble_eq_true rfl⟩ rfl hl.1 rfl (Nat.le_of_ble_eq_true rfl) d_V_touchAbsent_24 (fun H locs hP hS => ?_)
      refine x_callVi (As := [.int ((j_S_addPage n V k a2 11).1)]) (rest := []) S hK ci_V_155 (c_V_frameOrFull l D ad n cI cS cQ hE ((j_S_addPage n V k a2 11).2) ((j_S_addPage n V k a2 11).1)) (x_recV hK hP) hP hS ⟨rfl, rfl, Nat.le_of_ble_eq_true rfl, Nat.le_of_ble_eq_true rfl⟩ rfl hl.1 rfl (Nat.le_of_ble_eq_true rfl) d_V_touchAbsent_27 (fun H locs hP hS => ?_)
      rw [show j_V_touchAbsent n V k a2 a3 = ((j_V_frameOrFull ((j_S_addPage n V k a2 11).2) ((j_S_addPage n V k a2 11).1)).1, (j_V_frameOrFull ((j_S_addPage n V k a2 11).2) ((j_S_addPage n V k a2 11).1)).2) from by rw [j_V_touchAbsent, if_neg c5, if_neg c10]]
      exact x_iret S hr hlk hP hS d_V_touchAbsent_30
    · refine lv_aload_n S.1 S.2.1 d_V_touchAbsent_13 rfl (lv_at hl 0 rfl) ?_
      refine lv_iconst (v := 1) S.1 S.2.1 d_V_touchAbsent_14 (by decide) ?_
      refine x_callVi (As := [.int 1]) (rest := []) S hK ci_V_111 (c_V_trapped l D ad n cI cS cQ hE V 1) (x_recV hK hP) hP hS ⟨rfl, rfl, Nat.le_of_ble_eq_true rfl, Nat.le_of_ble_eq_true rfl⟩ rfl hl.1 rfl (Nat.le_of_ble_eq_true rfl) d_V_touchAbsent_15 (fun H locs hP hS => ?_)
      rw [show j_V_touchAbsent n V k a2 a3 = ((j_V_trapped V 1).1, (j_V_trapped V 1).2) from by rw [j_V_touchAbsent, if_neg c5, if_pos c10]]
      exact x_iret S hr hlk hP hS d_V_touchAbsent_18
end XW
