section XW
variable (l : Launch) (D : va_G) (ad : Nat → Nat) (n : Nat) (cI cS cQ : ClassId)
/-- PageVault.touch(LPageVault$Space;II)I -/
def j_V_touch (n : Nat) (V : VS) (k : Nat) (a2 : Int32) (a3 : Int32) : Int32 × VS :=
  if (j_V_isUsers a2) = 0 then
    ((j_V_trapped V 1).1, (j_V_trapped V 1).2)
  else
    if (j_S_entryAt n V k a2) = 0 then
      ((j_V_touchAbsent n V k a2 a3).1, (j_V_touchAbsent n V k a2 a3).2)
    else
      if ((j_S_entryAt n V k a2) &&& 8) = 0 then
        ((j_V_trapped V 1).1, (j_V_trapped V 1).2)
      else
        if ((j_S_entryAt n V k a2) &&& a3) = 0 then
          ((j_V_trapped V 1).1, (j_V_trapped V 1).2)
        else
          if a3 = 2 then
            if (j_F_holders n V (j_V_frameOf (j_S_entryAt n V k a2))) ≤ 1 then
              (j_V_frameOf (j_S_entryAt n V k a2), V)
            else
              ((j_V_frameOrFull ((j_S_partPage n V k a2).2) ((j_S_partPage n V k a2).1)).1, (j_V_frameOrFull ((j_S_partPage n V k a2).2) ((j_S_partPage n V k a2).1)).2)
          else
            (j_V_frameOf (j_S_entryAt n V k a2), V)
set_option maxHeartbeats 4000000 in
set_option maxRecDepth 100000 in
theorem c_V_touch (hE : xE ad n) (V : VS) (k : Nat) (hk : k < 16) (a2 : Int32) (a3 : Int32) : XC l D ad n cI cS cQ y_V_touch b_V_touch 6 (some .int) ({ frames := 5, cells := 0, slots := 0, locals := 131 }) [.ref (ad 0), .ref (ad (6 + k)), .int a2, .int a3] V (some (.int (j_V_touch n V k a2 a3).1)) ((j_V_touch n V k a2 a3).2) := by
  refine FC_intro (by decide) (Nat.le_of_ble_eq_true rfl) ?_
  intro p e s m below meth c ls S hr hlk hK hP hS hl
  have S : CallFix p m c b_V_touch 6 s _ TG "PageVault" := S
  have hl : lv_has ls 6 [(0, .ref (ad 0)), (1, .ref (ad (6 + k))), (2, .int a2), (3, .int a3)] := hl
  refine lv_aload_n S.1 S.2.1 d_V_touch_0 rfl (lv_at hl 1 rfl) ?_
  refine lv_ifnull S.1 S.2.1 d_V_touch_1 ?_
  refine lv_iload_n S.1 S.2.1 d_V_touch_4 rfl (lv_at hl 2 rfl) ?_
  refine x_callSi (As := [.int a2]) (rest := []) S hK ci_V_135 (c_V_isUsers l D ad n cI cS cQ hE V a2) hP hS ⟨rfl, rfl, Nat.le_of_ble_eq_true rfl, Nat.le_of_ble_eq_true rfl⟩ rfl hl.1 rfl (Nat.le_of_ble_eq_true rfl) d_V_touch_5 (fun H locs hP hS => ?_)
  refine lv_if_ne (tgt := 17) S.1 S.2.1 d_V_touch_8 (by decide) (fun c8 => ?_) (fun c8 => ?_)
  · refine lv_aload_n S.1 S.2.1 d_V_touch_17 rfl (lv_at hl 1 rfl) ?_
    refine lv_iload_n S.1 S.2.1 d_V_touch_18 rfl (lv_at hl 2 rfl) ?_
    refine x_callVi (As := [.int a2]) (rest := []) S hK ci_V_71 (c_S_entryAt l D ad n cI cS cQ hE V k hk a2) (x_recS hK hP hk) hP hS ⟨rfl, rfl, Nat.le_of_ble_eq_true rfl, Nat.le_of_ble_eq_true rfl⟩ rfl hl.1 rfl (Nat.le_of_ble_eq_true rfl) d_V_touch_19 (fun H locs hP hS => ?_)
    refine lv_istore (lv' := [(4, .int (j_S_entryAt n V k a2)), (0, .ref (ad 0)), (1, .ref (ad (6 + k))), (2, .int a2), (3, .int a3)]) S.1 S.2.1 d_V_touch_22 hl (by decide) rfl (fun ls hl => ?_)
    refine lv_iload S.1 S.2.1 d_V_touch_24 (lv_at hl 0 rfl) ?_
    refine lv_if_ne (tgt := 37) S.1 S.2.1 d_V_touch_26 (by decide) (fun c26 => ?_) (fun c26 => ?_)
    · refine lv_iload S.1 S.2.1 d_V_touch_37 (lv_at hl 0 rfl) ?_
      refine lv_bipush (v := 8) S.1 S.2.1 d_V_touch_39 (by decide) ?_
      refine lv_iand S.1 S.2.1 d_V_touch_41 ?_
      refine lv_if_eq (tgt := 52) S.1 S.2.1 d_V_touch_42 (by decide) (fun c42 => ?_) (fun c42 => ?_)
      · refine lv_aload_n S.1 S.2.1 d_V_touch_52 rfl (lv_at hl 1 rfl) ?_
        refine lv_iconst (v := 1) S.1 S.2.1 d_V_touch_53 (by decide) ?_
        refine x_callVi (As := [.int 1]) (rest := []) S hK ci_V_111 (c_V_trapped l D ad n cI cS cQ hE V 1) (x_recV hK hP) hP hS ⟨rfl, rfl, Nat.le_of_ble_eq_true rfl, Nat.le_of_ble_eq_true rfl⟩ rfl hl.1 rfl (Nat.le_of_ble_eq_true rfl) d_V_touch_54 (fun H locs hP hS => ?_)
        rw [show j_V_touch n V k a2 a3 = ((j_V_trapped V 1).1, (j_V_trapped V 1).2) from by rw [j_V_touch, if_neg c8, if_neg c26, if_pos c42]]
        exact x_iret S hr hlk hP hS d_V_touch_57
      · refine lv_iload S.1 S.2.1 d_V_touch_45 (lv_at hl 0 rfl) ?_
        refine lv_iload_n S.1 S.2.1 d_V_touch_47 rfl (lv_at hl 4 rfl) ?_
        refine lv_iand S.1 S.2.1 d_V_touch_48 ?_
        refine lv_if_ne (tgt := 58) S.1 S.2.1 d_V_touch_49 (by decide) (fun c49 => ?_) (fun c49 => ?_)
        · refine lv_iload S.1 S.2.1 d_V_touch_58 (lv_at hl 0 rfl) ?_
          refine x_callSi (As := [.int (j_S_entryAt n V k a2)]) (rest := []) S hK ci_V_81 (c_V_frameOf l D ad n cI cS cQ hE V (j_S_entryAt n V k a2)) hP hS ⟨rfl, rfl, Nat.le_of_ble_eq_true rfl, Nat.le_of_ble_eq_true rfl⟩ rfl hl.1 rfl (Nat.le_of_ble_eq_true rfl) d_V_touch_60 (fun H locs hP hS => ?_)
          refine lv_istore (lv' := [(5, .int (j_V_frameOf (j_S_entryAt n V k a2))), (4, .int (j_S_entryAt n V k a2)), (0, .ref (ad 0)), (1, .ref (ad (6 + k))), (2, .int a2), (3, .int a3)]) S.1 S.2.1 d_V_touch_63 hl (by decide) rfl (fun ls hl => ?_)
          refine lv_iload_n S.1 S.2.1 d_V_touch_65 rfl (lv_at hl 5 rfl) ?_
          refine lv_iconst (v := 2) S.1 S.2.1 d_V_touch_66 (by decide) ?_
          refine lv_icmp_ne (tgt := 93) S.1 S.2.1 d_V_touch_67 (by decide) (fun c67 => ?_) (fun c67 => ?_)
          · refine lv_iload S.1 S.2.1 d_V_touch_93 (lv_at hl 0 rfl) ?_
            rw [show j_V_touch n V k a2 a3 = (j_V_frameOf (j_S_entryAt n V k a2), V) from by rw [j_V_touch, if_neg c8, if_neg c26, if_neg c42, if_neg c49, if_neg c67]]
            exact x_iret S hr hlk hP hS d_V_touch_95
          · refine lv_aload_n S.1 S.2.1 d_V_touch_70 rfl (lv_at hl 2 rfl) ?_
            refine x_get_frames S hK hP tg_49 d_V_touch_71 ?_
            refine lv_iload S.1 S.2.1 d_V_touch_74 (lv_at hl 0 rfl) ?_
            refine x_callVi (As := [.int (j_V_frameOf (j_S_entryAt n V k a2))]) (rest := []) S hK ci_V_128 (c_F_holders l D ad n cI cS cQ hE V (j_V_frameOf (j_S_entryAt n V k a2))) (x_recF hK hP) hP hS ⟨rfl, rfl, Nat.le_of_ble_eq_true rfl, Nat.le_of_ble_eq_true rfl⟩ rfl hl.1 rfl (Nat.le_of_ble_eq_true rfl) d_V_touch_76 (fun H locs hP hS => ?_)
            refine lv_iconst (v := 1) S.1 S.2.1 d_V_touch_79 (by decide) ?_
            refine lv_icmp_le (tgt := 93) S.1 S.2.1 d_V_touch_80 (by decide) (fun c80 => ?_) (fun c80 => ?_)
            · refine lv_iload S.1 S.2.1 d_V_touch_93 (lv_at hl 0 rfl) ?_
              rw [show j_V_touch n V k a2 a3 = (j_V_frameOf (j_S_entryAt n V k a2), V) from by rw [j_V_touch, if_neg c8, if_neg c26, if_neg c42, if_neg c49, if_pos c67, if_pos c80]]
              exact x_iret S hr hlk hP hS d_V_touch_95
            · refine lv_aload_n S.1 S.2.1 d_V_touch_83 rfl (lv_at hl 2 rfl) ?_
              refine lv_aload_n S.1 S.2.1 d_V_touch_84 rfl (lv_at hl 3 rfl) ?_
              refine lv_iload_n S.1 S.2.1 d_V_touch_85 rfl (lv_at hl 4 rfl) ?_
              refine x_callVi (As := [.int a2]) (rest := [.ref (ad 0)]) S hK ci_V_152 (c_S_partPage l D ad n cI cS cQ hE V k hk a2) (x_recS hK hP hk) hP hS ⟨rfl, rfl, Nat.le_of_ble_eq_true rfl, Nat.le_of_ble_eq_true rfl⟩ rfl hl.1 rfl (Nat.le_of_ble_eq_true rfl) d_V_touch_86 (fun H locs hP hS => ?_)
              refine x_callVi (As := [.int ((j_S_partPage n V k a2).1)]) (rest := []) S hK ci_V_155 (c_V_frameOrFull l D ad n cI cS cQ hE ((j_S_partPage n V k a2).2) ((j_S_partPage n V k a2).1)) (x_recV hK hP) hP hS ⟨rfl, rfl, Nat.le_of_ble_eq_true rfl, Nat.le_of_ble_eq_true rfl⟩ rfl hl.1 rfl (Nat.le_of_ble_eq_true rfl) d_V_touch_89 (fun H locs hP hS => ?_)
              rw [show j_V_touch n V k a2 a3 = ((j_V_frameOrFull ((j_S_partPage n V k a2).2) ((j_S_partPage n V k a2).1)).1, (j_V_frameOrFull ((j_S_partPage n V k a2).2) ((j_S_partPage n V k a2).1)).2) from by rw [j_V_touch, if_neg c8, if_neg c26, if_neg c42, if_neg c49, if_pos c67, if_neg c80]]
              exact x_iret S hr hlk hP hS d_V_touch_92
        · refine lv_aload_n S.1 S.2.1 d_V_touch_52 rfl (lv_at hl 1 rfl) ?_
          refine lv_iconst (v := 1) S.1 S.2.1 d_V_touch_53 (by decide) ?_
          refine x_callVi (As := [.int 1]) (rest := []) S hK ci_V_111 (c_V_trapped l D ad n cI cS cQ hE V 1) (x_recV hK hP) hP hS ⟨rfl, rfl, Nat.le_of_ble_eq_true rfl, Nat.le_of_ble_eq_true rfl⟩ rfl hl.1 rfl (Nat.le_of_ble_eq_true rfl) d_V_touch_54 (fun H locs hP hS => ?_)
          rw [show j_V_touch n V k a2 a3 = ((j_V_trapped V 1).1, (j_V_trapped V 1).2) from by rw [j_V_touch, if_neg c8, if_neg c26, if_neg c42, if_pos c49]]
          exact x_iret S hr hlk hP hS d_V_touch_57
    · refine lv_aload_n S.1 S.2.1 d_V_touch_29 rfl (lv_at hl 1 rfl) ?_
      refine lv_aload_n S.1 S.2.1 d_V_touch_30 rfl (lv_at hl 2 rfl) ?_
      refine lv_iload_n S.1 S.2.1 d_V_touch_31 rfl (lv_at hl 3 rfl) ?_
      refine lv_iload_n S.1 S.2.1 d_V_touch_32 rfl (lv_at hl 4 rfl) ?_
      refine x_callVi (As := [.ref (ad (6 + k)), .int a2, .int a3]) (rest := []) S hK ci_V_149 (c_V_touchAbsent l D ad n cI cS cQ hE V k hk a2 a3) (x_recV hK hP) hP hS ⟨rfl, rfl, Nat.le_of_ble_eq_true rfl, Nat.le_of_ble_eq_true rfl⟩ rfl hl.1 rfl (Nat.le_of_ble_eq_true rfl) d_V_touch_33 (fun H locs hP hS => ?_)
      rw [show j_V_touch n V k a2 a3 = ((j_V_touchAbsent n V k a2 a3).1, (j_V_touchAbsent n V k a2 a3).2) from by rw [j_V_touch, if_neg c8, if_pos c26]]
      exact x_iret S hr hlk hP hS d_V_touch_36
  · refine lv_aload_n S.1 S.2.1 d_V_touch_11 rfl (lv_at hl 0 rfl) ?_
    refine lv_iconst (v := 1) S.1 S.2.1 d_V_touch_12 (by decide) ?_
    refine x_callVi (As := [.int 1]) (rest := []) S hK ci_V_111 (c_V_trapped l D ad n cI cS cQ hE V 1) (x_recV hK hP) hP hS ⟨rfl, rfl, Nat.le_of_ble_eq_true rfl, Nat.le_of_ble_eq_true rfl⟩ rfl hl.1 rfl (Nat.le_of_ble_eq_true rfl) d_V_touch_13 (fun H locs hP hS => ?_)
    rw [show j_V_touch n V k a2 a3 = ((j_V_trapped V 1).1, (j_V_trapped V 1).2) from by rw [j_V_touch, if_pos c8]]
    exact x_iret S hr hlk hP hS d_V_touch_16
/-- PageVault.number(IIII)I -/
def j_V_number (n : Nat) (V : VS) (a1 : Int32) (a2 : Int32) (a3 : Int32) (a4 : Int32) : Int32 × VS :=
  if (j_V_isStraight a2 a3) = 0 then
    (0, (j_V_trapped (s_trap V 0) 2).2)
  else
    oc (j_V_find (s_trap V 0) a1) (
      if ((j_V_touchN (s_trap V 0) a2 a4).1) = (-1) then
        (0, (j_V_touchN (s_trap V 0) a2 a4).2)
      else
        (j_F_read n ((j_V_touchN (s_trap V 0) a2 a4).2) ((j_V_touchN (s_trap V 0) a2 a4).1) a2 a3, (j_V_touchN (s_trap V 0) a2 a4).2)) (fun k1 =>
      if ((j_V_touch n (s_trap V 0) k1 a2 a4).1) = (-1) then
        (0, (j_V_touch n (s_trap V 0) k1 a2 a4).2)
      else
        (j_F_read n ((j_V_touch n (s_trap V 0) k1 a2 a4).2) ((j_V_touch n (s_trap V 0) k1 a2 a4).1) a2 a3, (j_V_touch n (s_trap V 0) k1 a2 a4).2))
set_option maxHeartbeats 4000000 in
set_option maxRecDepth 100000 in
theorem c_V_number (hE : xE ad n) (V : VS) (a1 : Int32) (a2 : Int32) (a3 : Int32) (a4 : Int32) : XC l D ad n cI cS cQ y_V_number b_V_number 6 (some .int) ({ frames := 6, cells := 0, slots := 0, locals := 156 }) [.ref (ad 0), .int a1, .int a2, .int a3, .int a4] V (some (.int (j_V_number n V a1 a2 a3 a4).1)) ((j_V_number n V a1 a2 a3 a4).2) := by
  refine FC_intro (by decide) (Nat.le_of_ble_eq_true rfl) ?_
  intro p e s m below meth c ls S hr hlk hK hP hS hl
  have S : CallFix p m c b_V_number 6 s _ TG "PageVault" := S
  have hl : lv_has ls 6 [(0, .ref (ad 0)), (1, .int a1), (2, .int a2), (3, .int a3), (4, .int a4)] := hl
  refine lv_aload_n S.1 S.2.1 d_V_number_0 rfl (lv_at hl 0 rfl) ?_
  refine lv_iconst (v := 0) S.1 S.2.1 d_V_number_1 (by decide) ?_
  refine x_put_trap S hE hK hP hS tg_289 d_V_number_2 (fun H locs hP hS => ?_)
  refine lv_iload_n S.1 S.2.1 d_V_number_5 rfl (lv_at hl 2 rfl) ?_
  refine lv_iload_n S.1 S.2.1 d_V_number_6 rfl (lv_at hl 3 rfl) ?_
  refine x_callSi (As := [.int a2, .int a3]) (rest := []) S hK ci_V_107 (c_V_isStraight l D ad n cI cS cQ hE (s_trap V 0) a2 a3) hP hS ⟨rfl, rfl, Nat.le_of_ble_eq_true rfl, Nat.le_of_ble_eq_true rfl⟩ rfl hl.1 rfl (Nat.le_of_ble_eq_true rfl) d_V_number_7 (fun H locs hP hS => ?_)
  refine lv_if_ne (tgt := 21) S.1 S.2.1 d_V_number_10 (by decide) (fun c10 => ?_) (fun c10 => ?_)
  · refine lv_aload_n S.1 S.2.1 d_V_number_21 rfl (lv_at hl 0 rfl) ?_
    refine lv_aload_n S.1 S.2.1 d_V_number_22 rfl (lv_at hl 0 rfl) ?_
    refine lv_iload_n S.1 S.2.1 d_V_number_23 rfl (lv_at hl 1 rfl) ?_
    refine x_callVq (As := [.int a1]) (rest := [.ref (ad 0)]) S hK ci_V_50 (c_V_find l D ad n cI cS cQ hE (s_trap V 0) a1) (x_recV hK hP) hP hS ⟨rfl, rfl, Nat.le_of_ble_eq_true rfl, Nat.le_of_ble_eq_true rfl⟩ rfl hl.1 rfl (Nat.le_of_ble_eq_true rfl) d_V_number_24 (fun hk1 H locs hP hS => ?_) (fun k1 hk1 H locs hP hS => ?_)
    · refine lv_iload_n S.1 S.2.1 d_V_number_27 rfl (lv_at hl 2 rfl) ?_
      refine lv_iload S.1 S.2.1 d_V_number_28 (lv_at hl 4 rfl) ?_
      refine x_callVi (As := [.null, .int a2, .int a4]) (rest := []) S hK ci_V_138 (c_V_touchN l D ad n cI cS cQ hE (s_trap V 0) a2 a4) (x_recV hK hP) hP hS ⟨rfl, rfl, Nat.le_of_ble_eq_true rfl, Nat.le_of_ble_eq_true rfl⟩ rfl hl.1 rfl (Nat.le_of_ble_eq_true rfl) d_V_number_30 (fun H locs hP hS => ?_)
      refine lv_istore (lv' := [(5, .int ((j_V_touchN (s_trap V 0) a2 a4).1)), (0, .ref (ad 0)), (1, .int a1), (2, .int a2), (3, .int a3), (4, .int a4)]) S.1 S.2.1 d_V_number_33 hl (by decide) rfl (fun ls hl => ?_)
      refine lv_iload S.1 S.2.1 d_V_number_35 (lv_at hl 0 rfl) ?_
      refine lv_iconst (v := (-1)) S.1 S.2.1 d_V_number_37 (by decide) ?_
      refine lv_icmp_ne (tgt := 45) S.1 S.2.1 d_V_number_38 (by decide) (fun c38 => ?_) (fun c38 => ?_)
      · refine lv_aload_n S.1 S.2.1 d_V_number_45 rfl (lv_at hl 1 rfl) ?_
        refine x_get_frames S hK hP tg_49 d_V_number_46 ?_
        refine lv_iload S.1 S.2.1 d_V_number_49 (lv_at hl 0 rfl) ?_
        refine lv_iload_n S.1 S.2.1 d_V_number_51 rfl (lv_at hl 3 rfl) ?_
        refine lv_iload_n S.1 S.2.1 d_V_number_52 rfl (lv_at hl 4 rfl) ?_
        refine x_callVi (As := [.int ((j_V_touchN (s_trap V 0) a2 a4).1), .int a2, .int a3]) (rest := []) S hK ci_V_142 (c_F_read l D ad n cI cS cQ hE ((j_V_touchN (s_trap V 0) a2 a4).2) ((j_V_touchN (s_trap V 0) a2 a4).1) a2 a3) (x_recF hK hP) hP hS ⟨rfl, rfl, Nat.le_of_ble_eq_true rfl, Nat.le_of_ble_eq_true rfl⟩ rfl hl.1 rfl (Nat.le_of_ble_eq_true rfl) d_V_number_53 (fun H locs hP hS => ?_)
        rw [show j_V_number n V a1 a2 a3 a4 = (j_F_read n ((j_V_touchN (s_trap V 0) a2 a4).2) ((j_V_touchN (s_trap V 0) a2 a4).1) a2 a3, (j_V_touchN (s_trap V 0) a2 a4).2) from by rw [j_V_number, if_neg c10, oc_none hk1, if_neg c38]]
        exact x_iret S hr hlk hP hS d_V_number_56
      · refine lv_iconst (v := 0) S.1 S.2.1 d_V_number_41 (by decide) ?_
        refine lv_goto (tgt := 56) S.1 S.2.1 d_V_number_42 (by decide) ?_
        rw [show j_V_number n V a1 a2 a3 a4 = (0, (j_V_touchN (s_trap V 0) a2 a4).2) from by rw [j_V_number, if_neg c10, oc_none hk1, if_pos c38]]
        exact x_iret S hr hlk hP hS d_V_number_56
    · refine lv_iload_n S.1 S.2.1 d_V_number_27 rfl (lv_at hl 2 rfl) ?_
      refine lv_iload S.1 S.2.1 d_V_number_28 (lv_at hl 4 rfl) ?_
      refine x_callVi (As := [.ref (ad (6 + k1)), .int a2, .int a4]) (rest := []) S hK ci_V_138 (c_V_touch l D ad n cI cS cQ hE (s_trap V 0) k1 (find_lt hk1) a2 a4) (x_recV hK hP) hP hS ⟨rfl, rfl, Nat.le_of_ble_eq_true rfl, Nat.le_of_ble_eq_true rfl⟩ rfl hl.1 rfl (Nat.le_of_ble_eq_true rfl) d_V_number_30 (fun H locs hP hS => ?_)
      refine lv_istore (lv' := [(5, .int ((j_V_touch n (s_trap V 0) k1 a2 a4).1)), (0, .ref (ad 0)), (1, .int a1), (2, .int a2), (3, .int a3), (4, .int a4)]) S.1 S.2.1 d_V_number_33 hl (by decide) rfl (fun ls hl => ?_)
      refine lv_iload S.1 S.2.1 d_V_number_35 (lv_at hl 0 rfl) ?_
      refine lv_iconst (v := (-1)) S.1 S.2.1 d_V_number_37 (by decide) ?_
      refine lv_icmp_ne (tgt := 45) S.1 S.2.1 d_V_number_38 (by decide) (fun c38 => ?_) (fun c38 => ?_)
      · refine lv_aload_n S.1 S.2.1 d_V_number_45 rfl (lv_at hl 1 rfl) ?_
        refine x_get_frames S hK hP tg_49 d_V_number_46 ?_
        refine lv_iload S.1 S.2.1 d_V_number_49 (lv_at hl 0 rfl) ?_
        refine lv_iload_n S.1 S.2.1 d_V_number_51 rfl (lv_at hl 3 rfl) ?_
        refine lv_iload_n S.1 S.2.1 d_V_number_52 rfl (lv_at hl 4 rfl) ?_
        refine x_callVi (As := [.int ((j_V_touch n (s_trap V 0) k1 a2 a4).1), .int a2, .int a3]) (rest := []) S hK ci_V_142 (c_F_read l D ad n cI cS cQ hE ((j_V_touch n (s_trap V 0) k1 a2 a4).2) ((j_V_touch n (s_trap V 0) k1 a2 a4).1) a2 a3) (x_recF hK hP) hP hS ⟨rfl, rfl, Nat.le_of_ble_eq_true rfl, Nat.le_of_ble_eq_true rfl⟩ rfl hl.1 rfl (Nat.le_of_ble_eq_true rfl) d_V_number_53 (fun H locs hP hS => ?_)
        rw [show j_V_number n V a1 a2 a3 a4 = (j_F_read n ((j_V_touch n (s_trap V 0) k1 a2 a4).2) ((j_V_touch n (s_trap V 0) k1 a2 a4).1) a2 a3, (j_V_touch n (s_trap V 0) k1 a2 a4).2) from by rw [j_V_number, if_neg c10, oc_some hk1, if_neg c38]]
        exact x_iret S hr hlk hP hS d_V_number_56
      · refine lv_iconst (v := 0) S.1 S.2.1 d_V_number_41 (by decide) ?_
        refine lv_goto (tgt := 56) S.1 S.2.1 d_V_number_42 (by decide) ?_
        rw [show j_V_number n V a1 a2 a3 a4 = (0, (j_V_touch n (s_trap V 0) k1 a2 a4).2) from by rw [j_V_number, if_neg c10, oc_some hk1, if_pos c38]]
        exact x_iret S hr hlk hP hS d_V_number_56
  · refine lv_aload_n S.1 S.2.1 d_V_number_13 rfl (lv_at hl 0 rfl) ?_
    refine lv_iconst (v := 2) S.1 S.2.1 d_V_number_14 (by decide) ?_
    refine x_callVi (As := [.int 2]) (rest := []) S hK ci_V_111 (c_V_trapped l D ad n cI cS cQ hE (s_trap V 0) 2) (x_recV hK hP) hP hS ⟨rfl, rfl, Nat.le_of_ble_eq_true rfl, Nat.le_of_ble_eq_true rfl⟩ rfl hl.1 rfl (Nat.le_of_ble_eq_true rfl) d_V_number_15 (fun H locs hP hS => ?_)
    refine lv_pop S.1 S.2.1 d_V_number_18 rfl ?_
    refine lv_iconst (v := 0) S.1 S.2.1 d_V_number_19 (by decide) ?_
    rw [show j_V_number n V a1 a2 a3 a4 = (0, (j_V_trapped (s_trap V 0) 2).2) from by rw [j_V_number, if_pos c10]]
    exact x_iret S hr hlk hP hS d_V_number_20
/-- PageVault.load(III)I -/
def j_V_load (n : Nat) (V : VS) (a1 : Int32) (a2 : Int32) (a3 : Int32) : Int32 × VS :=
  ((j_V_number n V a1 a2 a3 1).1, (j_V_number n V a1 a2 a3 1).2)
set_option maxHeartbeats 4000000 in
set_option maxRecDepth 100000 in
theorem c_V_load (hE : xE ad n) (V : VS) (a1 : Int32) (a2 : Int32) (a3 : Int32) : XC l D ad n cI cS cQ y_V_load b_V_load 4 (some .int) ({ frames := 7, cells := 0, slots := 0, locals := 181 }) [.ref (ad 0), .int a1, .int a2, .int a3] V (some (.int (j_V_load n V a1 a2 a3).1)) ((j_V_load n V a1 a2 a3).2) := by
  refine FC_intro (by decide) (Nat.le_of_ble_eq_true rfl) ?_
  intro p e s m below meth c ls S hr hlk hK hP hS hl
  have S : CallFix p m c b_V_load 4 s _ TG "PageVault" := S
  have hl : lv_has ls 4 [(0, .ref (ad 0)), (1, .int a1), (2, .int a2), (3, .int a3)] := hl
  refine lv_aload_n S.1 S.2.1 d_V_load_0 rfl (lv_at hl 0 rfl) ?_
  refine lv_iload_n S.1 S.2.1 d_V_load_1 rfl (lv_at hl 1 rfl) ?_
  refine lv_iload_n S.1 S.2.1 d_V_load_2 rfl (lv_at hl 2 rfl) ?_
  refine lv_iload_n S.1 S.2.1 d_V_load_3 rfl (lv_at hl 3 rfl) ?_
  refine lv_iconst (v := 1) S.1 S.2.1 d_V_load_4 (by decide) ?_
  refine x_callVi (As := [.int a1, .int a2, .int a3, .int 1]) (rest := []) S hK ci_V_99 (c_V_number l D ad n cI cS cQ hE V a1 a2 a3 1) (x_recV hK hP) hP hS ⟨rfl, rfl, Nat.le_of_ble_eq_true rfl, Nat.le_of_ble_eq_true rfl⟩ rfl hl.1 rfl (Nat.le_of_ble_eq_true rfl) d_V_load_5 (fun H locs hP hS => ?_)
  rw [show j_V_load n V a1 a2 a3 = ((j_V_number n V a1 a2 a3 1).1, (j_V_number n V a1 a2 a3 1).2) from by rw [j_V_load]]
  exact x_iret S hr hlk hP hS d_V_load_8
/-- PageVault.fetch(II)I -/
def j_V_fetch (n : Nat) (V : VS) (a1 : Int32) (a2 : Int32) : Int32 × VS :=
  ((j_V_number n V a1 a2 4 4).1, (j_V_number n V a1 a2 4 4).2)
set_option maxHeartbeats 4000000 in
set_option maxRecDepth 100000 in
theorem c_V_fetch (hE : xE ad n) (V : VS) (a1 : Int32) (a2 : Int32) : XC l D ad n cI cS cQ y_V_fetch b_V_fetch 3 (some .int) ({ frames := 7, cells := 0, slots := 0, locals := 181 }) [.ref (ad 0), .int a1, .int a2] V (some (.int (j_V_fetch n V a1 a2).1)) ((j_V_fetch n V a1 a2).2) := by
  refine FC_intro (by decide) (Nat.le_of_ble_eq_true rfl) ?_
  intro p e s m below meth c ls S hr hlk hK hP hS hl
  have S : CallFix p m c b_V_fetch 3 s _ TG "PageVault" := S
  have hl : lv_has ls 3 [(0, .ref (ad 0)), (1, .int a1), (2, .int a2)] := hl
  refine lv_aload_n S.1 S.2.1 d_V_fetch_0 rfl (lv_at hl 0 rfl) ?_
  refine lv_iload_n S.1 S.2.1 d_V_fetch_1 rfl (lv_at hl 1 rfl) ?_
  refine lv_iload_n S.1 S.2.1 d_V_fetch_2 rfl (lv_at hl 2 rfl) ?_
  refine lv_iconst (v := 4) S.1 S.2.1 d_V_fetch_3 (by decide) ?_
  refine lv_iconst (v := 4) S.1 S.2.1 d_V_fetch_4 (by decide) ?_
  refine x_callVi (As := [.int a1, .int a2, .int 4, .int 4]) (rest := []) S hK ci_V_99 (c_V_number l D ad n cI cS cQ hE V a1 a2 4 4) (x_recV hK hP) hP hS ⟨rfl, rfl, Nat.le_of_ble_eq_true rfl, Nat.le_of_ble_eq_true rfl⟩ rfl hl.1 rfl (Nat.le_of_ble_eq_true rfl) d_V_fetch_5 (fun H locs hP hS => ?_)
  rw [show j_V_fetch n V a1 a2 = ((j_V_number n V a1 a2 4 4).1, (j_V_number n V a1 a2 4 4).2) from by rw [j_V_fetch]]
  exact x_iret S hr hlk hP hS d_V_fetch_8
/-- PageVault$Frames.write(IIII)V -/
def j_F_write (n : Nat) (V : VS) (a1 : Int32) (a2 : Int32) (a3 : Int32) (a4 : Int32) : VS :=
  j_F_setWord n V a1 (j_F_wordOf a2) (((j_F_word n V a1 (j_F_wordOf a2)) &&& (((j_F_mask a3) <<< ((j_F_bitOf a2) &&& 31)) ^^^ (-1))) ||| ((a4 &&& (j_F_mask a3)) <<< ((j_F_bitOf a2) &&& 31)))
set_option maxHeartbeats 4000000 in
set_option maxRecDepth 100000 in
theorem c_F_write (hE : xE ad n) (V : VS) (a1 : Int32) (a2 : Int32) (a3 : Int32) (a4 : Int32) : XC l D ad n cI cS cQ y_F_write b_F_write 6 none ({ frames := 1, cells := 0, slots := 0, locals := 23 }) [.ref (ad 1), .int a1, .int a2, .int a3, .int a4] V none (j_F_write n V a1 a2 a3 a4) := by
  refine FC_intro (by decide) (Nat.le_of_ble_eq_true rfl) ?_
  intro p e s m below meth c ls S hr hlk hK hP hS hl
  have S : CallFix p m c b_F_write 6 s _ TG "PageVault$Frames" := S
  have hl : lv_has ls 6 [(0, .ref (ad 1)), (1, .int a1), (2, .int a2), (3, .int a3), (4, .int a4)] := hl
  refine lv_aload_n S.1 S.2.1 d_F_write_0 rfl (lv_at hl 0 rfl) ?_
  refine lv_iload_n S.1 S.2.1 d_F_write_1 rfl (lv_at hl 1 rfl) ?_
  refine lv_iload_n S.1 S.2.1 d_F_write_2 rfl (lv_at hl 2 rfl) ?_
  refine x_callSi (As := [.int a2]) (rest := [.int a1, .ref (ad 1)]) S hK ci_F_40 (c_F_wordOf l D ad n cI cS cQ hE V a2) hP hS ⟨rfl, rfl, Nat.le_of_ble_eq_true rfl, Nat.le_of_ble_eq_true rfl⟩ rfl hl.1 rfl (Nat.le_of_ble_eq_true rfl) d_F_write_3 (fun H locs hP hS => ?_)
  refine x_callVi (As := [.int a1, .int (j_F_wordOf a2)]) (rest := []) S hK ci_F_44 (c_F_word l D ad n cI cS cQ hE V a1 (j_F_wordOf a2)) (x_recF hK hP) hP hS ⟨rfl, rfl, Nat.le_of_ble_eq_true rfl, Nat.le_of_ble_eq_true rfl⟩ rfl hl.1 rfl (Nat.le_of_ble_eq_true rfl) d_F_write_6 (fun H locs hP hS => ?_)
  refine lv_iload_n S.1 S.2.1 d_F_write_9 rfl (lv_at hl 3 rfl) ?_
  refine x_callSi (As := [.int a3]) (rest := [.int (j_F_word n V a1 (j_F_wordOf a2))]) S hK ci_F_51 (c_F_mask l D ad n cI cS cQ hE V a3) hP hS ⟨rfl, rfl, Nat.le_of_ble_eq_true rfl, Nat.le_of_ble_eq_true rfl⟩ rfl hl.1 rfl (Nat.le_of_ble_eq_true rfl) d_F_write_10 (fun H locs hP hS => ?_)
  refine lv_iload_n S.1 S.2.1 d_F_write_13 rfl (lv_at hl 2 rfl) ?_
  refine x_callSi (As := [.int a2]) (rest := [.int (j_F_mask a3), .int (j_F_word n V a1 (j_F_wordOf a2))]) S hK ci_F_48 (c_F_bitOf l D ad n cI cS cQ hE V a2) hP hS ⟨rfl, rfl, Nat.le_of_ble_eq_true rfl, Nat.le_of_ble_eq_true rfl⟩ rfl hl.1 rfl (Nat.le_of_ble_eq_true rfl) d_F_write_14 (fun H locs hP hS => ?_)
  refine lv_ishl S.1 S.2.1 d_F_write_17 ?_
  refine lv_iconst (v := (-1)) S.1 S.2.1 d_F_write_18 (by decide) ?_
  refine lv_ixor S.1 S.2.1 d_F_write_19 ?_
  refine lv_iand S.1 S.2.1 d_F_write_20 ?_
  refine lv_istore (lv' := [(5, .int ((j_F_word n V a1 (j_F_wordOf a2)) &&& (((j_F_mask a3) <<< ((j_F_bitOf a2) &&& 31)) ^^^ (-1)))), (0, .ref (ad 1)), (1, .int a1), (2, .int a2), (3, .int a3), (4, .int a4)]) S.1 S.2.1 d_F_write_21 hl (by decide) rfl (fun ls hl => ?_)
  refine lv_aload_n S.1 S.2.1 d_F_write_23 rfl (lv_at hl 1 rfl) ?_
  refine lv_iload_n S.1 S.2.1 d_F_write_24 rfl (lv_at hl 2 rfl) ?_
  refine lv_iload_n S.1 S.2.1 d_F_write_25 rfl (lv_at hl 3 rfl) ?_
  refine x_callSi (As := [.int a2]) (rest := [.int a1, .ref (ad 1)]) S hK ci_F_40 (c_F_wordOf l D ad n cI cS cQ hE V a2) hP hS ⟨rfl, rfl, Nat.le_of_ble_eq_true rfl, Nat.le_of_ble_eq_true rfl⟩ rfl hl.1 rfl (Nat.le_of_ble_eq_true rfl) d_F_write_26 (fun H locs hP hS => ?_)
  refine lv_iload S.1 S.2.1 d_F_write_29 (lv_at hl 0 rfl) ?_
  refine lv_iload S.1 S.2.1 d_F_write_31 (lv_at hl 5 rfl) ?_
  refine lv_iload_n S.1 S.2.1 d_F_write_33 rfl (lv_at hl 4 rfl) ?_
  refine x_callSi (As := [.int a3]) (rest := [.int a4, .int ((j_F_word n V a1 (j_F_wordOf a2)) &&& (((j_F_mask a3) <<< ((j_F_bitOf a2) &&& 31)) ^^^ (-1))), .int (j_F_wordOf a2), .int a1, .ref (ad 1)]) S hK ci_F_51 (c_F_mask l D ad n cI cS cQ hE V a3) hP hS ⟨rfl, rfl, Nat.le_of_ble_eq_true rfl, Nat.le_of_ble_eq_true rfl⟩ rfl hl.1 rfl (Nat.le_of_ble_eq_true rfl) d_F_write_34 (fun H locs hP hS => ?_)
  refine lv_iand S.1 S.2.1 d_F_write_37 ?_
  refine lv_iload_n S.1 S.2.1 d_F_write_38 rfl (lv_at hl 3 rfl) ?_
  refine x_callSi (As := [.int a2]) (rest := [.int (a4 &&& (j_F_mask a3)), .int ((j_F_word n V a1 (j_F_wordOf a2)) &&& (((j_F_mask a3) <<< ((j_F_bitOf a2) &&& 31)) ^^^ (-1))), .int (j_F_wordOf a2), .int a1, .ref (ad 1)]) S hK ci_F_48 (c_F_bitOf l D ad n cI cS cQ hE V a2) hP hS ⟨rfl, rfl, Nat.le_of_ble_eq_true rfl, Nat.le_of_ble_eq_true rfl⟩ rfl hl.1 rfl (Nat.le_of_ble_eq_true rfl) d_F_write_39 (fun H locs hP hS => ?_)
  refine lv_ishl S.1 S.2.1 d_F_write_42 ?_
  refine lv_ior S.1 S.2.1 d_F_write_43 ?_
  refine x_callVv (As := [.int a1, .int (j_F_wordOf a2), .int (((j_F_word n V a1 (j_F_wordOf a2)) &&& (((j_F_mask a3) <<< ((j_F_bitOf a2) &&& 31)) ^^^ (-1))) ||| ((a4 &&& (j_F_mask a3)) <<< ((j_F_bitOf a2) &&& 31)))]) (rest := []) S hK ci_F_54 (c_F_setWord l D ad n cI cS cQ hE V a1 (j_F_wordOf a2) (((j_F_word n V a1 (j_F_wordOf a2)) &&& (((j_F_mask a3) <<< ((j_F_bitOf a2) &&& 31)) ^^^ (-1))) ||| ((a4 &&& (j_F_mask a3)) <<< ((j_F_bitOf a2) &&& 31)))) (x_recF hK hP) hP hS ⟨rfl, rfl, Nat.le_of_ble_eq_true rfl, Nat.le_of_ble_eq_true rfl⟩ rfl hl.1 rfl (Nat.le_of_ble_eq_true rfl) d_F_write_44 (fun H locs hP hS => ?_)
  rw [show j_F_write n V a1 a2 a3 a4 = j_F_setWord n V a1 (j_F_wordOf a2) (((j_F_word n V a1 (j_F_wordOf a2)) &&& (((j_F_mask a3) <<< ((j_F_bitOf a2) &&& 31)) ^^^ (-1))) ||| ((a4 &&& (j_F_mask a3)) <<< ((j_F_bitOf a2) &&& 31))) from by rw [j_F_write]]
  exact x_vret S hr hlk hP hS d_F_write_47
/-- PageVault.write(LPageVault$Space;III)Z -/
def j_V_writeN (n : Nat) (V : VS) (a2 : Int32) (a3 : Int32) (a4 : Int32) : Int32 × VS :=
  if ((j_V_touchN V a2 2).1) = (-1) then
    (0, (j_V_touchN V a2 2).2)
  else
    (1, j_F_write n ((j_V_touchN V a2 2).2) ((j_V_touchN V a2 2).1) a2 a3 a4)
theorem z_writeN {n : Nat} {V : VS} {a2 a3 a4 : Int32} : narrow .boolean (.int (j_V_writeN n V a2 a3 a4).1) = .int (j_V_writeN n V a2 a3 a4).1 := by
  unfold j_V_writeN
  split <;> dsimp only <;> rfl
set_option maxHeartbeats 4000000 in
set_option maxRecDepth 100000 in
theorem c_V_writeN (hE : xE ad n) (V : VS) (a2 : Int32) (a3 : Int32) (a4 : Int32) : XC l D ad n cI cS cQ y_V_write b_V_write 6 (some .boolean) ({ frames := 6, cells := 0, slots := 0, locals := 156 }) [.ref (ad 0), .null, .int a2, .int a3, .int a4] V (some (.int (j_V_writeN n V a2 a3 a4).1)) ((j_V_writeN n V a2 a3 a4).2) := by
  refine FC_intro (by decide) (Nat.le_of_ble_eq_true rfl) ?_
  intro p e s m below meth c ls S hr hlk hK hP hS hl
  have S : CallFix p m c b_V_write 6 s _ TG "PageVault" := S
  have hl : lv_has ls 6 [(0, .ref (ad 0)), (1, .null), (2, .int a2), (3, .int a3), (4, .int a4)] := hl
  refine lv_aload_n S.1 S.2.1 d_V_write_0 rfl (lv_at hl 0 rfl) ?_
  refine lv_aload_nN S.1 S.2.1 d_V_write_1 rfl (lv_at hl 1 rfl) ?_
  refine lv_iload_n S.1 S.2.1 d_V_write_2 rfl (lv_at hl 2 rfl) ?_
  refine lv_iconst (v := 2) S.1 S.2.1 d_V_write_3 (by decide) ?_
  refine x_callVi (As := [.null, .int a2, .int 2]) (rest := []) S hK ci_V_138 (c_V_touchN l D ad n cI cS cQ hE V a2 2) (x_recV hK hP) hP hS ⟨rfl, rfl, Nat.le_of_ble_eq_true rfl, Nat.le_of_ble_eq_true rfl⟩ rfl hl.1 rfl (Nat.le_of_ble_eq_true rfl) d_V_write_4 (fun H locs hP hS => ?_)
  refine lv_istore (lv' := [(5, .int ((j_V_touchN V a2 2).1)), (0, .ref (ad 0)), (1, .null), (2, .int a2), (3, .int a3), (4, .int a4)]) S.1 S.2.1 d_V_write_7 hl (by decide) rfl (fun ls hl => ?_)
  refine lv_iload S.1 S.2.1 d_V_write_9 (lv_at hl 0 rfl) ?_
  refine lv_iconst (v := (-1)) S.1 S.2.1 d_V_write_11 (by decide) ?_
  refine lv_icmp_ne (tgt := 17) S.1 S.2.1 d_V_write_12 (by decide) (fun c12 => ?_) (fun c12 => ?_)
  · refine lv_aload_n S.1 S.2.1 d_V_write_17 rfl (lv_at hl 1 rfl) ?_
    refine x_get_frames S hK hP tg_49 d_V_write_18 ?_
    refine lv_iload S.1 S.2.1 d_V_write_21 (lv_at hl 0 rfl) ?_
    refine lv_iload_n S.1 S.2.1 d_V_write_23 rfl (lv_at hl 3 rfl) ?_
    refine lv_iload_n S.1 S.2.1 d_V_write_24 rfl (lv_at hl 4 rfl) ?_
    refine lv_iload S.1 S.2.1 d_V_write_25 (lv_at hl 5 rfl) ?_
    refine x_callVv (As := [.int ((j_V_touchN V a2 2).1), .int a2, .int a3, .int a4]) (rest := []) S hK ci_V_146 (c_F_write l D ad n cI cS cQ hE ((j_V_touchN V a2 2).2) ((j_V_touchN V a2 2).1) a2 a3 a4) (x_recF hK hP) hP hS ⟨rfl, rfl, Nat.le_of_ble_eq_true rfl, Nat.le_of_ble_eq_true rfl⟩ rfl hl.1 rfl (Nat.le_of_ble_eq_true rfl) d_V_write_27 (fun H locs hP hS => ?_)
    refine lv_iconst (v := 1) S.1 S.2.1 d_V_write_30 (by decide) ?_
    rw [show j_V_writeN n V a2 a3 a4 = (1, j_F_write n ((j_V_touchN V a2 2).2) ((j_V_touchN V a2 2).1) a2 a3 a4) from by rw [j_V_writeN, if_neg c12]]
    exact x_zret (v := 1) S hr hlk rfl hP hS d_V_write_31
  · refine lv_iconst (v := 0) S.1 S.2.1 d_V_write_15 (by decide) ?_
    rw [show j_V_writeN n V a2 a3 a4 = (0, (j_V_touchN V a2 2).2) from by rw [j_V_writeN, if_pos c12]]
    exact x_zret (v := 0) S hr hlk rfl hP hS d_V_write_16
/-- PageVault.write(LPageVault$Space;III)Z -/
def j_V_write (n : Nat) (V : VS) (k : Nat) (a2 : Int32) (a3 : Int32) (a4 : Int32) : Int32 × VS :=
  if ((j_V_touch n V k a2 2).1) = (-1) then
    (0, (j_V_touch n V k a2 2).2)
  else
    (1, j_F_write n ((j_V_touch n V k a2 2).2) ((j_V_touch n V k a2 2).1) a2 a3 a4)
theorem z_write {n : Nat} {V : VS} {k : Nat} {a2 a3 a4 : Int32} : narrow .boolean (.int (j_V_write n V k a2 a3 a4).1) = .int (j_V_write n V k a2 a3 a4).1 := by
  unfold j_V_write
  split <;> dsimp only <;> rfl
set_option maxHeartbeats 4000000 in
set_option maxRecDepth 100000 in
theorem c_V_write (hE : xE ad n) (V : VS) (k : Nat) (hk : k < 16) (a2 : Int32) (a3 : Int32) (a4 : Int32) : XC l D ad n cI cS cQ y_V_write b_V_write 6 (some .boolean) ({ frames := 6, cells := 0, slots := 0, locals := 156 }) [.ref (ad 0), .ref (ad (6 + k)), .int a2, .int a3, .int a4] V (some (.int (j_V_write n V k a2 a3 a4).1)) ((j_V_write n V k a2 a3 a4).2) := by
  refine FC_intro (by decide) (Nat.le_of_ble_eq_true rfl) ?_
  intro p e s m below meth c ls S hr hlk hK hP hS hl
  have S : CallFix p m c b_V_write 6 s _ TG "PageVault" := S
  have hl : lv_has ls 6 [(0, .ref (ad 0)), (1, .ref (ad (6 + k))), (2, .int a2), (3, .int a3), (4, .int a4)] := hl
  refine lv_aload_n S.1 S.2.1 d_V_write_0 rfl (lv_at hl 0 rfl) ?_
  refine lv_aload_n S.1 S.2.1 d_V_write_1 rfl (lv_at hl 1 rfl) ?_
  refine lv_iload_n S.1 S.2.1 d_V_write_2 rfl (lv_at hl 2 rfl) ?_
  refine lv_iconst (v := 2) S.1 S.2.1 d_V_write_3 (by decide) ?_
  refine x_callVi (As := [.ref (ad (6 + k)), .int a2, .int 2]) (rest := []) S hK ci_V_138 (c_V_touch l D ad n cI cS cQ hE V k hk a2 2) (x_recV hK hP) hP hS ⟨rfl, rfl, Nat.le_of_ble_eq_true rfl, Nat.le_of_ble_eq_true rfl⟩ rfl hl.1 rfl (Nat.le_of_ble_eq_true rfl) d_V_write_4 (fun H locs hP hS => ?_)
  refine lv_istore (lv' := [(5, .int ((j_V_touch n V k a2 2).1)), (0, .ref (ad 0)), (1, .ref (ad (6 + k))), (2, .int a2), (3, .int a3), (4, .int a4)]) S.1 S.2.1 d_V_write_7 hl (by decide) rfl (fun ls hl => ?_)
  refine lv_iload S.1 S.2.1 d_V_write_9 (lv_at hl 0 rfl) ?_
  refine lv_iconst (v := (-1)) S.1 S.2.1 d_V_write_11 (by decide) ?_
  refine lv_icmp_ne (tgt := 17) S.1 S.2.1 d_V_write_12 (by decide) (fun c12 => ?_) (fun c12 => ?_)
  · refine lv_aload_n S.1 S.2.1 d_V_write_17 rfl (lv_at hl 1 rfl) ?_
    refine x_get_frames S hK hP tg_49 d_V_write_18 ?_
    refine lv_iload S.1 S.2.1 d_V_write_21 (lv_at hl 0 rfl) ?_
    refine lv_iload_n S.1 S.2.1 d_V_write_23 rfl (lv_at hl 3 rfl) ?_
    refine lv_iload_n S.1 S.2.1 d_V_write_24 rfl (lv_at hl 4 rfl) ?_
    refine lv_iload S.1 S.2.1 d_V_write_25 (lv_at hl 5 rfl) ?_
    refine x_callVv (As := [.int ((j_V_touch n V k a2 2).1), .int a2, .int a3, .int a4]) (rest := []) S hK ci_V_146 (c_F_write l D ad n cI cS cQ hE ((j_V_touch n V k a2 2).2) ((j_V_touch n V k a2 2).1) a2 a3 a4) (x_recF hK hP) hP hS ⟨rfl, rfl, Nat.le_of_ble_eq_true rfl, Nat.le_of_ble_eq_true rfl⟩ rfl hl.1 rfl (Nat.le_of_ble_eq_true rfl) d_V_write_27 (fun H locs hP hS => ?_)
    refine lv_iconst (v := 1) S.1 S.2.1 d_V_write_30 (by decide) ?_
    rw [show j_V_write n V k a2 a3 a4 = (1, j_F_write n ((j_V_touch n V k a2 2).2) ((j_V_touch n V k a2 2).1) a2 a3 a4) from by rw [j_V_write, if_neg c12]]
    exact x_zret (v := 1) S hr hlk rfl hP hS d_V_write_31
  · refine lv_iconst (v := 0) S.1 S.2.1 d_V_write_15 (by decide) ?_
    rw [show j_V_write n V k a2 a3 a4 = (0, (j_V_touch n V k a2 2).2) from by rw [j_V_write, if_pos c12]]
    exact x_zret (v := 0) S hr hlk rfl hP hS d_V_write_16
/-- PageVault.store(IIII)Z -/
def j_V_store (n : Nat) (V : VS) (a1 : Int32) (a2 : Int32) (a3 : Int32) (a4 : Int32) : Int32 × VS :=
  if (j_V_isStraight a2 a3) = 0 then
    (0, (j_V_trapped (s_trap V 0) 2).2)
  else
    oc (j_V_find (s_trap V 0) a1) (
      ((j_V_writeN n (s_trap V 0) a2 a3 a4).1, (j_V_writeN n (s_trap V 0) a2 a3 a4).2)) (fun k1 =>
      ((j_V_write n (s_trap V 0) k1 a2 a3 a4).1, (j_V_write n (s_trap V 0) k1 a2 a3 a4).2))
set_option maxHeartbeats 4000000 in
set_option maxRecDepth 100000 in
theorem c_V_store (hE : xE ad n) (V : VS) (a1 : Int32) (a2 : Int32) (a3 : Int32) (a4 : Int32) : XC l D ad n cI cS cQ y_V_store b_V_store 5 (some .boolean) ({ frames := 7, cells := 0, slots := 0, locals := 181 }) [.ref (ad 0), .int a1, .int a2, .int a3, .int a4] V (some (.int (j_V_store n V a1 a2 a3 a4).1)) ((j_V_store n V a1 a2 a3 a4).2) := by
  refine FC_intro (by decide) (Nat.le_of_ble_eq_true rfl) ?_
  intro p e s m below meth c ls S hr hlk hK hP hS hl
  have S : CallFix p m c b_V_store 5 s _ TG "PageVault" := S
  have hl : lv_has ls 5 [(0, .ref (ad 0)), (1, .int a1), (2, .int a2), (3, .int a3), (4, .int a4)] := hl
  refine lv_aload_n S.1 S.2.1 d_V_store_0 rfl (lv_at hl 0 rfl) ?_
  refine lv_iconst (v := 0) S.1 S.2.1 d_V_store_1 (by decide) ?_
  refine x_put_trap S hE hK hP hS tg_289 d_V_store_2 (fun H locs hP hS => ?_)
  refine lv_iload_n S.1 S.2.1 d_V_store_5 rfl (lv_at hl 2 rfl) ?_
  refine lv_iload_n S.1 S.2.1 d_V_store_6 rfl (lv_at hl 3 rfl) ?_
  refine x_callSi (As := [.int a2, .int a3]) (rest := []) S hK ci_V_107 (c_V_isStraight l D ad n cI cS cQ hE (s_trap V 0) a2 a3) hP hS ⟨rfl, rfl, Nat.le_of_ble_eq_true rfl, Nat.le_of_ble_eq_true rfl⟩ rfl hl.1 rfl (Nat.le_of_ble_eq_true rfl) d_V_store_7 (fun H locs hP hS => ?_)
  refine lv_if_ne (tgt := 21) S.1 S.2.1 d_V_store_10 (by decide) (fun c10 => ?_) (fun c10 => ?_)
  · refine lv_aload_n S.1 S.2.1 d_V_store_21 rfl (lv_at hl 0 rfl) ?_
    refine lv_aload_n S.1 S.2.1 d_V_store_22 rfl (lv_at hl 0 rfl) ?_
    refine lv_iload_n S.1 S.2.1 d_V_store_23 rfl (lv_at hl 1 rfl) ?_
    refine x_callVq (As := [.int a1]) (rest := [.ref (ad 0)]) S hK ci_V_50 (c_V_find l D ad n cI cS cQ hE (s_trap V 0) a1) (x_recV hK hP) hP hS ⟨rfl, rfl, Nat.le_of_ble_eq_true rfl, Nat.le_of_ble_eq_true rfl⟩ rfl hl.1 rfl (Nat.le_of_ble_eq_true rfl) d_V_store_24 (fun hk1 H locs hP hS => ?_) (fun k1 hk1 H locs hP hS => ?_)
    · refine lv_iload_n S.1 S.2.1 d_V_store_27 rfl (lv_at hl 2 rfl) ?_
      refine lv_iload_n S.1 S.2.1 d_V_store_28 rfl (lv_at hl 3 rfl) ?_
      refine lv_iload S.1 S.2.1 d_V_store_29 (lv_at hl 4 rfl) ?_
      refine x_callVi (As := [.null, .int a2, .int a3, .int a4]) (rest := []) S hK ci_V_114 (c_V_writeN l D ad n cI cS cQ hE (s_trap V 0) a2 a3 a4) (x_recV hK hP) hP hS ⟨rfl, rfl, Nat.le_of_ble_eq_true rfl, Nat.le_of_ble_eq_true rfl⟩ rfl hl.1 rfl (Nat.le_of_ble_eq_true rfl) d_V_store_31 (fun H locs hP hS => ?_)
      rw [show j_V_store n V a1 a2 a3 a4 = ((j_V_writeN n (s_trap V 0) a2 a3 a4).1, (j_V_writeN n (s_trap V 0) a2 a3 a4).2) from by rw [j_V_store, if_neg c10, oc_none hk1]]
      exact x_zret (v := (j_V_writeN n (s_trap V 0) a2 a3 a4).1) S hr hlk z_writeN hP hS d_V_store_34
    · refine lv_iload_n S.1 S.2.1 d_V_store_27 rfl (lv_at hl 2 rfl) ?_
      refine lv_iload_n S.1 S.2.1 d_V_store_28 rfl (lv_at hl 3 rfl) ?_
      refine lv_iload S.1 S.2.1 d_V_store_29 (lv_at hl 4 rfl) ?_
      refine x_callVi (As := [.ref (ad (6 + k1)), .int a2, .int a3, .int a4]) (rest := []) S hK ci_V_114 (c_V_write l D ad n cI cS cQ hE (s_trap V 0) k1 (find_lt hk1) a2 a3 a4) (x_recV hK hP) hP hS ⟨rfl, rfl, Nat.le_of_ble_eq_true rfl, Nat.le_of_ble_eq_true rfl⟩ rfl hl.1 rfl (Nat.le_of_ble_eq_true rfl) d_V_store_31 (fun H locs hP hS => ?_)
      rw [show j_V_store n V a1 a2 a3 a4 = ((j_V_write n (s_trap V 0) k1 a2 a3 a4).1, (j_V_write n (s_trap V 0) k1 a2 a3 a4).2) from by rw [j_V_store, if_neg c10, oc_some hk1]]
      exact x_zret (v := (j_V_write n (s_trap V 0) k1 a2 a3 a4).1) S hr hlk z_write hP hS d_V_store_34
  · refine lv_aload_n S.1 S.2.1 d_V_store_13 rfl (lv_at hl 0 rfl) ?_
    refine lv_iconst (v := 2) S.1 S.2.1 d_V_store_14 (by decide) ?_
    refine x_callVi (As := [.int 2]) (rest := []) S hK ci_V_111 (c_V_trapped l D ad n cI cS cQ hE (s_trap V 0) 2) (x_recV hK hP) hP hS ⟨rfl, rfl, Nat.le_of_ble_eq_true rfl, Nat.le_of_ble_eq_true rfl⟩ rfl hl.1 rfl (Nat.le_of_ble_eq_true rfl) d_V_store_15 (fun H locs hP hS => ?_)
    refine lv_pop S.1 S.2.1 d_V_store_18 rfl ?_
    refine lv_iconst (v := 0) S.1 S.2.1 d_V_store_19 (by decide) ?_
    rw [show j_V_store n V a1 a2 a3 a4 = (0, (j_V_trapped (s_trap V 0) 2).2) from by rw [j_V_store, if_pos c10]]
    exact x_zret (v := 0) S hr hlk rfl hP hS d_V_store_20
/-- PageVault.trap()I -/
def j_V_trap (V : VS) : Int32 :=
  v_trap V
set_option maxHeartbeats 4000000 in
set_option maxRecDepth 100000 in
theorem c_V_trap (hE : xE ad n) (V : VS)  : XC l D ad n cI cS cQ y_V_trap b_V_trap 1 (some .int) ({ frames := 0, cells := 0, slots := 0, locals := 0 }) [.ref (ad 0)] V (some (.int (j_V_trap V))) (V) := by
  refine FC_intro (by decide) (Nat.le_of_ble_eq_true rfl) ?_
  intro p e s m below meth c ls S hr hlk hK hP hS hl
  have S : CallFix p m c b_V_trap 1 s _ TG "PageVault" := S
  have hl : lv_has ls 1 [(0, .ref (ad 0))] := hl
  refine lv_aload_n S.1 S.2.1 d_V_trap_0 rfl (lv_at hl 0 rfl) ?_
  refine x_get_trap S hK hP tg_289 d_V_trap_1 ?_
  rw [show j_V_trap V = v_trap V from by rw [j_V_trap]]
  exact x_iret S hr hlk hP hS d_V_trap_4
def j_V_out_h28 (n : Nat) : Nat → VS → Nat → Int32 → Int32 → Int32 → Int32 × VS
  | 0, V, _, _, _, _ => (0, V)
  | f + 1, V, k, a2, a3, x5 =>
      if a3 ≤ x5 then
        (a3, V)
      else
        if ((j_V_write n V k (a2 + x5) 1 (v_buf V x5.toNatClampNeg)).1) = 0 then
          (x5, (j_V_write n V k (a2 + x5) 1 (v_buf V x5.toNatClampNeg)).2)
        else
          j_V_out_h28 n f ((j_V_write n V k (a2 + x5) 1 (v_buf V x5.toNatClampNeg)).2) k a2 a3 (x5 + 1)
set_option maxHeartbeats 4000000 in
set_option maxRecDepth 100000 in
theorem w_V_out_h28 (hE : xE ad n) {p : Program} {e : Env} {s : State} {m : MethodId} {args : Array Value} {below : List Frame} {meth : Method} {c : Code} (S : CallFix p m c b_V_out 6 s args TG "PageVault") (hr : meth.sig.returnType = some .int) (hlk : meth.locks = false) (hK : xK D cI cS cQ s) :
    ∀ (f i : Nat) (k : Nat) (hk : k < 16) (a2 a3 x5 : Int32) (V : VS) (H : Heap) (locs : List Loc) (ls : Array Slot), x5 = nI i → i < 2 ^ 31 → a3.toNatClampNeg - i < f → ¬ a3 < 0 → a3 ≤ 512 → XP D ad n cI cS cQ V H → va_S (iA ad (xN n)) s.heap H locs → lv_has ls 6 [(0, .ref (ad 0)), (2, .int a2), (3, .int a3), (4, .ref (ad (6 + k))), (5, .int x5)] → W p l e ({ frames := 7, cells := 0, slots := 0, locals := 181 }) s m args below meth c H locs 0 0 (MQ below (gPost D ad (xN n) (some (.int (j_V_out_h28 n f V k a2 a3 x5).1)) (xc ad n cI cS cQ ((j_V_out_h28 n f V k a2 a3 x5).2))) args s 0 0 (iA ad (xN n))) (F0 m 28 ls []) := by
  intro f
  induction f with
  | zero =>
    intro i k hk a2 a3 x5 V H locs ls ek hi hf h3 h5 hP hS hl
    exact absurd hf (Nat.not_lt_zero _)
  | succ f ih =>
    intro i k hk a2 a3 x5 V H locs ls ek hi hf h3 h5 hP hS hl
    refine lv_iload S.1 S.2.1 d_V_out_28 (lv_at hl 4 rfl) ?_
    refine lv_iload_n S.1 S.2.1 d_V_out_30 rfl (lv_at hl 2 rfl) ?_
    refine lv_icmp_ge (tgt := 64) S.1 S.2.1 d_V_out_31 (by decide) (fun c31 => ?_) (fun c31 => ?_)
    · refine lv_iload_n S.1 S.2.1 d_V_out_64 rfl (lv_at hl 2 rfl) ?_
      rw [show j_V_out_h28 n (f + 1) V k a2 a3 x5 = (a3, V) from by rw [j_V_out_h28, if_pos c31]]
      exact x_iret S hr hlk hP hS d_V_out_65
    · refine lv_aload_n S.1 S.2.1 d_V_out_34 rfl (lv_at hl 0 rfl) ?_
      refine lv_aload S.1 S.2.1 d_V_out_35 (lv_at hl 3 rfl) ?_
      refine lv_iload_n S.1 S.2.1 d_V_out_37 rfl (lv_at hl 1 rfl) ?_
      refine lv_iload S.1 S.2.1 d_V_out_38 (lv_at hl 4 rfl) ?_
      refine lv_iadd S.1 S.2.1 d_V_out_40 ?_
      refine lv_iconst (v := 1) S.1 S.2.1 d_V_out_41 (by decide) ?_
      refine lv_aload_n S.1 S.2.1 d_V_out_42 rfl (lv_at hl 0 rfl) ?_
      refine x_get_buffer S hK hP tg_51 d_V_out_43 ?_
      refine lv_iload S.1 S.2.1 d_V_out_46 (lv_at hl 4 rfl) ?_
      refine x_ald_buffer S hK hP (vin_n h3 h5 (lp_nn ek hi) c31) d_V_out_48 ?_
      refine x_callVi (As := [.ref (ad (6 + k)), .int (a2 + x5), .int 1, .int (v_buf V x5.toNatClampNeg)]) (rest := []) S hK ci_V_114 (c_V_write l D ad n cI cS cQ hE V k hk (a2 + x5) 1 (v_buf V x5.toNatClampNeg)) (x_recV hK hP) hP hS ⟨rfl, rfl, Nat.le_of_ble_eq_true rfl, Nat.le_of_ble_eq_true rfl⟩ rfl hl.1 rfl (Nat.le_of_ble_eq_true rfl) d_V_out_49 (fun H locs hP hS => ?_)
      refine lv_if_ne (tgt := 58) S.1 S.2.1 d_V_out_52 (by decide) (fun c52 => ?_) (fun c52 => ?_)
      · refine lv_iinc (v := x5 + 1) (lv' := [(5, .int (x5 + 1)), (0, .ref (ad 0)), (2, .int a2), (3, .int a3), (4, .ref (ad (6 + k)))]) S.1 S.2.1 d_V_out_58 hl (k := 4) rfl rfl (by decide) rfl (fun ls hl => ?_)
        refine lv_goto (tgt := 28) S.1 S.2.1 d_V_out_61 (by decide) ?_
        have hn9 := hE.2
        have hn8 := c512 h3 h5
        have hB := lp_lt (B := a3.toNatClampNeg) (nI_self h3) (clamp_lt _) ek hi c31
        rw [show j_V_out_h28 n (f + 1) V k a2 a3 x5 = j_V_out_h28 n f ((j_V_write n V k (a2 + x5) 1 (v_buf V x5.toNatClampNeg)).2) k a2 a3 (x5 + 1) from by rw [j_V_out_h28, if_neg c31, if_neg c52]]
        exact ih (i + 1) k hk a2 a3 (x5 + 1) ((j_V_write n V k (a2 + x5) 1 (v_buf V x5.toNatClampNeg)).2) _ _ _ (by rw [ek]; exact nI_1 i) (by omega) (by omega) h3 h5 hP hS (lv_sub hl [1, 2, 3, 4, 0] rfl)
      · refine lv_iload S.1 S.2.1 d_V_out_55 (lv_at hl 4 rfl) ?_
        rw [show j_V_out_h28 n (f + 1) V k a2 a3 x5 = (x5, (j_V_write n V k (a2 + x5) 1 (v_buf V x5.toNatClampNeg)).2) from by rw [j_V_out_h28, if_neg c31, if_pos c52]]
        exact x_iret S hr hlk hP hS d_V_out_57
def j_V_out_h28N (n : Nat) : Nat → VS → Int32 → Int32 → Int32 → Int32 × VS
  | 0, V, _, _, _ => (0, V)
  | f + 1, V, a2, a3, x5 =>
      if a3 ≤ x5 then
        (a3, V)
      else
        if ((j_V_writeN n V (a2 + x5) 1 (v_buf V x5.toNatClampNeg)).1) = 0 then
          (x5, (j_V_writeN n V (a2 + x5) 1 (v_buf V x5.toNatClampNeg)).2)
        else
          j_V_out_h28N n f ((j_V_writeN n V (a2 + x5) 1 (v_buf V x5.toNatClampNeg)).2) a2 a3 (x5 + 1)
set_option maxHeartbeats 4000000 in
set_option maxRecDepth 100000 in
theorem w_V_out_h28N (hE : xE ad n) {p : Program} {e : Env} {s : State} {m : MethodId} {args : Array Value} {below : List Frame} {meth : Method} {c : Code} (S : CallFix p m c b_V_out 6 s args TG "PageVault") (hr : meth.sig.returnType = some .int) (hlk : meth.locks = false) (hK : xK D cI cS cQ s) :
    ∀ (f i : Nat) (a2 a3 x5 : Int32) (V : VS) (H : Heap) (locs : List Loc) (ls : Array Slot), x5 = nI i → i < 2 ^ 31 → a3.toNatClampNeg - i < f → ¬ a3 < 0 → a3 ≤ 512 → XP D ad n cI cS cQ V H → va_S (iA ad (xN n)) s.heap H locs → lv_has ls 6 [(0, .ref (ad 0)), (2, .int a2), (3, .int a3), (4, .null), (5, .int x5)] → W p l e ({ frames := 7, cells := 0, slots := 0, locals := 181 }) s m args below meth c H locs 0 0 (MQ below (gPost D ad (xN n) (some (.int (j_V_out_h28N n f V a2 a3 x5).1)) (xc ad n cI cS cQ ((j_V_out_h28N n f V a2 a3 x5).2))) args s 0 0 (iA ad (xN n))) (F0 m 28 ls []) := by
  intro f
  induction f with
  | zero =>
    intro i a2 a3 x5 V H locs ls ek hi hf h3 h5 hP hS hl
    exact absurd hf (Nat.not_lt_zero _)
  | succ f ih =>
    intro i a2 a3 x5 V H locs ls ek hi hf h3 h5 hP hS hl
    refine lv_iload S.1 S.2.1 d_V_out_28 (lv_at hl 4 rfl) ?_
    refine lv_iload_n S.1 S.2.1 d_V_out_30 rfl (lv_at hl 2 rfl) ?_
    refine lv_icmp_ge (tgt := 64) S.1 S.2.1 d_V_out_31 (by decide) (fun c31 => ?_) (fun c31 => ?_)
    · refine lv_iload_n S.1 S.2.1 d_V_out_64 rfl (lv_at hl 2 rfl) ?_
      rw [show j_V_out_h28N n (f + 1) V a2 a3 x5 = (a3, V) from by rw [j_V_out_h28N, if_pos c31]]
      exact x_iret S hr hlk hP hS d_V_out_65
    · refine lv_aload_n S.1 S.2.1 d_V_out_34 rfl (lv_at hl 0 rfl) ?_
      refine lv_aloadN S.1 S.2.1 d_V_out_35 (lv_at hl 3 rfl) ?_
      refine lv_iload_n S.1 S.2.1 d_V_out_37 rfl (lv_at hl 1 rfl) ?_
      refine lv_iload S.1 S.2.1 d_V_out_38 (lv_at hl 4 rfl) ?_
      refine lv_iadd S.1 S.2.1 d_V_out_40 ?_
      refine lv_iconst (v := 1) S.1 S.2.1 d_V_out_41 (by decide) ?_
      refine lv_aload_n S.1 S.2.1 d_V_out_42 rfl (lv_at hl 0 rfl) ?_
      refine x_get_buffer S hK hP tg_51 d_V_out_43 ?_
      refine lv_iload S.1 S.2.1 d_V_out_46 (lv_at hl 4 rfl) ?_
      refine x_ald_buffer S hK hP (vin_n h3 h5 (lp_nn ek hi) c31) d_V_out_48 ?_
      refine x_callVi (As := [.null, .int (a2 + x5), .int 1, .int (v_buf V x5.toNatClampNeg)]) (rest := []) S hK ci_V_114 (c_V_writeN l D ad n cI cS cQ hE V (a2 + x5) 1 (v_buf V x5.toNatClampNeg)) (x_recV hK hP) hP hS ⟨rfl, rfl, Nat.le_of_ble_eq_true rfl, Nat.le_of_ble_eq_true rfl⟩ rfl hl.1 rfl (Nat.le_of_ble_eq_true rfl) d_V_out_49 (fun H locs hP hS => ?_)
      refine lv_if_ne (tgt := 58) S.1 S.2.1 d_V_out_52 (by decide) (fun c52 => ?_) (fun c52 => ?_)
      · refine lv_iinc (v := x5 + 1) (lv' := [(5, .int (x5 + 1)), (0, .ref (ad 0)), (2, .int a2), (3, .int a3), (4, .null)]) S.1 S.2.1 d_V_out_58 hl (k := 4) rfl rfl (by decide) rfl (fun ls hl => ?_)
        refine lv_goto (tgt := 28) S.1 S.2.1 d_V_out_61 (by decide) ?_
        have hn9 := hE.2
        have hn8 := c512 h3 h5
        have hB := lp_lt (B := a3.toNatClampNeg) (nI_self h3) (clamp_lt _) ek hi c31
        rw [show j_V_out_h28N n (f + 1) V a2 a3 x5 = j_V_out_h28N n f ((j_V_writeN n V (a2 + x5) 1 (v_buf V x5.toNatClampNeg)).2) a2 a3 (x5 + 1) from by rw [j_V_out_h28N, if_neg c31, if_neg c52]]
        exact ih (i + 1)  a2 a3 (x5 + 1) ((j_V_writeN n V (a2 + x5) 1 (v_buf V x5.toNatClampNeg)).2) _ _ _ (by rw [ek]; exact nI_1 i) (by omega) (by omega) h3 h5 hP hS (lv_sub hl [1, 2, 3, 4, 0] rfl)
      · refine lv_iload S.1 S.2.1 d_V_out_55 (lv_at hl 4 rfl) ?_
        rw [show j_V_out_h28N n (f + 1) V a2 a3 x5 = (x5, (j_V_writeN n V (a2 + x5) 1 (v_buf V x5.toNatClampNeg)).2) from by rw [j_V_out_h28N, if_neg c31, if_pos c52]]
        exact x_iret S hr hlk hP hS d_V_out_57
end XW
