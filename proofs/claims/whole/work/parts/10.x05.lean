section XW
variable (l : Launch) (D : va_G) (ad : Nat → Nat) (n : Nat) (cI cS cQ : ClassId)
/-- PageVault.out(III)I -/
def j_V_out (n : Nat) (V : VS) (a1 : Int32) (a2 : Int32) (a3 : Int32) : Int32 × VS :=
  if a3 < 0 then
    ((-1), s_trap V 0)
  else
    if a3 ≤ 512 then
      oc (j_V_find (s_trap V 0) a1) (
        j_V_out_h28N n (a3.toNatClampNeg + 1) (s_trap V 0) a2 a3 0) (fun k1 =>
        j_V_out_h28 n (a3.toNatClampNeg + 1) (s_trap V 0) k1 a2 a3 0)
    else
      ((-1), s_trap V 0)
set_option maxHeartbeats 4000000 in
set_option maxRecDepth 100000 in
theorem c_V_out (hE : xE ad n) (V : VS) (a1 : Int32) (a2 : Int32) (a3 : Int32) : XC l D ad n cI cS cQ y_V_out b_V_out 6 (some .int) ({ frames := 7, cells := 0, slots := 0, locals := 181 }) [.ref (ad 0), .int a1, .int a2, .int a3] V (some (.int (j_V_out n V a1 a2 a3).1)) ((j_V_out n V a1 a2 a3).2) := by
  refine FC_intro (by decide) (Nat.le_of_ble_eq_true rfl) ?_
  intro p e s m below meth c ls S hr hlk hK hP hS hl
  have S : CallFix p m c b_V_out 6 s _ TG "PageVault" := S
  have hl : lv_has ls 6 [(0, .ref (ad 0)), (1, .int a1), (2, .int a2), (3, .int a3)] := hl
  refine lv_aload_n S.1 S.2.1 d_V_out_0 rfl (lv_at hl 0 rfl) ?_
  refine lv_iconst (v := 0) S.1 S.2.1 d_V_out_1 (by decide) ?_
  refine x_put_trap S hE hK hP hS tg_289 d_V_out_2 (fun H locs hP hS => ?_)
  refine lv_iload_n S.1 S.2.1 d_V_out_5 rfl (lv_at hl 3 rfl) ?_
  refine lv_if_lt (tgt := 16) S.1 S.2.1 d_V_out_6 (by decide) (fun c6 => ?_) (fun c6 => ?_)
  · refine lv_iconst (v := (-1)) S.1 S.2.1 d_V_out_16 (by decide) ?_
    rw [show j_V_out n V a1 a2 a3 = ((-1), s_trap V 0) from by rw [j_V_out, if_pos c6]]
    exact x_iret S hr hlk hP hS d_V_out_17
  · refine lv_iload_n S.1 S.2.1 d_V_out_9 rfl (lv_at hl 3 rfl) ?_
    refine lv_sipush (v := 512) S.1 S.2.1 d_V_out_10 (by decide) ?_
    refine lv_icmp_le (tgt := 18) S.1 S.2.1 d_V_out_13 (by decide) (fun c13 => ?_) (fun c13 => ?_)
    · refine lv_aload_n S.1 S.2.1 d_V_out_18 rfl (lv_at hl 0 rfl) ?_
      refine lv_iload_n S.1 S.2.1 d_V_out_19 rfl (lv_at hl 1 rfl) ?_
      refine x_callVq (As := [.int a1]) (rest := []) S hK ci_V_50 (c_V_find l D ad n cI cS cQ hE (s_trap V 0) a1) (x_recV hK hP) hP hS ⟨rfl, rfl, Nat.le_of_ble_eq_true rfl, Nat.le_of_ble_eq_true rfl⟩ rfl hl.1 rfl (Nat.le_of_ble_eq_true rfl) d_V_out_20 (fun hk1 H locs hP hS => ?_) (fun k1 hk1 H locs hP hS => ?_)
      · refine lv_astoreN (lv' := [(4, .null), (0, .ref (ad 0)), (1, .int a1), (2, .int a2), (3, .int a3)]) S.1 S.2.1 d_V_out_23 hl (by decide) rfl (fun ls hl => ?_)
        refine lv_iconst (v := 0) S.1 S.2.1 d_V_out_25 (by decide) ?_
        refine lv_istore (lv' := [(5, .int 0), (4, .null), (0, .ref (ad 0)), (1, .int a1), (2, .int a2), (3, .int a3)]) S.1 S.2.1 d_V_out_26 hl (by decide) rfl (fun ls hl => ?_)
        rw [show j_V_out n V a1 a2 a3 = j_V_out_h28N n (a3.toNatClampNeg + 1) (s_trap V 0) a2 a3 0 from by rw [j_V_out, if_neg c6, if_pos c13, oc_none hk1]]
        exact w_V_out_h28N l D ad n cI cS cQ hE S hr hlk hK (a3.toNatClampNeg + 1) 0 a2 a3 0 (s_trap V 0) _ _ _ nI_0.symm (by decide) (by omega) c6 c13 hP hS (lv_sub hl [2, 4, 5, 1, 0] rfl)
      · refine lv_astore (lv' := [(4, .ref (ad (6 + k1))), (0, .ref (ad 0)), (1, .int a1), (2, .int a2), (3, .int a3)]) S.1 S.2.1 d_V_out_23 hl (by decide) rfl (fun ls hl => ?_)
        refine lv_iconst (v := 0) S.1 S.2.1 d_V_out_25 (by decide) ?_
        refine lv_istore (lv' := [(5, .int 0), (4, .ref (ad (6 + k1))), (0, .ref (ad 0)), (1, .int a1), (2, .int a2), (3, .int a3)]) S.1 S.2.1 d_V_out_26 hl (by decide) rfl (fun ls hl => ?_)
        rw [show j_V_out n V a1 a2 a3 = j_V_out_h28 n (a3.toNatClampNeg + 1) (s_trap V 0) k1 a2 a3 0 from by rw [j_V_out, if_neg c6, if_pos c13, oc_some hk1]]
        exact w_V_out_h28 l D ad n cI cS cQ hE S hr hlk hK (a3.toNatClampNeg + 1) 0 k1 (find_lt hk1) a2 a3 0 (s_trap V 0) _ _ _ nI_0.symm (by decide) (by omega) c6 c13 hP hS (lv_sub hl [2, 4, 5, 1, 0] rfl)
    · refine lv_iconst (v := (-1)) S.1 S.2.1 d_V_out_16 (by decide) ?_
      rw [show j_V_out n V a1 a2 a3 = ((-1), s_trap V 0) from by rw [j_V_out, if_neg c6, if_neg c13]]
      exact x_iret S hr hlk hP hS d_V_out_17
/-- PageVault.readByte(LPageVault$Space;I)I -/
def j_V_readByte (n : Nat) (V : VS) (k : Nat) (a2 : Int32) : Int32 × VS :=
  if ((j_V_touch n V k a2 1).1) = (-1) then
    ((-1), (j_V_touch n V k a2 1).2)
  else
    (j_F_read n ((j_V_touch n V k a2 1).2) ((j_V_touch n V k a2 1).1) a2 1, (j_V_touch n V k a2 1).2)
set_option maxHeartbeats 4000000 in
set_option maxRecDepth 100000 in
theorem c_V_readByte (hE : xE ad n) (V : VS) (k : Nat) (hk : k < 16) (a2 : Int32) : XC l D ad n cI cS cQ y_V_readByte b_V_readByte 4 (some .int) ({ frames := 6, cells := 0, slots := 0, locals := 156 }) [.ref (ad 0), .ref (ad (6 + k)), .int a2] V (some (.int (j_V_readByte n V k a2).1)) ((j_V_readByte n V k a2).2) := by
  refine FC_intro (by decide) (Nat.le_of_ble_eq_true rfl) ?_
  intro p e s m below meth c ls S hr hlk hK hP hS hl
  have S : CallFix p m c b_V_readByte 4 s _ TG "PageVault" := S
  have hl : lv_has ls 4 [(0, .ref (ad 0)), (1, .ref (ad (6 + k))), (2, .int a2)] := hl
  refine lv_aload_n S.1 S.2.1 d_V_readByte_0 rfl (lv_at hl 0 rfl) ?_
  refine lv_aload_n S.1 S.2.1 d_V_readByte_1 rfl (lv_at hl 1 rfl) ?_
  refine lv_iload_n S.1 S.2.1 d_V_readByte_2 rfl (lv_at hl 2 rfl) ?_
  refine lv_iconst (v := 1) S.1 S.2.1 d_V_readByte_3 (by decide) ?_
  refine x_callVi (As := [.ref (ad (6 + k)), .int a2, .int 1]) (rest := []) S hK ci_V_138 (c_V_touch l D ad n cI cS cQ hE V k hk a2 1) (x_recV hK hP) hP hS ⟨rfl, rfl, Nat.le_of_ble_eq_true rfl, Nat.le_of_ble_eq_true rfl⟩ rfl hl.1 rfl (Nat.le_of_ble_eq_true rfl) d_V_readByte_4 (fun H locs hP hS => ?_)
  refine lv_istore_n (lv' := [(3, .int ((j_V_touch n V k a2 1).1)), (0, .ref (ad 0)), (1, .ref (ad (6 + k))), (2, .int a2)]) S.1 S.2.1 d_V_readByte_7 rfl hl (by decide) rfl (fun ls hl => ?_)
  refine lv_iload_n S.1 S.2.1 d_V_readByte_8 rfl (lv_at hl 0 rfl) ?_
  refine lv_iconst (v := (-1)) S.1 S.2.1 d_V_readByte_9 (by decide) ?_
  refine lv_icmp_ne (tgt := 17) S.1 S.2.1 d_V_readByte_10 (by decide) (fun c10 => ?_) (fun c10 => ?_)
  · refine lv_aload_n S.1 S.2.1 d_V_readByte_17 rfl (lv_at hl 1 rfl) ?_
    refine x_get_frames S hK hP tg_49 d_V_readByte_18 ?_
    refine lv_iload_n S.1 S.2.1 d_V_readByte_21 rfl (lv_at hl 0 rfl) ?_
    refine lv_iload_n S.1 S.2.1 d_V_readByte_22 rfl (lv_at hl 3 rfl) ?_
    refine lv_iconst (v := 1) S.1 S.2.1 d_V_readByte_23 (by decide) ?_
    refine x_callVi (As := [.int ((j_V_touch n V k a2 1).1), .int a2, .int 1]) (rest := []) S hK ci_V_142 (c_F_read l D ad n cI cS cQ hE ((j_V_touch n V k a2 1).2) ((j_V_touch n V k a2 1).1) a2 1) (x_recF hK hP) hP hS ⟨rfl, rfl, Nat.le_of_ble_eq_true rfl, Nat.le_of_ble_eq_true rfl⟩ rfl hl.1 rfl (Nat.le_of_ble_eq_true rfl) d_V_readByte_24 (fun H locs hP hS => ?_)
    rw [show j_V_readByte n V k a2 = (j_F_read n ((j_V_touch n V k a2 1).2) ((j_V_touch n V k a2 1).1) a2 1, (j_V_touch n V k a2 1).2) from by rw [j_V_readByte, if_neg c10]]
    exact x_iret S hr hlk hP hS d_V_readByte_27
  · refine lv_iconst (v := (-1)) S.1 S.2.1 d_V_readByte_13 (by decide) ?_
    refine lv_goto (tgt := 27) S.1 S.2.1 d_V_readByte_14 (by decide) ?_
    rw [show j_V_readByte n V k a2 = ((-1), (j_V_touch n V k a2 1).2) from by rw [j_V_readByte, if_pos c10]]
    exact x_iret S hr hlk hP hS d_V_readByte_27
def j_V_in_h28 (n : Nat) : Nat → VS → Nat → Int32 → Int32 → Int32 → Int32 × VS
  | 0, V, _, _, _, _ => (0, V)
  | f + 1, V, k, a2, a3, x5 =>
      if a3 ≤ x5 then
        (a3, V)
      else
        if ((j_V_readByte n V k (a2 + x5)).1) = (-1) then
          (x5, (j_V_readByte n V k (a2 + x5)).2)
        else
          j_V_in_h28 n f (s_buf ((j_V_readByte n V k (a2 + x5)).2) x5.toNatClampNeg ((j_V_readByte n V k (a2 + x5)).1)) k a2 a3 (x5 + 1)
set_option maxHeartbeats 4000000 in
set_option maxRecDepth 100000 in
theorem w_V_in_h28 (hE : xE ad n) {p : Program} {e : Env} {s : State} {m : MethodId} {args : Array Value} {below : List Frame} {meth : Method} {c : Code} (S : CallFix p m c b_V_in 7 s args TG "PageVault") (hr : meth.sig.returnType = some .int) (hlk : meth.locks = false) (hK : xK D cI cS cQ s) :
    ∀ (f i : Nat) (k : Nat) (hk : k < 16) (a2 a3 x5 : Int32) (V : VS) (H : Heap) (locs : List Loc) (ls : Array Slot), x5 = nI i → i < 2 ^ 31 → a3.toNatClampNeg - i < f → ¬ a3 < 0 → a3 ≤ 512 → XP D ad n cI cS cQ V H → va_S (iA ad (xN n)) s.heap H locs → lv_has ls 7 [(0, .ref (ad 0)), (2, .int a2), (3, .int a3), (4, .ref (ad (6 + k))), (5, .int x5)] → W p l e ({ frames := 7, cells := 0, slots := 0, locals := 179 }) s m args below meth c H locs 0 0 (MQ below (gPost D ad (xN n) (some (.int (j_V_in_h28 n f V k a2 a3 x5).1)) (xc ad n cI cS cQ ((j_V_in_h28 n f V k a2 a3 x5).2))) args s 0 0 (iA ad (xN n))) (F0 m 28 ls []) := by
  intro f
  induction f with
  | zero =>
    intro i k hk a2 a3 x5 V H locs ls ek hi hf h3 h5 hP hS hl
    exact absurd hf (Nat.not_lt_zero _)
  | succ f ih =>
    intro i k hk a2 a3 x5 V H locs ls ek hi hf h3 h5 hP hS hl
    refine lv_iload S.1 S.2.1 d_V_in_28 (lv_at hl 4 rfl) ?_
    refine lv_iload_n S.1 S.2.1 d_V_in_30 rfl (lv_at hl 2 rfl) ?_
    refine lv_icmp_ge (tgt := 70) S.1 S.2.1 d_V_in_31 (by decide) (fun c31 => ?_) (fun c31 => ?_)
    · refine lv_iload_n S.1 S.2.1 d_V_in_70 rfl (lv_at hl 2 rfl) ?_
      rw [show j_V_in_h28 n (f + 1) V k a2 a3 x5 = (a3, V) from by rw [j_V_in_h28, if_pos c31]]
      exact x_iret S hr hlk hP hS d_V_in_71
    · refine lv_aload_n S.1 S.2.1 d_V_in_34 rfl (lv_at hl 0 rfl) ?_
      refine lv_aload S.1 S.2.1 d_V_in_35 (lv_at hl 3 rfl) ?_
      refine lv_iload_n S.1 S.2.1 d_V_in_37 rfl (lv_at hl 1 rfl) ?_
      refine lv_iload S.1 S.2.1 d_V_in_38 (lv_at hl 4 rfl) ?_
      refine lv_iadd S.1 S.2.1 d_V_in_40 ?_
      refine x_callVi (As := [.ref (ad (6 + k)), .int (a2 + x5)]) (rest := []) S hK ci_V_118 (c_V_readByte l D ad n cI cS cQ hE V k hk (a2 + x5)) (x_recV hK hP) hP hS ⟨rfl, rfl, Nat.le_of_ble_eq_true rfl, Nat.le_of_ble_eq_true rfl⟩ rfl hl.1 rfl (Nat.le_of_ble_eq_true rfl) d_V_in_41 (fun H locs hP hS => ?_)
      refine lv_istore (lv' := [(6, .int ((j_V_readByte n V k (a2 + x5)).1)), (0, .ref (ad 0)), (2, .int a2), (3, .int a3), (4, .ref (ad (6 + k))), (5, .int x5)]) S.1 S.2.1 d_V_in_44 hl (by decide) rfl (fun ls hl => ?_)
      refine lv_iload S.1 S.2.1 d_V_in_46 (lv_at hl 0 rfl) ?_
      refine lv_iconst (v := (-1)) S.1 S.2.1 d_V_in_48 (by decide) ?_
      refine lv_icmp_ne (tgt := 55) S.1 S.2.1 d_V_in_49 (by decide) (fun c49 => ?_) (fun c49 => ?_)
      · refine lv_aload_n S.1 S.2.1 d_V_in_55 rfl (lv_at hl 1 rfl) ?_
        refine x_get_buffer S hK hP tg_51 d_V_in_56 ?_
        refine lv_iload S.1 S.2.1 d_V_in_59 (lv_at hl 5 rfl) ?_
        refine lv_iload S.1 S.2.1 d_V_in_61 (lv_at hl 0 rfl) ?_
        refine x_ast_buffer S hE hK hP hS (vin_n h3 h5 (lp_nn ek hi) c31) d_V_in_63 (fun H locs hP hS => ?_)
        refine lv_iinc (v := x5 + 1) (lv' := [(5, .int (x5 + 1)), (6, .int ((j_V_readByte n V k (a2 + x5)).1)), (0, .ref (ad 0)), (2, .int a2), (3, .int a3), (4, .ref (ad (6 + k)))]) S.1 S.2.1 d_V_in_64 hl (k := 5) rfl rfl (by decide) rfl (fun ls hl => ?_)
        refine lv_goto (tgt := 28) S.1 S.2.1 d_V_in_67 (by decide) ?_
        have hn9 := hE.2
        have hn8 := c512 h3 h5
        have hB := lp_lt (B := a3.toNatClampNeg) (nI_self h3) (clamp_lt _) ek hi c31
        rw [show j_V_in_h28 n (f + 1) V k a2 a3 x5 = j_V_in_h28 n f (s_buf ((j_V_readByte n V k (a2 + x5)).2) x5.toNatClampNeg ((j_V_readByte n V k (a2 + x5)).1)) k a2 a3 (x5 + 1) from by rw [j_V_in_h28, if_neg c31, if_neg c49]]
        exact ih (i + 1) k hk a2 a3 (x5 + 1) (s_buf ((j_V_readByte n V k (a2 + x5)).2) x5.toNatClampNeg ((j_V_readByte n V k (a2 + x5)).1)) _ _ _ (by rw [ek]; exact nI_1 i) (by omega) (by omega) h3 h5 hP hS (lv_sub hl [2, 3, 4, 5, 0] rfl)
      · refine lv_iload S.1 S.2.1 d_V_in_52 (lv_at hl 5 rfl) ?_
        rw [show j_V_in_h28 n (f + 1) V k a2 a3 x5 = (x5, (j_V_readByte n V k (a2 + x5)).2) from by rw [j_V_in_h28, if_neg c31, if_pos c49]]
        exact x_iret S hr hlk hP hS d_V_in_54
/-- PageVault.readByte(LPageVault$Space;I)I -/
def j_V_readByteN (n : Nat) (V : VS) (a2 : Int32) : Int32 × VS :=
  if ((j_V_touchN V a2 1).1) = (-1) then
    ((-1), (j_V_touchN V a2 1).2)
  else
    (j_F_read n ((j_V_touchN V a2 1).2) ((j_V_touchN V a2 1).1) a2 1, (j_V_touchN V a2 1).2)
set_option maxHeartbeats 4000000 in
set_option maxRecDepth 100000 in
theorem c_V_readByteN (hE : xE ad n) (V : VS) (a2 : Int32) : XC l D ad n cI cS cQ y_V_readByte b_V_readByte 4 (some .int) ({ frames := 6, cells := 0, slots := 0, locals := 156 }) [.ref (ad 0), .null, .int a2] V (some (.int (j_V_readByteN n V a2).1)) ((j_V_readByteN n V a2).2) := by
  refine FC_intro (by decide) (Nat.le_of_ble_eq_true rfl) ?_
  intro p e s m below meth c ls S hr hlk hK hP hS hl
  have S : CallFix p m c b_V_readByte 4 s _ TG "PageVault" := S
  have hl : lv_has ls 4 [(0, .ref (ad 0)), (1, .null), (2, .int a2)] := hl
  refine lv_aload_n S.1 S.2.1 d_V_readByte_0 rfl (lv_at hl 0 rfl) ?_
  refine lv_aload_nN S.1 S.2.1 d_V_readByte_1 rfl (lv_at hl 1 rfl) ?_
  refine lv_iload_n S.1 S.2.1 d_V_readByte_2 rfl (lv_at hl 2 rfl) ?_
  refine lv_iconst (v := 1) S.1 S.2.1 d_V_readByte_3 (by decide) ?_
  refine x_callVi (As := [.null, .int a2, .int 1]) (rest := []) S hK ci_V_138 (c_V_touchN l D ad n cI cS cQ hE V a2 1) (x_recV hK hP) hP hS ⟨rfl, rfl, Nat.le_of_ble_eq_true rfl, Nat.le_of_ble_eq_true rfl⟩ rfl hl.1 rfl (Nat.le_of_ble_eq_true rfl) d_V_readByte_4 (fun H locs hP hS => ?_)
  refine lv_istore_n (lv' := [(3, .int ((j_V_touchN V a2 1).1)), (0, .ref (ad 0)), (1, .null), (2, .int a2)]) S.1 S.2.1 d_V_readByte_7 rfl hl (by decide) rfl (fun ls hl => ?_)
  refine lv_iload_n S.1 S.2.1 d_V_readByte_8 rfl (lv_at hl 0 rfl) ?_
  refine lv_iconst (v := (-1)) S.1 S.2.1 d_V_readByte_9 (by decide) ?_
  refine lv_icmp_ne (tgt := 17) S.1 S.2.1 d_V_readByte_10 (by decide) (fun c10 => ?_) (fun c10 => ?_)
  · refine lv_aload_n S.1 S.2.1 d_V_readByte_17 rfl (lv_at hl 1 rfl) ?_
    refine x_get_frames S hK hP tg_49 d_V_readByte_18 ?_
    refine lv_iload_n S.1 S.2.1 d_V_readByte_21 rfl (lv_at hl 0 rfl) ?_
    refine lv_iload_n S.1 S.2.1 d_V_readByte_22 rfl (lv_at hl 3 rfl) ?_
    refine lv_iconst (v := 1) S.1 S.2.1 d_V_readByte_23 (by decide) ?_
    refine x_callVi (As := [.int ((j_V_touchN V a2 1).1), .int a2, .int 1]) (rest := []) S hK ci_V_142 (c_F_read l D ad n cI cS cQ hE ((j_V_touchN V a2 1).2) ((j_V_touchN V a2 1).1) a2 1) (x_recF hK hP) hP hS ⟨rfl, rfl, Nat.le_of_ble_eq_true rfl, Nat.le_of_ble_eq_true rfl⟩ rfl hl.1 rfl (Nat.le_of_ble_eq_true rfl) d_V_readByte_24 (fun H locs hP hS => ?_)
    rw [show j_V_readByteN n V a2 = (j_F_read n ((j_V_touchN V a2 1).2) ((j_V_touchN V a2 1).1) a2 1, (j_V_touchN V a2 1).2) from by rw [j_V_readByteN, if_neg c10]]
    exact x_iret S hr hlk hP hS d_V_readByte_27
  · refine lv_iconst (v := (-1)) S.1 S.2.1 d_V_readByte_13 (by decide) ?_
    refine lv_goto (tgt := 27) S.1 S.2.1 d_V_readByte_14 (by decide) ?_
    rw [show j_V_readByteN n V a2 = ((-1), (j_V_touchN V a2 1).2) from by rw [j_V_readByteN, if_pos c10]]
    exact x_iret S hr hlk hP hS d_V_readByte_27
def j_V_in_h28N (n : Nat) : Nat → VS → Int32 → Int32 → Int32 → Int32 × VS
  | 0, V, _, _, _ => (0, V)
  | f + 1, V, a2, a3, x5 =>
      if a3 ≤ x5 then
        (a3, V)
      else
        if ((j_V_readByteN n V (a2 + x5)).1) = (-1) then
          (x5, (j_V_readByteN n V (a2 + x5)).2)
        else
          j_V_in_h28N n f (s_buf ((j_V_readByteN n V (a2 + x5)).2) x5.toNatClampNeg ((j_V_readByteN n V (a2 + x5)).1)) a2 a3 (x5 + 1)
set_option maxHeartbeats 4000000 in
set_option maxRecDepth 100000 in
theorem w_V_in_h28N (hE : xE ad n) {p : Program} {e : Env} {s : State} {m : MethodId} {args : Array Value} {below : List Frame} {meth : Method} {c : Code} (S : CallFix p m c b_V_in 7 s args TG "PageVault") (hr : meth.sig.returnType = some .int) (hlk : meth.locks = false) (hK : xK D cI cS cQ s) :
    ∀ (f i : Nat) (a2 a3 x5 : Int32) (V : VS) (H : Heap) (locs : List Loc) (ls : Array Slot), x5 = nI i → i < 2 ^ 31 → a3.toNatClampNeg - i < f → ¬ a3 < 0 → a3 ≤ 512 → XP D ad n cI cS cQ V H → va_S (iA ad (xN n)) s.heap H locs → lv_has ls 7 [(0, .ref (ad 0)), (2, .int a2), (3, .int a3), (4, .null), (5, .int x5)] → W p l e ({ frames := 7, cells := 0, slots := 0, locals := 179 }) s m args below meth c H locs 0 0 (MQ below (gPost D ad (xN n) (some (.int (j_V_in_h28N n f V a2 a3 x5).1)) (xc ad n cI cS cQ ((j_V_in_h28N n f V a2 a3 x5).2))) args s 0 0 (iA ad (xN n))) (F0 m 28 ls []) := by
  intro f
  induction f with
  | zero =>
    intro i a2 a3 x5 V H locs ls ek hi hf h3 h5 hP hS hl
    exact absurd hf (Nat.not_lt_zero _)
  | succ f ih =>
    intro i a2 a3 x5 V H locs ls ek hi hf h3 h5 hP hS hl
    refine lv_iload S.1 S.2.1 d_V_in_28 (lv_at hl 4 rfl) ?_
    refine lv_iload_n S.1 S.2.1 d_V_in_30 rfl (lv_at hl 2 rfl) ?_
    refine lv_icmp_ge (tgt := 70) S.1 S.2.1 d_V_in_31 (by decide) (fun c31 => ?_) (fun c31 => ?_)
    · refine lv_iload_n S.1 S.2.1 d_V_in_70 rfl (lv_at hl 2 rfl) ?_
      rw [show j_V_in_h28N n (f + 1) V a2 a3 x5 = (a3, V) from by rw [j_V_in_h28N, if_pos c31]]
      exact x_iret S hr hlk hP hS d_V_in_71
    · refine lv_aload_n S.1 S.2.1 d_V_in_34 rfl (lv_at hl 0 rfl) ?_
      refine lv_aloadN S.1 S.2.1 d_V_in_35 (lv_at hl 3 rfl) ?_
      refine lv_iload_n S.1 S.2.1 d_V_in_37 rfl (lv_at hl 1 rfl) ?_
      refine lv_iload S.1 S.2.1 d_V_in_38 (lv_at hl 4 rfl) ?_
      refine lv_iadd S.1 S.2.1 d_V_in_40 ?_
      refine x_callVi (As := [.null, .int (a2 + x5)]) (rest := []) S hK ci_V_118 (c_V_readByteN l D ad n cI cS cQ hE V (a2 + x5)) (x_recV hK hP) hP hS ⟨rfl, rfl, Nat.le_of_ble_eq_true rfl, Nat.le_of_ble_eq_true rfl⟩ rfl hl.1 rfl (Nat.le_of_ble_eq_true rfl) d_V_in_41 (fun H locs hP hS => ?_)
      refine lv_istore (lv' := [(6, .int ((j_V_readByteN n V (a2 + x5)).1)), (0, .ref (ad 0)), (2, .int a2), (3, .int a3), (4, .null), (5, .int x5)]) S.1 S.2.1 d_V_in_44 hl (by decide) rfl (fun ls hl => ?_)
      refine lv_iload S.1 S.2.1 d_V_in_46 (lv_at hl 0 rfl) ?_
      refine lv_iconst (v := (-1)) S.1 S.2.1 d_V_in_48 (by decide) ?_
      refine lv_icmp_ne (tgt := 55) S.1 S.2.1 d_V_in_49 (by decide) (fun c49 => ?_) (fun c49 => ?_)
      · refine lv_aload_n S.1 S.2.1 d_V_in_55 rfl (lv_at hl 1 rfl) ?_
        refine x_get_buffer S hK hP tg_51 d_V_in_56 ?_
        refine lv_iload S.1 S.2.1 d_V_in_59 (lv_at hl 5 rfl) ?_
        refine lv_iload S.1 S.2.1 d_V_in_61 (lv_at hl 0 rfl) ?_
        refine x_ast_buffer S hE hK hP hS (vin_n h3 h5 (lp_nn ek hi) c31) d_V_in_63 (fun H locs hP hS => ?_)
        refine lv_iinc (v := x5 + 1) (lv' := [(5, .int (x5 + 1)), (6, .int ((j_V_readByteN n V (a2 + x5)).1)), (0, .ref (ad 0)), (2, .int a2), (3, .int a3), (4, .null)]) S.1 S.2.1 d_V_in_64 hl (k := 5) rfl rfl (by decide) rfl (fun ls hl => ?_)
        refine lv_goto (tgt := 28) S.1 S.2.1 d_V_in_67 (by decide) ?_
        have hn9 := hE.2
        have hn8 := c512 h3 h5
        have hB := lp_lt (B := a3.toNatClampNeg) (nI_self h3) (clamp_lt _) ek hi c31
        rw [show j_V_in_h28N n (f + 1) V a2 a3 x5 = j_V_in_h28N n f (s_buf ((j_V_readByteN n V (a2 + x5)).2) x5.toNatClampNeg ((j_V_readByteN n V (a2 + x5)).1)) a2 a3 (x5 + 1) from by rw [j_V_in_h28N, if_neg c31, if_neg c49]]
        exact ih (i + 1)  a2 a3 (x5 + 1) (s_buf ((j_V_readByteN n V (a2 + x5)).2) x5.toNatClampNeg ((j_V_readByteN n V (a2 + x5)).1)) _ _ _ (by rw [ek]; exact nI_1 i) (by omega) (by omega) h3 h5 hP hS (lv_sub hl [2, 3, 4, 5, 0] rfl)
      · refine lv_iload S.1 S.2.1 d_V_in_52 (lv_at hl 5 rfl) ?_
        rw [show j_V_in_h28N n (f + 1) V a2 a3 x5 = (x5, (j_V_readByteN n V (a2 + x5)).2) from by rw [j_V_in_h28N, if_neg c31, if_pos c49]]
        exact x_iret S hr hlk hP hS d_V_in_54
/-- PageVault.in(III)I -/
def j_V_in (n : Nat) (V : VS) (a1 : Int32) (a2 : Int32) (a3 : Int32) : Int32 × VS :=
  if a3 < 0 then
    ((-1), s_trap V 0)
  else
    if a3 ≤ 512 then
      oc (j_V_find (s_trap V 0) a1) (
        j_V_in_h28N n (a3.toNatClampNeg + 1) (s_trap V 0) a2 a3 0) (fun k1 =>
        j_V_in_h28 n (a3.toNatClampNeg + 1) (s_trap V 0) k1 a2 a3 0)
    else
      ((-1), s_trap V 0)
set_option maxHeartbeats 4000000 in
set_option maxRecDepth 100000 in
theorem c_V_in (hE : xE ad n) (V : VS) (a1 : Int32) (a2 : Int32) (a3 : Int32) : XC l D ad n cI cS cQ y_V_in b_V_in 7 (some .int) ({ frames := 7, cells := 0, slots := 0, locals := 179 }) [.ref (ad 0), .int a1, .int a2, .int a3] V (some (.int (j_V_in n V a1 a2 a3).1)) ((j_V_in n V a1 a2 a3).2) := by
  refine FC_intro (by decide) (Nat.le_of_ble_eq_true rfl) ?_
  intro p e s m below meth c ls S hr hlk hK hP hS hl
  have S : CallFix p m c b_V_in 7 s _ TG "PageVault" := S
  have hl : lv_has ls 7 [(0, .ref (ad 0)), (1, .int a1), (2, .int a2), (3, .int a3)] := hl
  refine lv_aload_n S.1 S.2.1 d_V_in_0 rfl (lv_at hl 0 rfl) ?_
  refine lv_iconst (v := 0) S.1 S.2.1 d_V_in_1 (by decide) ?_
  refine x_put_trap S hE hK hP hS tg_289 d_V_in_2 (fun H locs hP hS => ?_)
  refine lv_iload_n S.1 S.2.1 d_V_in_5 rfl (lv_at hl 3 rfl) ?_
  refine lv_if_lt (tgt := 16) S.1 S.2.1 d_V_in_6 (by decide) (fun c6 => ?_) (fun c6 => ?_)
  · refine lv_iconst (v := (-1)) S.1 S.2.1 d_V_in_16 (by decide) ?_
    rw [show j_V_in n V a1 a2 a3 = ((-1), s_trap V 0) from by rw [j_V_in, if_pos c6]]
    exact x_iret S hr hlk hP hS d_V_in_17
  · refine lv_iload_n S.1 S.2.1 d_V_in_9 rfl (lv_at hl 3 rfl) ?_
    refine lv_sipush (v := 512) S.1 S.2.1 d_V_in_10 (by decide) ?_
    refine lv_icmp_le (tgt := 18) S.1 S.2.1 d_V_in_13 (by decide) (fun c13 => ?_) (fun c13 => ?_)
    · refine lv_aload_n S.1 S.2.1 d_V_in_18 rfl (lv_at hl 0 rfl) ?_
      refine lv_iload_n S.1 S.2.1 d_V_in_19 rfl (lv_at hl 1 rfl) ?_
      refine x_callVq (As := [.int a1]) (rest := []) S hK ci_V_50 (c_V_find l D ad n cI cS cQ hE (s_trap V 0) a1) (x_recV hK hP) hP hS ⟨rfl, rfl, Nat.le_of_ble_eq_true rfl, Nat.le_of_ble_eq_true rfl⟩ rfl hl.1 rfl (Nat.le_of_ble_eq_true rfl) d_V_in_20 (fun hk1 H locs hP hS => ?_) (fun k1 hk1 H locs hP hS => ?_)
      · refine lv_astoreN (lv' := [(4, .null), (0, .ref (ad 0)), (1, .int a1), (2, .int a2), (3, .int a3)]) S.1 S.2.1 d_V_in_23 hl (by decide) rfl (fun ls hl => ?_)
        refine lv_iconst (v := 0) S.1 S.2.1 d_V_in_25 (by decide) ?_
        refine lv_istore (lv' := [(5, .int 0), (4, .null), (0, .ref (ad 0)), (1, .int a1), (2, .int a2), (3, .int a3)]) S.1 S.2.1 d_V_in_26 hl (by decide) rfl (fun ls hl => ?_)
        rw [show j_V_in n V a1 a2 a3 = j_V_in_h28N n (a3.toNatClampNeg + 1) (s_trap V 0) a2 a3 0 from by rw [j_V_in, if_neg c6, if_pos c13, oc_none hk1]]
        exact w_V_in_h28N l D ad n cI cS cQ hE S hr hlk hK (a3.toNatClampNeg + 1) 0 a2 a3 0 (s_trap V 0) _ _ _ nI_0.symm (by decide) (by omega) c6 c13 hP hS (lv_sub hl [2, 4, 5, 1, 0] rfl)
      · refine lv_astore (lv' := [(4, .ref (ad (6 + k1))), (0, .ref (ad 0)), (1, .int a1), (2, .int a2), (3, .int a3)]) S.1 S.2.1 d_V_in_23 hl (by decide) rfl (fun ls hl => ?_)
        refine lv_iconst (v := 0) S.1 S.2.1 d_V_in_25 (by decide) ?_
        refine lv_istore (lv' := [(5, .int 0), (4, .ref (ad (6 + k1))), (0, .ref (ad 0)), (1, .int a1), (2, .int a2), (3, .int a3)]) S.1 S.2.1 d_V_in_26 hl (by decide) rfl (fun ls hl => ?_)
        rw [show j_V_in n V a1 a2 a3 = j_V_in_h28 n (a3.toNatClampNeg + 1) (s_trap V 0) k1 a2 a3 0 from by rw [j_V_in, if_neg c6, if_pos c13, oc_some hk1]]
        exact w_V_in_h28 l D ad n cI cS cQ hE S hr hlk hK (a3.toNatClampNeg + 1) 0 k1 (find_lt hk1) a2 a3 0 (s_trap V 0) _ _ _ nI_0.symm (by decide) (by omega) c6 c13 hP hS (lv_sub hl [2, 4, 5, 1, 0] rfl)
    · refine lv_iconst (v := (-1)) S.1 S.2.1 d_V_in_16 (by decide) ?_
      rw [show j_V_in n V a1 a2 a3 = ((-1), s_trap V 0) from by rw [j_V_in, if_neg c6, if_neg c13]]
      exact x_iret S hr hlk hP hS d_V_in_17
def j_V_text_h29 (n : Nat) : Nat → VS → Nat → Int32 → Int32 → Int32 → Int32 × VS
  | 0, V, _, _, _, _ => (0, V)
  | f + 1, V, k, a2, a3, x5 =>
      if a3 ≤ x5 then
        ((-1), V)
      else
        if ((j_V_readByte n V k (a2 + x5)).1) = (-1) then
          ((-1), (j_V_readByte n V k (a2 + x5)).2)
        else
          if ((j_V_readByte n V k (a2 + x5)).1) = 0 then
            (x5, s_buf ((j_V_readByte n V k (a2 + x5)).2) x5.toNatClampNeg ((j_V_readByte n V k (a2 + x5)).1))
          else
            j_V_text_h29 n f (s_buf ((j_V_readByte n V k (a2 + x5)).2) x5.toNatClampNeg ((j_V_readByte n V k (a2 + x5)).1)) k a2 a3 (x5 + 1)
set_option maxHeartbeats 4000000 in
set_option maxRecDepth 100000 in
theorem w_V_text_h29 (hE : xE ad n) {p : Program} {e : Env} {s : State} {m : MethodId} {args : Array Value} {below : List Frame} {meth : Method} {c : Code} (S : CallFix p m c b_V_text 7 s args TG "PageVault") (hr : meth.sig.returnType = some .int) (hlk : meth.locks = false) (hK : xK D cI cS cQ s) :
    ∀ (f i : Nat) (k : Nat) (hk : k < 16) (a2 a3 x5 : Int32) (V : VS) (H : Heap) (locs : List Loc) (ls : Array Slot), x5 = nI i → i < 2 ^ 31 → a3.toNatClampNeg - i < f → ¬ a3 < 0 → a3 ≤ 512 → XP D ad n cI cS cQ V H → va_S (iA ad (xN n)) s.heap H locs → lv_has ls 7 [(0, .ref (ad 0)), (2, .int a2), (3, .int a3), (4, .ref (ad (6 + k))), (5, .int x5)] → W p l e ({ frames := 7, cells := 0, slots := 0, locals := 179 }) s m args below meth c H locs 0 0 (MQ below (gPost D ad (xN n) (some (.int (j_V_text_h29 n f V k a2 a3 x5).1)) (xc ad n cI cS cQ ((j_V_text_h29 n f V k a2 a3 x5).2))) args s 0 0 (iA ad (xN n))) (F0 m 29 ls []) := by
  intro f
  induction f with
  | zero =>
    intro i k hk a2 a3 x5 V H locs ls ek hi hf h3 h5 hP hS hl
    exact absurd hf (Nat.not_lt_zero _)
  | succ f ih =>
    intro i k hk a2 a3 x5 V H locs ls ek hi hf h3 h5 hP hS hl
    refine lv_iload S.1 S.2.1 d_V_text_29 (lv_at hl 4 rfl) ?_
    refine lv_iload_n S.1 S.2.1 d_V_text_31 rfl (lv_at hl 2 rfl) ?_
    refine lv_icmp_ge (tgt := 78) S.1 S.2.1 d_V_text_32 (by decide) (fun c32 => ?_) (fun c32 => ?_)
    · refine lv_iconst (v := (-1)) S.1 S.2.1 d_V_text_78 (by decide) ?_
      rw [show j_V_text_h29 n (f + 1) V k a2 a3 x5 = ((-1), V) from by rw [j_V_text_h29, if_pos c32]]
      exact x_iret S hr hlk hP hS d_V_text_79
    · refine lv_aload_n S.1 S.2.1 d_V_text_35 rfl (lv_at hl 0 rfl) ?_
      refine lv_aload S.1 S.2.1 d_V_text_36 (lv_at hl 3 rfl) ?_
      refine lv_iload_n S.1 S.2.1 d_V_text_38 rfl (lv_at hl 1 rfl) ?_
      refine lv_iload S.1 S.2.1 d_V_text_39 (lv_at hl 4 rfl) ?_
      refine lv_iadd S.1 S.2.1 d_V_text_41 ?_
      refine x_callVi (As := [.ref (ad (6 + k)), .int (a2 + x5)]) (rest := []) S hK ci_V_118 (c_V_readByte l D ad n cI cS cQ hE V k hk (a2 + x5)) (x_recV hK hP) hP hS ⟨rfl, rfl, Nat.le_of_ble_eq_true rfl, Nat.le_of_ble_eq_true rfl⟩ rfl hl.1 rfl (Nat.le_of_ble_eq_true rfl) d_V_text_42 (fun H locs hP hS => ?_)
      refine lv_istore (lv' := [(6, .int ((j_V_readByte n V k (a2 + x5)).1)), (0, .ref (ad 0)), (2, .int a2), (3, .int a3), (4, .ref (ad (6 + k))), (5, .int x5)]) S.1 S.2.1 d_V_text_45 hl (by decide) rfl (fun ls hl => ?_)
      refine lv_iload S.1 S.2.1 d_V_text_47 (lv_at hl 0 rfl) ?_
      refine lv_iconst (v := (-1)) S.1 S.2.1 d_V_text_49 (by decide) ?_
      refine lv_icmp_ne (tgt := 55) S.1 S.2.1 d_V_text_50 (by decide) (fun c50 => ?_) (fun c50 => ?_)
      · refine lv_aload_n S.1 S.2.1 d_V_text_55 rfl (lv_at hl 1 rfl) ?_
        refine x_get_buffer S hK hP tg_51 d_V_text_56 ?_
        refine lv_iload S.1 S.2.1 d_V_text_59 (lv_at hl 5 rfl) ?_
        refine lv_iload S.1 S.2.1 d_V_text_61 (lv_at hl 0 rfl) ?_
        refine x_ast_buffer S hE hK hP hS (vin_n h3 h5 (lp_nn ek hi) c32) d_V_text_63 (fun H locs hP hS => ?_)
        refine lv_iload S.1 S.2.1 d_V_text_64 (lv_at hl 0 rfl) ?_
        refine lv_if_ne (tgt := 72) S.1 S.2.1 d_V_text_66 (by decide) (fun c66 => ?_) (fun c66 => ?_)
        · refine lv_iinc (v := x5 + 1) (lv' := [(5, .int (x5 + 1)), (6, .int ((j_V_readByte n V k (a2 + x5)).1)), (0, .ref (ad 0)), (2, .int a2), (3, .int a3), (4, .ref (ad (6 + k)))]) S.1 S.2.1 d_V_text_72 hl (k := 5) rfl rfl (by decide) rfl (fun ls hl => ?_)
          refine lv_goto (tgt := 29) S.1 S.2.1 d_V_text_75 (by decide) ?_
          have hn9 := hE.2
          have hn8 := c512 h3 h5
          have hB := lp_lt (B := a3.toNatClampNeg) (nI_self h3) (clamp_lt _) ek hi c32
          rw [show j_V_text_h29 n (f + 1) V k a2 a3 x5 = j_V_text_h29 n f (s_buf ((j_V_readByte n V k (a2 + x5)).2) x5.toNatClampNeg ((j_V_readByte n V k (a2 + x5)).1)) k a2 a3 (x5 + 1) from by rw [j_V_text_h29, if_neg c32, if_neg c50, if_neg c66]]
          exact ih (i + 1) k hk a2 a3 (x5 + 1) (s_buf ((j_V_readByte n V k (a2 + x5)).2) x5.toNatClampNeg ((j_V_readByte n V k (a2 + x5)).1)) _ _ _ (by rw [ek]; exact nI_1 i) (by omega) (by omega) h3 h5 hP hS (lv_sub hl [2, 3, 4, 5, 0] rfl)
        · refine lv_iload S.1 S.2.1 d_V_text_69 (lv_at hl 5 rfl) ?_
          rw [show j_V_text_h29 n (f + 1) V k a2 a3 x5 = (x5, s_buf ((j_V_readByte n V k (a2 + x5)).2) x5.toNatClampNeg ((j_V_readByte n V k (a2 + x5)).1)) from by rw [j_V_text_h29, if_neg c32, if_neg c50, if_pos c66]]
          exact x_iret S hr hlk hP hS d_V_text_71
      · refine lv_iconst (v := (-1)) S.1 S.2.1 d_V_text_53 (by decide) ?_
        rw [show j_V_text_h29 n (f + 1) V k a2 a3 x5 = ((-1), (j_V_readByte n V k (a2 + x5)).2) from by rw [j_V_text_h29, if_neg c32, if_pos c50]]
        exact x_iret S hr hlk hP hS d_V_text_54
def j_V_text_h29N (n : Nat) : Nat → VS → Int32 → Int32 → Int32 → Int32 × VS
  | 0, V, _, _, _ => (0, V)
  | f + 1, V, a2, a3, x5 =>
      if a3 ≤ x5 then
        ((-1), V)
      else
        if ((j_V_readByteN n V (a2 + x5)).1) = (-1) then
          ((-1), (j_V_readByteN n V (a2 + x5)).2)
        else
          if ((j_V_readByteN n V (a2 + x5)).1) = 0 then
            (x5, s_buf ((j_V_readByteN n V (a2 + x5)).2) x5.toNatClampNeg ((j_V_readByteN n V (a2 + x5)).1))
          else
            j_V_text_h29N n f (s_buf ((j_V_readByteN n V (a2 + x5)).2) x5.toNatClampNeg ((j_V_readByteN n V (a2 + x5)).1)) a2 a3 (x5 + 1)
set_option maxHeartbeats 4000000 in
set_option maxRecDepth 100000 in
theorem w_V_text_h29N (hE : xE ad n) {p : Program} {e : Env} {s : State} {m : MethodId} {args : Array Value} {below : List Frame} {meth : Method} {c : Code} (S : CallFix p m c b_V_text 7 s args TG "PageVault") (hr : meth.sig.returnType = some .int) (hlk : meth.locks = false) (hK : xK D cI cS cQ s) :
    ∀ (f i : Nat) (a2 a3 x5 : Int32) (V : VS) (H : Heap) (locs : List Loc) (ls : Array Slot), x5 = nI i → i < 2 ^ 31 → a3.toNatClampNeg - i < f → ¬ a3 < 0 → a3 ≤ 512 → XP D ad n cI cS cQ V H → va_S (iA ad (xN n)) s.heap H locs → lv_has ls 7 [(0, .ref (ad 0)), (2, .int a2), (3, .int a3), (4, .null), (5, .int x5)] → W p l e ({ frames := 7, cells := 0, slots := 0, locals := 179 }) s m args below meth c H locs 0 0 (MQ below (gPost D ad (xN n) (some (.int (j_V_text_h29N n f V a2 a3 x5).1)) (xc ad n cI cS cQ ((j_V_text_h29N n f V a2 a3 x5).2))) args s 0 0 (iA ad (xN n))) (F0 m 29 ls []) := by
  intro f
  induction f with
  | zero =>
    intro i a2 a3 x5 V H locs ls ek hi hf h3 h5 hP hS hl
    exact absurd hf (Nat.not_lt_zero _)
  | succ f ih =>
    intro i a2 a3 x5 V H locs ls ek hi hf h3 h5 hP hS hl
    refine lv_iload S.1 S.2.1 d_V_text_29 (lv_at hl 4 rfl) ?_
    refine lv_iload_n S.1 S.2.1 d_V_text_31 rfl (lv_at hl 2 rfl) ?_
    refine lv_icmp_ge (tgt := 78) S.1 S.2.1 d_V_text_32 (by decide) (fun c32 => ?_) (fun c32 => ?_)
    · refine lv_iconst (v := (-1)) S.1 S.2.1 d_V_text_78 (by decide) ?_
      rw [show j_V_text_h29N n (f + 1) V a2 a3 x5 = ((-1), V) from by rw [j_V_text_h29N, if_pos c32]]
      exact x_iret S hr hlk hP hS d_V_text_79
    · refine lv_aload_n S.1 S.2.1 d_V_text_35 rfl (lv_at hl 0 rfl) ?_
      refine lv_aloadN S.1 S.2.1 d_V_text_36 (lv_at hl 3 rfl) ?_
      refine lv_iload_n S.1 S.2.1 d_V_text_38 rfl (lv_at hl 1 rfl) ?_
      refine lv_iload S.1 S.2.1 d_V_text_39 (lv_at hl 4 rfl) ?_
      refine lv_iadd S.1 S.2.1 d_V_text_41 ?_
      refine x_callVi (As := [.null, .int (a2 + x5)]) (rest := []) S hK ci_V_118 (c_V_readByteN l D ad n cI cS cQ hE V (a2 + x5)) (x_recV hK hP) hP hS ⟨rfl, rfl, Nat.le_of_ble_eq_true rfl, Nat.le_of_ble_eq_true rfl⟩ rfl hl.1 rfl (Nat.le_of_ble_eq_true rfl) d_V_text_42 (fun H locs hP hS => ?_)
      refine lv_istore (lv' := [(6, .int ((j_V_readByteN n V (a2 + x5)).1)), (0, .ref (ad 0)), (2, .int a2), (3, .int a3), (4, .null), (5, .int x5)]) S.1 S.2.1 d_V_text_45 hl (by decide) rfl (fun ls hl => ?_)
      refine lv_iload S.1 S.2.1 d_V_text_47 (lv_at hl 0 rfl) ?_
      refine lv_iconst (v := (-1)) S.1 S.2.1 d_V_text_49 (by decide) ?_
      refine lv_icmp_ne (tgt := 55) S.1 S.2.1 d_V_text_50 (by decide) (fun c50 => ?_) (fun c50 => ?_)
      · refine lv_aload_n S.1 S.2.1 d_V_text_55 rfl (lv_at hl 1 rfl) ?_
        refine x_get_buffer S hK hP tg_51 d_V_text_56 ?_
        refine lv_iload S.1 S.2.1 d_V_text_59 (lv_at hl 5 rfl) ?_
        refine lv_iload S.1 S.2.1 d_V_text_61 (lv_at hl 0 rfl) ?_
        refine x_ast_buffer S hE hK hP hS (vin_n h3 h5 (lp_nn ek hi) c32) d_V_text_63 (fun H locs hP hS => ?_)
        refine lv_iload S.1 S.2.1 d_V_text_64 (lv_at hl 0 rfl) ?_
        refine lv_if_ne (tgt := 72) S.1 S.2.1 d_V_text_66 (by decide) (fun c66 => ?_) (fun c66 => ?_)
        · refine lv_iinc (v := x5 + 1) (lv' := [(5, .int (x5 + 1)), (6, .int ((j_V_readByteN n V (a2 + x5)).1)), (0, .ref (ad 0)), (2, .int a2), (3, .int a3), (4, .null)]) S.1 S.2.1 d_V_text_72 hl (k := 5) rfl rfl (by decide) rfl (fun ls hl => ?_)
          refine lv_goto (tgt := 29) S.1 S.2.1 d_V_text_75 (by decide) ?_
          have hn9 := hE.2
          have hn8 := c512 h3 h5
          have hB := lp_lt (B := a3.toNatClampNeg) (nI_self h3) (clamp_lt _) ek hi c32
          rw [show j_V_text_h29N n (f + 1) V a2 a3 x5 = j_V_text_h29N n f (s_buf ((j_V_readByteN n V (a2 + x5)).2) x5.toNatClampNeg ((j_V_readByteN n V (a2 + x5)).1)) a2 a3 (x5 + 1) from by rw [j_V_text_h29N, if_neg c32, if_neg c50, if_neg c66]]
          exact ih (i + 1)  a2 a3 (x5 + 1) (s_buf ((j_V_readByteN n V (a2 + x5)).2) x5.toNatClampNeg ((j_V_readByteN n V (a2 + x5)).1)) _ _ _ (by rw [ek]; exact nI_1 i) (by omega) (by omega) h3 h5 hP hS (lv_sub hl [2, 3, 4, 5, 0] rfl)
        · refine lv_iload S.1 S.2.1 d_V_text_69 (lv_at hl 5 rfl) ?_
          rw [show j_V_text_h29N n (f + 1) V a2 a3 x5 = (x5, s_buf ((j_V_readByteN n V (a2 + x5)).2) x5.toNatClampNeg ((j_V_readByteN n V (a2 + x5)).1)) from by rw [j_V_text_h29N, if_neg c32, if_neg c50, if_pos c66]]
          exact x_iret S hr hlk hP hS d_V_text_71
      · refine lv_iconst (v := (-1)) S.1 S.2.1 d_V_text_53 (by decide) ?_
        rw [show j_V_text_h29N n (f + 1) V a2 a3 x5 = ((-1), (j_V_readByteN n V (a2 + x5)).2) from by rw [j_V_text_h29N, if_neg c32, if_pos c50]]
        exact x_iret S hr hlk hP hS d_V_text_54
/-- PageVault.text(III)I -/
def j_V_text (n : Nat) (V : VS) (a1 : Int32) (a2 : Int32) (a3 : Int32) : Int32 × VS :=
  if a3 < 1 then
    ((-1), s_trap V 0)
  else
    if a3 ≤ 512 then
      oc (j_V_find (s_trap V 0) a1) (
        j_V_text_h29N n (a3.toNatClampNeg + 1) (s_trap V 0) a2 a3 0) (fun k1 =>
        j_V_text_h29 n (a3.toNatClampNeg + 1) (s_trap V 0) k1 a2 a3 0)
    else
      ((-1), s_trap V 0)
set_option maxHeartbeats 4000000 in
set_option maxRecDepth 100000 in
theorem c_V_text (hE : xE ad n) (V : VS) (a1 : Int32) (a2 : Int32) (a3 : Int32) : XC l D ad n cI cS cQ y_V_text b_V_text 7 (some .int) ({ frames := 7, cells := 0, slots := 0, locals := 179 }) [.ref (ad 0), .int a1, .int a2, .int a3] V (some (.int (j_V_text n V a1 a2 a3).1)) ((j_V_text n V a1 a2 a3).2) := by
  refine FC_intro (by decide) (Nat.le_of_ble_eq_true rfl) ?_
  intro p e s m below meth c ls S hr hlk hK hP hS hl
  have S : CallFix p m c b_V_text 7 s _ TG "PageVault" := S
  have hl : lv_has ls 7 [(0, .ref (ad 0)), (1, .int a1), (2, .int a2), (3, .int a3)] := hl
  refine lv_aload_n S.1 S.2.1 d_V_text_0 rfl (lv_at hl 0 rfl) ?_
  refine lv_iconst (v := 0) S.1 S.2.1 d_V_text_1 (by decide) ?_
  refine x_put_trap S hE hK hP hS tg_289 d_V_text_2 (fun H locs hP hS => ?_)
  refine lv_iload_n S.1 S.2.1 d_V_text_5 rfl (lv_at hl 3 rfl) ?_
  refine lv_iconst (v := 1) S.1 S.2.1 d_V_text_6 (by decide) ?_
  refine lv_icmp_lt (tgt := 17) S.1 S.2.1 d_V_text_7 (by decide) (fun c7 => ?_) (fun c7 => ?_)
  · refine lv_iconst (v := (-1)) S.1 S.2.1 d_V_text_17 (by decide) ?_
    rw [show j_V_text n V a1 a2 a3 = ((-1), s_trap V 0) from by rw [j_V_text, if_pos c7]]
    exact x_iret S hr hlk hP hS d_V_text_18
  · refine lv_iload_n S.1 S.2.1 d_V_text_10 rfl (lv_at hl 3 rfl) ?_
    refine lv_sipush (v := 512) S.1 S.2.1 d_V_text_11 (by decide) ?_
    refine lv_icmp_le (tgt := 19) S.1 S.2.1 d_V_text_14 (by decide) (fun c14 => ?_) (fun c14 => ?_)
    · refine lv_aload_n S.1 S.2.1 d_V_text_19 rfl (lv_at hl 0 rfl) ?_
      refine lv_iload_n S.1 S.2.1 d_V_text_20 rfl (lv_at hl 1 rfl) ?_
      refine x_callVq (As := [.int a1]) (rest := []) S hK ci_V_50 (c_V_find l D ad n cI cS cQ hE (s_trap V 0) a1) (x_recV hK hP) hP hS ⟨rfl, rfl, Nat.le_of_ble_eq_true rfl, Nat.le_of_ble_eq_true rfl⟩ rfl hl.1 rfl (Nat.le_of_ble_eq_true rfl) d_V_text_21 (fun hk1 H locs hP hS => ?_) (fun k1 hk1 H locs hP hS => ?_)
      · refine lv_astoreN (lv' := [(4, .null), (0, .ref (ad 0)), (1, .int a1), (2, .int a2), (3, .int a3)]) S.1 S.2.1 d_V_text_24 hl (by decide) rfl (fun ls hl => ?_)
        refine lv_iconst (v := 0) S.1 S.2.1 d_V_text_26 (by decide) ?_
        refine lv_istore (lv' := [(5, .int 0), (4, .null), (0, .ref (ad 0)), (1, .int a1), (2, .int a2), (3, .int a3)]) S.1 S.2.1 d_V_text_27 hl (by decide) rfl (fun ls hl => ?_)
        rw [show j_V_text n V a1 a2 a3 = j_V_text_h29N n (a3.toNatClampNeg + 1) (s_trap V 0) a2 a3 0 from by rw [j_V_text, if_neg c7, if_pos c14, oc_none hk1]]
        exact w_V_text_h29N l D ad n cI cS cQ hE S hr hlk hK (a3.toNatClampNeg + 1) 0 a2 a3 0 (s_trap V 0) _ _ _ nI_0.symm (by decide) (by omega) (nn_of1 c7) c14 hP hS (lv_sub hl [2, 4, 5, 1, 0] rfl)
      · refine lv_astore (lv' := [(4, .ref (ad (6 + k1))), (0, .ref (ad 0)), (1, .int a1), (2, .int a2), (3, .int a3)]) S.1 S.2.1 d_V_text_24 hl (by decide) rfl (fun ls hl => ?_)
        refine lv_iconst (v := 0) S.1 S.2.1 d_V_text_26 (by decide) ?_
        refine lv_istore (lv' := [(5, .int 0), (4, .ref (ad (6 + k1))), (0, .ref (ad 0)), (1, .int a1), (2, .int a2), (3, .int a3)]) S.1 S.2.1 d_V_text_27 hl (by decide) rfl (fun ls hl => ?_)
        rw [show j_V_text n V a1 a2 a3 = j_V_text_h29 n (a3.toNatClampNeg + 1) (s_trap V 0) k1 a2 a3 0 from by rw [j_V_text, if_neg c7, if_pos c14, oc_some hk1]]
        exact w_V_text_h29 l D ad n cI cS cQ hE S hr hlk hK (a3.toNatClampNeg + 1) 0 k1 (find_lt hk1) a2 a3 0 (s_trap V 0) _ _ _ nI_0.symm (by decide) (by omega) (nn_of1 c7) c14 hP hS (lv_sub hl [2, 4, 5, 1, 0] rfl)
    · refine lv_iconst (v := (-1)) S.1 S.2.1 d_V_text_17 (by decide) ?_
      rw [show j_V_text n V a1 a2 a3 = ((-1), s_trap V 0) from by rw [j_V_text, if_neg c7, if_neg c14]]
      exact x_iret S hr hlk hP hS d_V_text_18
/-- PageVault.put(II)Z -/
def j_V_put (V : VS) (a1 : Int32) (a2 : Int32) : Int32 × VS :=
  if a1 < 0 then
    (0, V)
  else
    if 512 ≤ a1 then
      (0, V)
    else
      if a2 < 0 then
        (0, V)
      else
        if a2 ≤ 255 then
          (1, s_buf V a1.toNatClampNeg a2)
        else
          (0, V)
set_option maxHeartbeats 4000000 in
set_option maxRecDepth 100000 in
theorem c_V_put (hE : xE ad n) (V : VS) (a1 : Int32) (a2 : Int32) : XC l D ad n cI cS cQ y_V_put b_V_put 3 (some .boolean) ({ frames := 0, cells := 0, slots := 0, locals := 0 }) [.ref (ad 0), .int a1, .int a2] V (some (.int (j_V_put V a1 a2).1)) ((j_V_put V a1 a2).2) := by
  refine FC_intro (by decide) (Nat.le_of_ble_eq_true rfl) ?_
  intro p e s m below meth c ls S hr hlk hK hP hS hl
  have S : CallFix p m c b_V_put 3 s _ TG "PageVault" := S
  have hl : lv_has ls 3 [(0, .ref (ad 0)), (1, .int a1), (2, .int a2)] := hl
  refine lv_iload_n S.1 S.2.1 d_V_put_0 rfl (lv_at hl 1 rfl) ?_
  refine lv_if_lt (tgt := 22) S.1 S.2.1 d_V_put_1 (by decide) (fun c1 => ?_) (fun c1 => ?_)
  · refine lv_iconst (v := 0) S.1 S.2.1 d_V_put_22 (by decide) ?_
    rw [show j_V_put V a1 a2 = (0, V) from by rw [j_V_put, if_pos c1]]
    exact x_zret (v := 0) S hr hlk rfl hP hS d_V_put_23
  · refine lv_iload_n S.1 S.2.1 d_V_put_4 rfl (lv_at hl 1 rfl) ?_
    refine lv_sipush (v := 512) S.1 S.2.1 d_V_put_5 (by decide) ?_
    refine lv_icmp_ge (tgt := 22) S.1 S.2.1 d_V_put_8 (by decide) (fun c8 => ?_) (fun c8 => ?_)
    · refine lv_iconst (v := 0) S.1 S.2.1 d_V_put_22 (by decide) ?_
      rw [show j_V_put V a1 a2 = (0, V) from by rw [j_V_put, if_neg c1, if_pos c8]]
      exact x_zret (v := 0) S hr hlk rfl hP hS d_V_put_23
    · refine lv_iload_n S.1 S.2.1 d_V_put_11 rfl (lv_at hl 2 rfl) ?_
      refine lv_if_lt (tgt := 22) S.1 S.2.1 d_V_put_12 (by decide) (fun c12 => ?_) (fun c12 => ?_)
      · refine lv_iconst (v := 0) S.1 S.2.1 d_V_put_22 (by decide) ?_
        rw [show j_V_put V a1 a2 = (0, V) from by rw [j_V_put, if_neg c1, if_neg c8, if_pos c12]]
        exact x_zret (v := 0) S hr hlk rfl hP hS d_V_put_23
      · refine lv_iload_n S.1 S.2.1 d_V_put_15 rfl (lv_at hl 2 rfl) ?_
        refine lv_sipush (v := 255) S.1 S.2.1 d_V_put_16 (by decide) ?_
        refine lv_icmp_le (tgt := 24) S.1 S.2.1 d_V_put_19 (by decide) (fun c19 => ?_) (fun c19 => ?_)
        · refine lv_aload_n S.1 S.2.1 d_V_put_24 rfl (lv_at hl 0 rfl) ?_
          refine x_get_buffer S hK hP tg_51 d_V_put_25 ?_
          refine lv_iload_n S.1 S.2.1 d_V_put_28 rfl (lv_at hl 1 rfl) ?_
          refine lv_iload_n S.1 S.2.1 d_V_put_29 rfl (lv_at hl 2 rfl) ?_
          refine x_ast_buffer S hE hK hP hS (vin_c (B := 512) (by decide) (by decide) c1 c8) d_V_put_30 (fun H locs hP hS => ?_)
          refine lv_iconst (v := 1) S.1 S.2.1 d_V_put_31 (by decide) ?_
          rw [show j_V_put V a1 a2 = (1, s_buf V a1.toNatClampNeg a2) from by rw [j_V_put, if_neg c1, if_neg c8, if_neg c12, if_pos c19]]
          exact x_zret (v := 1) S hr hlk rfl hP hS d_V_put_32
        · refine lv_iconst (v := 0) S.1 S.2.1 d_V_put_22 (by decide) ?_
          rw [show j_V_put V a1 a2 = (0, V) from by rw [j_V_put, if_neg c1, if_neg c8, if_neg c12, if_neg c19]]
          exact x_zret (v := 0) S hr hlk rfl hP hS d_V_put_23
/-- PageVault.at(I)I -/
def j_V_at (V : VS) (a1 : Int32) : Int32 :=
  if a1 < 0 then
    (-1)
  else
    if a1 < 512 then
      v_buf V a1.toNatClampNeg
    else
      (-1)
set_option maxHeartbeats 4000000 in
set_option maxRecDepth 100000 in
theorem c_V_at (hE : xE ad n) (V : VS) (a1 : Int32) : XC l D ad n cI cS cQ y_V_at b_V_at 2 (some .int) ({ frames := 0, cells := 0, slots := 0, locals := 0 }) [.ref (ad 0), .int a1] V (some (.int (j_V_at V a1))) (V) := by
  refine FC_intro (by decide) (Nat.le_of_ble_eq_true rfl) ?_
  intro p e s m below meth c ls S hr hlk hK hP hS hl
  have S : CallFix p m c b_V_at 2 s _ TG "PageVault" := S
  have hl : lv_has ls 2 [(0, .ref (ad 0)), (1, .int a1)] := hl
  refine lv_iload_n S.1 S.2.1 d_V_at_0 rfl (lv_at hl 1 rfl) ?_
  refine lv_if_lt (tgt := 11) S.1 S.2.1 d_V_at_1 (by decide) (fun c1 => ?_) (fun c1 => ?_)
  · refine lv_iconst (v := (-1)) S.1 S.2.1 d_V_at_11 (by decide) ?_
    refine lv_goto (tgt := 21) S.1 S.2.1 d_V_at_12 (by decide) ?_
    rw [show j_V_at V a1 = (-1) from by rw [j_V_at, if_pos c1]]
    exact x_iret S hr hlk hP hS d_V_at_21
  · refine lv_iload_n S.1 S.2.1 d_V_at_4 rfl (lv_at hl 1 rfl) ?_
    refine lv_sipush (v := 512) S.1 S.2.1 d_V_at_5 (by decide) ?_
    refine lv_icmp_lt (tgt := 15) S.1 S.2.1 d_V_at_8 (by decide) (fun c8 => ?_) (fun c8 => ?_)
    · refine lv_aload_n S.1 S.2.1 d_V_at_15 rfl (lv_at hl 0 rfl) ?_
      refine x_get_buffer S hK hP tg_51 d_V_at_16 ?_
      refine lv_iload_n S.1 S.2.1 d_V_at_19 rfl (lv_at hl 1 rfl) ?_
      refine x_ald_buffer S hK hP (vin_d (B := 512) (by decide) (by decide) c1 c8) d_V_at_20 ?_
      rw [show j_V_at V a1 = v_buf V a1.toNatClampNeg from by rw [j_V_at, if_neg c1, if_pos c8]]
      exact x_iret S hr hlk hP hS d_V_at_21
    · refine lv_iconst (v := (-1)) S.1 S.2.1 d_V_at_11 (by decide) ?_
      refine lv_goto (tgt := 21) S.1 S.2.1 d_V_at_12 (by decide) ?_
      rw [show j_V_at V a1 = (-1) from by rw [j_V_at, if_neg c1, if_neg c8]]
      exact x_iret S hr hlk hP hS d_V_at_21
/-- PageVault.free()I -/
def j_V_free (V : VS) : Int32 :=
  j_F_spare V
set_option maxHeartbeats 4000000 in
set_option maxRecDepth 100000 in
theorem c_V_free (hE : xE ad n) (V : VS)  : XC l D ad n cI cS cQ y_V_free b_V_free 1 (some .int) ({ frames := 1, cells := 0, slots := 0, locals := 20 }) [.ref (ad 0)] V (some (.int (j_V_free V))) (V) := by
  refine FC_intro (by decide) (Nat.le_of_ble_eq_true rfl) ?_
  intro p e s m below meth c ls S hr hlk hK hP hS hl
  have S : CallFix p m c b_V_free 1 s _ TG "PageVault" := S
  have hl : lv_has ls 1 [(0, .ref (ad 0))] := hl
  refine lv_aload_n S.1 S.2.1 d_V_free_0 rfl (lv_at hl 0 rfl) ?_
  refine x_get_frames S hK hP tg_49 d_V_free_1 ?_
  refine x_callVi (As := []) (rest := []) S hK ci_V_44 (c_F_spare l D ad n cI cS cQ hE V) (x_recF hK hP) hP hS ⟨rfl, rfl, Nat.le_of_ble_eq_true rfl, Nat.le_of_ble_eq_true rfl⟩ rfl hl.1 rfl (Nat.le_of_ble_eq_true rfl) d_V_free_4 (fun H locs hP hS => ?_)
  rw [show j_V_free V = j_F_spare V from by rw [j_V_free]]
  exact x_iret S hr hlk hP hS d_V_free_7
end XW
