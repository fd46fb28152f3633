section MW
variable (l : Launch) (D : va_G) (ad : Nat → Nat) (cI cZ : ClassId)
/-- PageVaultModel.byteOf(II)I -/
def j_M_byteOf (V : MS) (a1 : Int32) (a2 : Int32) : Int32 :=
  j_M_byteOf_h13 ((m_deeds V).toNatClampNeg + 1) V a1 a2 ((m_deeds V) - 1)
/-- what it needs -/
def p_M_byteOf (V : MS) (a1 : Int32) (a2 : Int32) : Prop :=
  (¬ (m_deeds V) < 0) ∧ (
    p_M_byteOf_h13 ((m_deeds V).toNatClampNeg + 1) V a1 a2 ((m_deeds V) - 1))
set_option maxHeartbeats 4000000 in
set_option maxRecDepth 100000 in
theorem c_M_byteOf (hE : mE ad) (V : MS) (a1 : Int32) (a2 : Int32) (hp : p_M_byteOf V a1 a2) : MC l D ad cI cZ y_M_byteOf b_M_byteOf 9 (some .int) ({ frames := 0, cells := 0, slots := 0, locals := 0 }) [.ref (ad 0), .int a1, .int a2] V (some (.int (j_M_byteOf V a1 a2))) (V) := by
  refine FC_intro (by decide) (Nat.le_of_ble_eq_true rfl) ?_
  intro p e s m below meth c ls S hr hlk hK hP hS hl
  have S : CallFix p m c b_M_byteOf 9 s _ TG "PageVaultModel" := S
  have hl : lv_has ls 9 [(0, .ref (ad 0)), (1, .int a1), (2, .int a2)] := hl
  rw [p_M_byteOf] at hp
  refine lv_iload_n S.1 S.2.1 d_M_byteOf_0 rfl (lv_at hl 1 rfl) ?_
  refine lv_istore_n (lv' := [(3, .int a1), (0, .ref (ad 0)), (1, .int a1), (2, .int a2)]) S.1 S.2.1 d_M_byteOf_1 rfl hl (by decide) rfl (fun ls hl => ?_)
  refine lv_iload_n S.1 S.2.1 d_M_byteOf_2 rfl (lv_at hl 3 rfl) ?_
  refine lv_istore (lv' := [(4, .int a2), (3, .int a1), (0, .ref (ad 0)), (1, .int a1), (2, .int a2)]) S.1 S.2.1 d_M_byteOf_3 hl (by decide) rfl (fun ls hl => ?_)
  refine lv_aload_n S.1 S.2.1 d_M_byteOf_5 rfl (lv_at hl 2 rfl) ?_
  refine m_get_deeds S hK hP tg_66 d_M_byteOf_6 ?_
  refine lv_iconst (v := 1) S.1 S.2.1 d_M_byteOf_9 (by decide) ?_
  refine lv_isub S.1 S.2.1 d_M_byteOf_10 ?_
  refine lv_istore (lv' := [(5, .int ((m_deeds V) - 1)), (4, .int a2), (3, .int a1), (0, .ref (ad 0)), (1, .int a1), (2, .int a2)]) S.1 S.2.1 d_M_byteOf_11 hl (by decide) rfl (fun ls hl => ?_)
  obtain ⟨o1, hp⟩ := hp
  rw [show j_M_byteOf V a1 a2 = j_M_byteOf_h13 ((m_deeds V).toNatClampNeg + 1) V a1 a2 ((m_deeds V) - 1) from by rw [j_M_byteOf]]
  exact w_M_byteOf_h13 l D ad cI cZ hE S hr hlk hK ((m_deeds V).toNatClampNeg + 1) ((m_deeds V).toNatClampNeg) a1 a2 ((m_deeds V) - 1) V _ _ _ (dn_0 o1) (clamp_lt _) (Nat.lt_succ_self _) hp hP hS (lv_sub hl [3, 2, 1, 0] rfl)
/-- PageVaultModel.lives(I)Z -/
def j_M_lives (V : MS) (a1 : Int32) : Int32 :=
  if a1 < 0 then
    0
  else
    if 16 ≤ a1 then
      0
    else
      if (m_alive V a1.toNatClampNeg) = 0 then
        0
      else
        1
theorem lives_in {V : MS} {x : Int32} (h : ¬ j_M_lives V x = 0) : vp_in x 16 := by
  unfold j_M_lives at h
  by_cases c1 : x < 0
  · rw [if_pos c1] at h
    exact absurd rfl h
  · rw [if_neg c1] at h
    by_cases c2 : 16 ≤ x
    · rw [if_pos c2] at h
      exact absurd rfl h
    · exact vin_c (by decide) (by decide) c1 c2
set_option maxHeartbeats 4000000 in
set_option maxRecDepth 100000 in
theorem c_M_lives (hE : mE ad) (V : MS) (a1 : Int32) : MC l D ad cI cZ y_M_lives b_M_lives 2 (some .boolean) ({ frames := 0, cells := 0, slots := 0, locals := 0 }) [.ref (ad 0), .int a1] V (some (.int (j_M_lives V a1))) (V) := by
  refine FC_intro (by decide) (Nat.le_of_ble_eq_true rfl) ?_
  intro p e s m below meth c ls S hr hlk hK hP hS hl
  have S : CallFix p m c b_M_lives 2 s _ TG "PageVaultModel" := S
  have hl : lv_has ls 2 [(0, .ref (ad 0)), (1, .int a1)] := hl
  refine lv_iload_n S.1 S.2.1 d_M_lives_0 rfl (lv_at hl 1 rfl) ?_
  refine lv_if_lt (tgt := 23) S.1 S.2.1 d_M_lives_1 (by decide) (fun c1 => ?_) (fun c1 => ?_)
  · have c1 : a1 < 0 := c1
    refine lv_iconst (v := 0) S.1 S.2.1 d_M_lives_23 (by decide) ?_
    rw [show j_M_lives V a1 = 0 from by rw [j_M_lives, if_pos c1]]
    exact m_zret (v := 0) S hr hlk rfl hP hS d_M_lives_24
  · have c1 : ¬ (a1 < 0) := c1
    refine lv_iload_n S.1 S.2.1 d_M_lives_4 rfl (lv_at hl 1 rfl) ?_
    refine lv_bipush (v := 16) S.1 S.2.1 d_M_lives_5 (by decide) ?_
    refine lv_icmp_ge (tgt := 23) S.1 S.2.1 d_M_lives_7 (by decide) (fun c7 => ?_) (fun c7 => ?_)
    · have c7 : 16 ≤ a1 := c7
      refine lv_iconst (v := 0) S.1 S.2.1 d_M_lives_23 (by decide) ?_
      rw [show j_M_lives V a1 = 0 from by rw [j_M_lives, if_neg c1, if_pos c7]]
      exact m_zret (v := 0) S hr hlk rfl hP hS d_M_lives_24
    · have c7 : ¬ (16 ≤ a1) := c7
      refine lv_aload_n S.1 S.2.1 d_M_lives_10 rfl (lv_at hl 0 rfl) ?_
      refine m_get_alive S hK hP tg_52 d_M_lives_11 ?_
      refine lv_iload_n S.1 S.2.1 d_M_lives_14 rfl (lv_at hl 1 rfl) ?_
      refine m_ald_alive S hK hP (vin_c (B := 16) (by decide) (by decide) c1 c7) d_M_lives_15 ?_
      refine lv_if_eq (tgt := 23) S.1 S.2.1 d_M_lives_16 (by decide) (fun c16 => ?_) (fun c16 => ?_)
      · have c16 : (m_alive V a1.toNatClampNeg) = 0 := c16
        refine lv_iconst (v := 0) S.1 S.2.1 d_M_lives_23 (by decide) ?_
        rw [show j_M_lives V a1 = 0 from by rw [j_M_lives, if_neg c1, if_neg c7, if_pos c16]]
        exact m_zret (v := 0) S hr hlk rfl hP hS d_M_lives_24
      · have c16 : ¬ ((m_alive V a1.toNatClampNeg) = 0) := c16
        refine lv_iconst (v := 1) S.1 S.2.1 d_M_lives_19 (by decide) ?_
        refine lv_goto (tgt := 24) S.1 S.2.1 d_M_lives_20 (by decide) ?_
        rw [show j_M_lives V a1 = 1 from by rw [j_M_lives, if_neg c1, if_neg c7, if_neg c16]]
        exact m_zret (v := 1) S hr hlk rfl hP hS d_M_lives_24
def j_M_row_h8 : Nat → MS → Int32 → Int32 → Int32 → Int32
  | 0, V, _, _, _ => 0
  | f + 1, V, a1, a2, x3 =>
      if (m_pages V) ≤ x3 then
        (-1)
      else
        if (m_ps V x3.toNatClampNeg) = a1 then
          if (m_pn V x3.toNatClampNeg) = (a2 / 4096) then
            x3
          else
            j_M_row_h8 f V a1 a2 (x3 + 1)
        else
          j_M_row_h8 f V a1 a2 (x3 + 1)
def p_M_row_h8 : Nat → MS → Int32 → Int32 → Int32 → Prop
  | 0, _, _, _, _ => True
  | f + 1, V, a1, a2, x3 =>
      if (m_pages V) ≤ x3 then
        True
      else
        (vp_in x3 128) ∧ (
          if (m_ps V x3.toNatClampNeg) = a1 then
            if (m_pn V x3.toNatClampNeg) = (a2 / 4096) then
              True
            else
              p_M_row_h8 f V a1 a2 (x3 + 1)
          else
            p_M_row_h8 f V a1 a2 (x3 + 1))
set_option maxHeartbeats 4000000 in
set_option maxRecDepth 100000 in
theorem w_M_row_h8 (hE : mE ad) {p : Program} {e : Env} {s : State} {m : MethodId} {args : Array Value} {below : List Frame} {meth : Method} {c : Code} (S : CallFix p m c b_M_row 4 s args TG "PageVaultModel") (hr : meth.sig.returnType = some .int) (hlk : meth.locks = false) (hK : mK D cI cZ s) :
    ∀ (f i : Nat) (a1 a2 x3 : Int32) (V : MS) (H : Heap) (locs : List Loc) (ls : Array Slot), x3 = nI i → i < 2 ^ 31 → (m_pages V).toNatClampNeg - i < f → p_M_row_h8 f V a1 a2 x3 → MP D ad cI cZ (V) H → va_S (iA ad mN) s.heap H locs → lv_has ls 4 [(0, .ref (ad 0)), (1, .int a1), (2, .int a2), (3, .int x3)] → W p l e ({ frames := 0, cells := 0, slots := 0, locals := 0 }) s m args below meth c H locs 0 0 (MQ below (gPost D ad mN (some (.int (j_M_row_h8 f V a1 a2 x3))) (mc ad cI cZ (V))) args s 0 0 (iA ad mN)) (F0 m 8 ls []) := by
  intro f
  induction f with
  | zero =>
    intro i a1 a2 x3 V H locs ls ek hi hf hp hP hS hl
    exact absurd hf (Nat.not_lt_zero _)
  | succ f ih =>
    intro i a1 a2 x3 V H locs ls ek hi hf hp hP hS hl
    rw [p_M_row_h8] at hp
    refine lv_iload_n S.1 S.2.1 d_M_row_8 rfl (lv_at hl 3 rfl) ?_
    refine lv_aload_n S.1 S.2.1 d_M_row_9 rfl (lv_at hl 0 rfl) ?_
    refine m_get_pages S hK hP tg_67 d_M_row_10 ?_
    refine lv_icmp_ge (tgt := 48) S.1 S.2.1 d_M_row_13 (by decide) (fun c13 => ?_) (fun c13 => ?_)
    · have c13 : (m_pages V) ≤ x3 := c13
      rw [if_pos c13] at hp
      refine lv_iconst (v := (-1)) S.1 S.2.1 d_M_row_48 (by decide) ?_
      rw [show j_M_row_h8 (f + 1) V a1 a2 x3 = (-1) from by rw [j_M_row_h8, if_pos c13]]
      exact m_iret S hr hlk hP hS d_M_row_49
    · have c13 : ¬ ((m_pages V) ≤ x3) := c13
      rw [if_neg c13] at hp
      refine lv_aload_n S.1 S.2.1 d_M_row_16 rfl (lv_at hl 0 rfl) ?_
      refine m_get_ps S hK hP tg_54 d_M_row_17 ?_
      refine lv_iload_n S.1 S.2.1 d_M_row_20 rfl (lv_at hl 3 rfl) ?_
      obtain ⟨o1, hp⟩ := hp
      refine m_ald_ps S hK hP o1 d_M_row_21 ?_
      refine lv_iload_n S.1 S.2.1 d_M_row_22 rfl (lv_at hl 1 rfl) ?_
      refine lv_icmp_ne (tgt := 42) S.1 S.2.1 d_M_row_23 (by decide) (fun c23 => ?_) (fun c23 => ?_)
      · have c23 : ¬ ((m_ps V x3.toNatClampNeg) = a1) := c23
        rw [if_neg c23] at hp
        refine lv_iinc (v := x3 + 1) (lv' := [(3, .int (x3 + 1)), (0, .ref (ad 0)), (1, .int a1), (2, .int a2)]) S.1 S.2.1 d_M_row_42 hl (k := 3) rfl rfl (by decide) rfl (fun ls hl => ?_)
        refine lv_goto (tgt := 8) S.1 S.2.1 d_M_row_45 (by decide) ?_
        have hB := lp_lc ek hi c13
        have hC := clamp_lt (m_pages V)
        rw [show j_M_row_h8 (f + 1) V a1 a2 x3 = j_M_row_h8 f V a1 a2 (x3 + 1) from by rw [j_M_row_h8, if_neg c13, if_neg c23]]
        exact ih (i + 1) a1 a2 (x3 + 1) V _ _ _ (by rw [ek]; exact nI_1 i) (by omega) (by omega) hp hP hS (lv_sub hl [1, 2, 3, 0] rfl)
      · have c23 : (m_ps V x3.toNatClampNeg) = a1 := c23
        rw [if_pos c23] at hp
        refine lv_aload_n S.1 S.2.1 d_M_row_26 rfl (lv_at hl 0 rfl) ?_
        refine m_get_pn S hK hP tg_55 d_M_row_27 ?_
        refine lv_iload_n S.1 S.2.1 d_M_row_30 rfl (lv_at hl 3 rfl) ?_
        refine m_ald_pn S hK hP o1 d_M_row_31 ?_
        refine lv_iload_n S.1 S.2.1 d_M_row_32 rfl (lv_at hl 2 rfl) ?_
        refine lv_sipush (v := 4096) S.1 S.2.1 d_M_row_33 (by decide) ?_
        refine lv_idiv S.1 S.2.1 d_M_row_36 (by decide) ?_
        refine lv_icmp_ne (tgt := 42) S.1 S.2.1 d_M_row_37 (by decide) (fun c37 => ?_) (fun c37 => ?_)
        · have c37 : ¬ ((m_pn V x3.toNatClampNeg) = (a2 / 4096)) := c37
          rw [if_neg c37] at hp
          refine lv_iinc (v := x3 + 1) (lv' := [(3, .int (x3 + 1)), (0, .ref (ad 0)), (1, .int a1), (2, .int a2)]) S.1 S.2.1 d_M_row_42 hl (k := 3) rfl rfl (by decide) rfl (fun ls hl => ?_)
          refine lv_goto (tgt := 8) S.1 S.2.1 d_M_row_45 (by decide) ?_
          have hB := lp_lc ek hi c13
          have hC := clamp_lt (m_pages V)
          rw [show j_M_row_h8 (f + 1) V a1 a2 x3 = j_M_row_h8 f V a1 a2 (x3 + 1) from by rw [j_M_row_h8, if_neg c13, if_pos c23, if_neg c37]]
          exact ih (i + 1) a1 a2 (x3 + 1) V _ _ _ (by rw [ek]; exact nI_1 i) (by omega) (by omega) hp hP hS (lv_sub hl [1, 2, 3, 0] rfl)
        · have c37 : (m_pn V x3.toNatClampNeg) = (a2 / 4096) := c37
          rw [if_pos c37] at hp
          refine lv_iload_n S.1 S.2.1 d_M_row_40 rfl (lv_at hl 3 rfl) ?_
          rw [show j_M_row_h8 (f + 1) V a1 a2 x3 = x3 from by rw [j_M_row_h8, if_neg c13, if_pos c23, if_pos c37]]
          exact m_iret S hr hlk hP hS d_M_row_41
/-- PageVaultModel.row(II)I -/
def j_M_row (V : MS) (a1 : Int32) (a2 : Int32) : Int32 :=
  if 0 ≤ a2 then
    j_M_row_h8 ((m_pages V).toNatClampNeg + 1) V a1 a2 0
  else
    (-1)
/-- what it needs -/
def p_M_row (V : MS) (a1 : Int32) (a2 : Int32) : Prop :=
  if 0 ≤ a2 then
    p_M_row_h8 ((m_pages V).toNatClampNeg + 1) V a1 a2 0
  else
    True
set_option maxHeartbeats 4000000 in
set_option maxRecDepth 100000 in
theorem c_M_row (hE : mE ad) (V : MS) (a1 : Int32) (a2 : Int32) (hp : p_M_row V a1 a2) : MC l D ad cI cZ y_M_row b_M_row 4 (some .int) ({ frames := 0, cells := 0, slots := 0, locals := 0 }) [.ref (ad 0), .int a1, .int a2] V (some (.int (j_M_row V a1 a2))) (V) := by
  refine FC_intro (by decide) (Nat.le_of_ble_eq_true rfl) ?_
  intro p e s m below meth c ls S hr hlk hK hP hS hl
  have S : CallFix p m c b_M_row 4 s _ TG "PageVaultModel" := S
  have hl : lv_has ls 4 [(0, .ref (ad 0)), (1, .int a1), (2, .int a2)] := hl
  rw [p_M_row] at hp
  refine lv_iload_n S.1 S.2.1 d_M_row_0 rfl (lv_at hl 2 rfl) ?_
  refine lv_if_ge (tgt := 6) S.1 S.2.1 d_M_row_1 (by decide) (fun c1 => ?_) (fun c1 => ?_)
  · have c1 : 0 ≤ a2 := c1
    rw [if_pos c1] at hp
    refine lv_iconst (v := 0) S.1 S.2.1 d_M_row_6 (by decide) ?_
    refine lv_istore_n (lv' := [(3, .int 0), (0, .ref (ad 0)), (1, .int a1), (2, .int a2)]) S.1 S.2.1 d_M_row_7 rfl hl (by decide) rfl (fun ls hl => ?_)
    rw [show j_M_row V a1 a2 = j_M_row_h8 ((m_pages V).toNatClampNeg + 1) V a1 a2 0 from by rw [j_M_row, if_pos c1]]
    exact w_M_row_h8 l D ad cI cZ hE S hr hlk hK ((m_pages V).toNatClampNeg + 1) 0 a1 a2 0 V _ _ _ nI_0.symm (by decide) (by omega) hp hP hS (lv_sub hl [1, 2, 3, 0] rfl)
  · have c1 : ¬ (0 ≤ a2) := c1
    rw [if_neg c1] at hp
    refine lv_iconst (v := (-1)) S.1 S.2.1 d_M_row_4 (by decide) ?_
    rw [show j_M_row V a1 a2 = (-1) from by rw [j_M_row, if_neg c1]]
    exact m_iret S hr hlk hP hS d_M_row_5
def j_M_sharers_h4 : Nat → MS → Int32 → Int32 → Int32 → Int32
  | 0, V, _, _, _ => 0
  | f + 1, V, a1, x2, x3 =>
      if (m_pages V) ≤ x3 then
        x2
      else
        if (m_pk V x3.toNatClampNeg) = a1 then
          j_M_sharers_h4 f V a1 (x2 + 1) (x3 + 1)
        else
          j_M_sharers_h4 f V a1 x2 (x3 + 1)
def p_M_sharers_h4 : Nat → MS → Int32 → Int32 → Int32 → Prop
  | 0, _, _, _, _ => True
  | f + 1, V, a1, x2, x3 =>
      if (m_pages V) ≤ x3 then
        True
      else
        (vp_in x3 128) ∧ (
          if (m_pk V x3.toNatClampNeg) = a1 then
            p_M_sharers_h4 f V a1 (x2 + 1) (x3 + 1)
          else
            p_M_sharers_h4 f V a1 x2 (x3 + 1))
set_option maxHeartbeats 4000000 in
set_option maxRecDepth 100000 in
theorem w_M_sharers_h4 (hE : mE ad) {p : Program} {e : Env} {s : State} {m : MethodId} {args : Array Value} {below : List Frame} {meth : Method} {c : Code} (S : CallFix p m c b_M_sharers 4 s args TG "PageVaultModel") (hr : meth.sig.returnType = some .int) (hlk : meth.locks = false) (hK : mK D cI cZ s) :
    ∀ (f i : Nat) (a1 x2 x3 : Int32) (V : MS) (H : Heap) (locs : List Loc) (ls : Array Slot), x3 = nI i → i < 2 ^ 31 → (m_pages V).toNatClampNeg - i < f → p_M_sharers_h4 f V a1 x2 x3 → MP D ad cI cZ (V) H → va_S (iA ad mN) s.heap H locs → lv_has ls 4 [(0, .ref (ad 0)), (1, .int a1), (2, .int x2), (3, .int x3)] → W p l e ({ frames := 0, cells := 0, slots := 0, locals := 0 }) s m args below meth c H locs 0 0 (MQ below (gPost D ad mN (some (.int (j_M_sharers_h4 f V a1 x2 x3))) (mc ad cI cZ (V))) args s 0 0 (iA ad mN)) (F0 m 4 ls []) := by
  intro f
  induction f with
  | zero =>
    intro i a1 x2 x3 V H locs ls ek hi hf hp hP hS hl
    exact absurd hf (Nat.not_lt_zero _)
  | succ f ih =>
    intro i a1 x2 x3 V H locs ls ek hi hf hp hP hS hl
    rw [p_M_sharers_h4] at hp
    refine lv_iload_n S.1 S.2.1 d_M_sharers_4 rfl (lv_at hl 3 rfl) ?_
    refine lv_aload_n S.1 S.2.1 d_M_sharers_5 rfl (lv_at hl 0 rfl) ?_
    refine m_get_pages S hK hP tg_67 d_M_sharers_6 ?_
    refine lv_icmp_ge (tgt := 31) S.1 S.2.1 d_M_sharers_9 (by decide) (fun c9 => ?_) (fun c9 => ?_)
    · have c9 : (m_pages V) ≤ x3 := c9
      rw [if_pos c9] at hp
      refine lv_iload_n S.1 S.2.1 d_M_sharers_31 rfl (lv_at hl 2 rfl) ?_
      rw [show j_M_sharers_h4 (f + 1) V a1 x2 x3 = x2 from by rw [j_M_sharers_h4, if_pos c9]]
      exact m_iret S hr hlk hP hS d_M_sharers_32
    · have c9 : ¬ ((m_pages V) ≤ x3) := c9
      rw [if_neg c9] at hp
      refine lv_aload_n S.1 S.2.1 d_M_sharers_12 rfl (lv_at hl 0 rfl) ?_
      refine m_get_pk S hK hP tg_57 d_M_sharers_13 ?_
      refine lv_iload_n S.1 S.2.1 d_M_sharers_16 rfl (lv_at hl 3 rfl) ?_
      obtain ⟨o1, hp⟩ := hp
      refine m_ald_pk S hK hP o1 d_M_sharers_17 ?_
      refine lv_iload_n S.1 S.2.1 d_M_sharers_18 rfl (lv_at hl 1 rfl) ?_
      refine lv_icmp_ne (tgt := 25) S.1 S.2.1 d_M_sharers_19 (by decide) (fun c19 => ?_) (fun c19 => ?_)
      · have c19 : ¬ ((m_pk V x3.toNatClampNeg) = a1) := c19
        rw [if_neg c19] at hp
        refine lv_iinc (v := x3 + 1) (lv' := [(3, .int (x3 + 1)), (0, .ref (ad 0)), (1, .int a1), (2, .int x2)]) S.1 S.2.1 d_M_sharers_25 hl (k := 3) rfl rfl (by decide) rfl (fun ls hl => ?_)
        refine lv_goto (tgt := 4) S.1 S.2.1 d_M_sharers_28 (by decide) ?_
        have hB := lp_lc ek hi c9
        have hC := clamp_lt (m_pages V)
        rw [show j_M_sharers_h4 (f + 1) V a1 x2 x3 = j_M_sharers_h4 f V a1 x2 (x3 + 1) from by rw [j_M_sharers_h4, if_neg c9, if_neg c19]]
        exact ih (i + 1) a1 x2 (x3 + 1) V _ _ _ (by rw [ek]; exact nI_1 i) (by omega) (by omega) hp hP hS (lv_sub hl [1, 2, 3, 0] rfl)
      · have c19 : (m_pk V x3.toNatClampNeg) = a1 := c19
        rw [if_pos c19] at hp
        refine lv_iinc (v := x2 + 1) (lv' := [(2, .int (x2 + 1)), (0, .ref (ad 0)), (1, .int a1), (3, .int x3)]) S.1 S.2.1 d_M_sharers_22 hl (k := 2) rfl rfl (by decide) rfl (fun ls hl => ?_)
        refine lv_iinc (v := x3 + 1) (lv' := [(3, .int (x3 + 1)), (2, .int (x2 + 1)), (0, .ref (ad 0)), (1, .int a1)]) S.1 S.2.1 d_M_sharers_25 hl (k := 3) rfl rfl (by decide) rfl (fun ls hl => ?_)
        refine lv_goto (tgt := 4) S.1 S.2.1 d_M_sharers_28 (by decide) ?_
        have hB := lp_lc ek hi c9
        have hC := clamp_lt (m_pages V)
        rw [show j_M_sharers_h4 (f + 1) V a1 x2 x3 = j_M_sharers_h4 f V a1 (x2 + 1) (x3 + 1) from by rw [j_M_sharers_h4, if_neg c9, if_pos c19]]
        exact ih (i + 1) a1 (x2 + 1) (x3 + 1) V _ _ _ (by rw [ek]; exact nI_1 i) (by omega) (by omega) hp hP hS (lv_sub hl [2, 3, 1, 0] rfl)
/-- PageVaultModel.sharers(I)I -/
def j_M_sharers (V : MS) (a1 : Int32) : Int32 :=
  j_M_sharers_h4 ((m_pages V).toNatClampNeg + 1) V a1 0 0
/-- what it needs -/
def p_M_sharers (V : MS) (a1 : Int32) : Prop :=
  p_M_sharers_h4 ((m_pages V).toNatClampNeg + 1) V a1 0 0
set_option maxHeartbeats 4000000 in
set_option maxRecDepth 100000 in
theorem c_M_sharers (hE : mE ad) (V : MS) (a1 : Int32) (hp : p_M_sharers V a1) : MC l D ad cI cZ y_M_sharers b_M_sharers 4 (some .int) ({ frames := 0, cells := 0, slots := 0, locals := 0 }) [.ref (ad 0), .int a1] V (some (.int (j_M_sharers V a1))) (V) := by
  refine FC_intro (by decide) (Nat.le_of_ble_eq_true rfl) ?_
  intro p e s m below meth c ls S hr hlk hK hP hS hl
  have S : CallFix p m c b_M_sharers 4 s _ TG "PageVaultModel" := S
  have hl : lv_has ls 4 [(0, .ref (ad 0)), (1, .int a1)] := hl
  rw [p_M_sharers] at hp
  refine lv_iconst (v := 0) S.1 S.2.1 d_M_sharers_0 (by decide) ?_
  refine lv_istore_n (lv' := [(2, .int 0), (0, .ref (ad 0)), (1, .int a1)]) S.1 S.2.1 d_M_sharers_1 rfl hl (by decide) rfl (fun ls hl => ?_)
  refine lv_iconst (v := 0) S.1 S.2.1 d_M_sharers_2 (by decide) ?_
  refine lv_istore_n (lv' := [(3, .int 0), (2, .int 0), (0, .ref (ad 0)), (1, .int a1)]) S.1 S.2.1 d_M_sharers_3 rfl hl (by decide) rfl (fun ls hl => ?_)
  rw [show j_M_sharers V a1 = j_M_sharers_h4 ((m_pages V).toNatClampNeg + 1) V a1 0 0 from by rw [j_M_sharers]]
  exact w_M_sharers_h4 l D ad cI cZ hE S hr hlk hK ((m_pages V).toNatClampNeg + 1) 0 a1 0 0 V _ _ _ nI_0.symm (by decide) (by omega) hp hP hS (lv_sub hl [2, 3, 1, 0] rfl)
def j_M_firstOfKin_h2 : Nat → MS → Int32 → Int32 → Int32
  | 0, V, _, _ => 0
  | f + 1, V, a1, x2 =>
      if a1 ≤ x2 then
        1
      else
        if (m_pk V x2.toNatClampNeg) = (m_pk V a1.toNatClampNeg) then
          0
        else
          j_M_firstOfKin_h2 f V a1 (x2 + 1)
def p_M_firstOfKin_h2 : Nat → MS → Int32 → Int32 → Prop
  | 0, _, _, _ => True
  | f + 1, V, a1, x2 =>
      if a1 ≤ x2 then
        True
      else
        (vp_in x2 128) ∧ (
          (vp_in a1 128) ∧ (
            if (m_pk V x2.toNatClampNeg) = (m_pk V a1.toNatClampNeg) then
              True
            else
              p_M_firstOfKin_h2 f V a1 (x2 + 1)))
set_option maxHeartbeats 4000000 in
set_option maxRecDepth 100000 in
theorem w_M_firstOfKin_h2 (hE : mE ad) {p : Program} {e : Env} {s : State} {m : MethodId} {args : Array Value} {below : List Frame} {meth : Method} {c : Code} (S : CallFix p m c b_M_firstOfKin 3 s args TG "PageVaultModel") (hr : meth.sig.returnType = some .boolean) (hlk : meth.locks = false) (hK : mK D cI cZ s) :
    ∀ (f i : Nat) (a1 x2 : Int32) (V : MS) (H : Heap) (locs : List Loc) (ls : Array Slot), x2 = nI i → i < 2 ^ 31 → a1.toNatClampNeg - i < f → p_M_firstOfKin_h2 f V a1 x2 → MP D ad cI cZ (V) H → va_S (iA ad mN) s.heap H locs → lv_has ls 3 [(0, .ref (ad 0)), (1, .int a1), (2, .int x2)] → W p l e ({ frames := 0, cells := 0, slots := 0, locals := 0 }) s m args below meth c H locs 0 0 (MQ below (gPost D ad mN (some (.int (j_M_firstOfKin_h2 f V a1 x2))) (mc ad cI cZ (V))) args s 0 0 (iA ad mN)) (F0 m 2 ls []) := by
  intro f
  induction f with
  | zero =>
    intro i a1 x2 V H locs ls ek hi hf hp hP hS hl
    exact absurd hf (Nat.not_lt_zero _)
  | succ f ih =>
    intro i a1 x2 V H locs ls ek hi hf hp hP hS hl
    rw [p_M_firstOfKin_h2] at hp
    refine lv_iload_n S.1 S.2.1 d_M_firstOfKin_2 rfl (lv_at hl 2 rfl) ?_
    refine lv_iload_n S.1 S.2.1 d_M_firstOfKin_3 rfl (lv_at hl 1 rfl) ?_
    refine lv_icmp_ge (tgt := 30) S.1 S.2.1 d_M_firstOfKin_4 (by decide) (fun c4 => ?_) (fun c4 => ?_)
    · have c4 : a1 ≤ x2 := c4
      rw [if_pos c4] at hp
      refine lv_iconst (v := 1) S.1 S.2.1 d_M_firstOfKin_30 (by decide) ?_
      rw [show j_M_firstOfKin_h2 (f + 1) V a1 x2 = 1 from by rw [j_M_firstOfKin_h2, if_pos c4]]
      exact m_zret (v := 1) S hr hlk rfl hP hS d_M_firstOfKin_31
    · have c4 : ¬ (a1 ≤ x2) := c4
      rw [if_neg c4] at hp
      refine lv_aload_n S.1 S.2.1 d_M_firstOfKin_7 rfl (lv_at hl 0 rfl) ?_
      refine m_get_pk S hK hP tg_57 d_M_firstOfKin_8 ?_
      refine lv_iload_n S.1 S.2.1 d_M_firstOfKin_11 rfl (lv_at hl 2 rfl) ?_
      obtain ⟨o1, hp⟩ := hp
      refine m_ald_pk S hK hP o1 d_M_firstOfKin_12 ?_
      refine lv_aload_n S.1 S.2.1 d_M_firstOfKin_13 rfl (lv_at hl 0 rfl) ?_
      refine m_get_pk S hK hP tg_57 d_M_firstOfKin_14 ?_
      refine lv_iload_n S.1 S.2.1 d_M_firstOfKin_17 rfl (lv_at hl 1 rfl) ?_
      obtain ⟨o2, hp⟩ := hp
      refine m_ald_pk S hK hP o2 d_M_firstOfKin_18 ?_
      refine lv_icmp_ne (tgt := 24) S.1 S.2.1 d_M_firstOfKin_19 (by decide) (fun c19 => ?_) (fun c19 => ?_)
      · have c19 : ¬ ((m_pk V x2.toNatClampNeg) = (m_pk V a1.toNatClampNeg)) := c19
        rw [if_neg c19] at hp
        refine lv_iinc (v := x2 + 1) (lv' := [(2, .int (x2 + 1)), (0, .ref (ad 0)), (1, .int a1)]) S.1 S.2.1 d_M_firstOfKin_24 hl (k := 2) rfl rfl (by decide) rfl (fun ls hl => ?_)
        refine lv_goto (tgt := 2) S.1 S.2.1 d_M_firstOfKin_27 (by decide) ?_
        have hB := lp_lc ek hi c4
        have hC := clamp_lt a1
        rw [show j_M_firstOfKin_h2 (f + 1) V a1 x2 = j_M_firstOfKin_h2 f V a1 (x2 + 1) from by rw [j_M_firstOfKin_h2, if_neg c4, if_neg c19]]
        exact ih (i + 1) a1 (x2 + 1) V _ _ _ (by rw [ek]; exact nI_1 i) (by omega) (by omega) hp hP hS (lv_sub hl [1, 2, 0] rfl)
      · have c19 : (m_pk V x2.toNatClampNeg) = (m_pk V a1.toNatClampNeg) := c19
        rw [if_pos c19] at hp
        refine lv_iconst (v := 0) S.1 S.2.1 d_M_firstOfKin_22 (by decide) ?_
        rw [show j_M_firstOfKin_h2 (f + 1) V a1 x2 = 0 from by rw [j_M_firstOfKin_h2, if_neg c4, if_pos c19]]
        exact m_zret (v := 0) S hr hlk rfl hP hS d_M_firstOfKin_23
/-- PageVaultModel.firstOfKin(I)Z -/
def j_M_firstOfKin (V : MS) (a1 : Int32) : Int32 :=
  j_M_firstOfKin_h2 (a1.toNatClampNeg + 1) V a1 0
/-- what it needs -/
def p_M_firstOfKin (V : MS) (a1 : Int32) : Prop :=
  p_M_firstOfKin_h2 (a1.toNatClampNeg + 1) V a1 0
set_option maxHeartbeats 4000000 in
set_option maxRecDepth 100000 in
theorem c_M_firstOfKin (hE : mE ad) (V : MS) (a1 : Int32) (hp : p_M_firstOfKin V a1) : MC l D ad cI cZ y_M_firstOfKin b_M_firstOfKin 3 (some .boolean) ({ frames := 0, cells := 0, slots := 0, locals := 0 }) [.ref (ad 0), .int a1] V (some (.int (j_M_firstOfKin V a1))) (V) := by
  refine FC_intro (by decide) (Nat.le_of_ble_eq_true rfl) ?_
  intro p e s m below meth c ls S hr hlk hK hP hS hl
  have S : CallFix p m c b_M_firstOfKin 3 s _ TG "PageVaultModel" := S
  have hl : lv_has ls 3 [(0, .ref (ad 0)), (1, .int a1)] := hl
  rw [p_M_firstOfKin] at hp
  refine lv_iconst (v := 0) S.1 S.2.1 d_M_firstOfKin_0 (by decide) ?_
  refine lv_istore_n (lv' := [(2, .int 0), (0, .ref (ad 0)), (1, .int a1)]) S.1 S.2.1 d_M_firstOfKin_1 rfl hl (by decide) rfl (fun ls hl => ?_)
  rw [show j_M_firstOfKin V a1 = j_M_firstOfKin_h2 (a1.toNatClampNeg + 1) V a1 0 from by rw [j_M_firstOfKin]]
  exact w_M_firstOfKin_h2 l D ad cI cZ hE S hr hlk hK (a1.toNatClampNeg + 1) 0 a1 0 V _ _ _ nI_0.symm (by decide) (by omega) hp hP hS (lv_sub hl [1, 2, 0] rfl)
def j_M_freeFrames_h38 : Nat → MS → Int32 → Int32 → Int32
  | 0, V, _, _ => 0
  | f + 1, V, x1, x2 =>
      if (m_pages V) ≤ x2 then
        x1
      else
        if (j_M_firstOfKin V x2) = 0 then
          j_M_freeFrames_h38 f V x1 (x2 + 1)
        else
          j_M_freeFrames_h38 f V (x1 + (-1)) (x2 + 1)
def p_M_freeFrames_h38 : Nat → MS → Int32 → Int32 → Prop
  | 0, _, _, _ => True
  | f + 1, V, x1, x2 =>
      if (m_pages V) ≤ x2 then
        True
      else
        (p_M_firstOfKin V x2) ∧ (
          if (j_M_firstOfKin V x2) = 0 then
            p_M_freeFrames_h38 f V x1 (x2 + 1)
          else
            p_M_freeFrames_h38 f V (x1 + (-1)) (x2 + 1))
set_option maxHeartbeats 4000000 in
set_option maxRecDepth 100000 in
theorem w_M_freeFrames_h38 (hE : mE ad) {p : Program} {e : Env} {s : State} {m : MethodId} {args : Array Value} {below : List Frame} {meth : Method} {c : Code} (S : CallFix p m c b_M_freeFrames 3 s args TG "PageVaultModel") (hr : meth.sig.returnType = some .int) (hlk : meth.locks = false) (hK : mK D cI cZ s) :
    ∀ (f i : Nat) (x1 x2 : Int32) (V : MS) (H : Heap) (locs : List Loc) (ls : Array Slot), x2 = nI i → i < 2 ^ 31 → (m_pages V).toNatClampNeg - i < f → p_M_freeFrames_h38 f V x1 x2 → MP D ad cI cZ (V) H → va_S (iA ad mN) s.heap H locs → lv_has ls 3 [(0, .ref (ad 0)), (1, .int x1), (2, .int x2)] → W p l e ({ frames := 1, cells := 0, slots := 0, locals := 22 }) s m args below meth c H locs 0 0 (MQ below (gPost D ad mN (some (.int (j_M_freeFrames_h38 f V x1 x2))) (mc ad cI cZ (V))) args s 0 0 (iA ad mN)) (F0 m 38 ls []) := by
  intro f
  induction f with
  | zero =>
    intro i x1 x2 V H locs ls ek hi hf hp hP hS hl
    exact absurd hf (Nat.not_lt_zero _)
  | succ f ih =>
    intro i x1 x2 V H locs ls ek hi hf hp hP hS hl
    rw [p_M_freeFrames_h38] at hp
    refine lv_iload_n S.1 S.2.1 d_M_freeFrames_38 rfl (lv_at hl 2 rfl) ?_
    refine lv_aload_n S.1 S.2.1 d_M_freeFrames_39 rfl (lv_at hl 0 rfl) ?_
    refine m_get_pages S hK hP tg_67 d_M_freeFrames_40 ?_
    refine lv_icmp_ge (tgt := 63) S.1 S.2.1 d_M_freeFrames_43 (by decide) (fun c43 => ?_) (fun c43 => ?_)
    · have c43 : (m_pages V) ≤ x2 := c43
      rw [if_pos c43] at hp
      refine lv_iload_n S.1 S.2.1 d_M_freeFrames_63 rfl (lv_at hl 1 rfl) ?_
      rw [show j_M_freeFrames_h38 (f + 1) V x1 x2 = x1 from by rw [j_M_freeFrames_h38, if_pos c43]]
      exact m_iret S hr hlk hP hS d_M_freeFrames_64
    · have c43 : ¬ ((m_pages V) ≤ x2) := c43
      rw [if_neg c43] at hp
      refine lv_aload_n S.1 S.2.1 d_M_freeFrames_46 rfl (lv_at hl 0 rfl) ?_
      refine lv_iload_n S.1 S.2.1 d_M_freeFrames_47 rfl (lv_at hl 2 rfl) ?_
      obtain ⟨o1, hp⟩ := hp
      refine m_callVi (As := [.int x2]) (rest := []) S hK ci_M_63 (c_M_firstOfKin l D ad cI cZ hE V x2 o1) (m_recM hK hP) hP hS ⟨rfl, rfl, Nat.le_of_ble_eq_true rfl, Nat.le_of_ble_eq_true rfl⟩ rfl hl.1 rfl (Nat.le_of_ble_eq_true rfl) d_M_freeFrames_48 (fun H locs hP hS => ?_)
      refine lv_if_eq (tgt := 57) S.1 S.2.1 d_M_freeFrames_51 (by decide) (fun c51 => ?_) (fun c51 => ?_)
      · have c51 : (j_M_firstOfKin V x2) = 0 := c51
        rw [if_pos c51] at hp
        refine lv_iinc (v := x2 + 1) (lv' := [(2, .int (x2 + 1)), (0, .ref (ad 0)), (1, .int x1)]) S.1 S.2.1 d_M_freeFrames_57 hl (k := 2) rfl rfl (by decide) rfl (fun ls hl => ?_)
        refine lv_goto (tgt := 38) S.1 S.2.1 d_M_freeFrames_60 (by decide) ?_
        have hB := lp_lc ek hi c43
        have hC := clamp_lt (m_pages V)
        rw [show j_M_freeFrames_h38 (f + 1) V x1 x2 = j_M_freeFrames_h38 f V x1 (x2 + 1) from by rw [j_M_freeFrames_h38, if_neg c43, if_pos c51]]
        exact ih (i + 1) x1 (x2 + 1) V _ _ _ (by rw [ek]; exact nI_1 i) (by omega) (by omega) hp hP hS (lv_sub hl [1, 2, 0] rfl)
      · have c51 : ¬ ((j_M_firstOfKin V x2) = 0) := c51
        rw [if_neg c51] at hp
        refine lv_iinc (v := x1 + (-1)) (lv' := [(1, .int (x1 + (-1))), (0, .ref (ad 0)), (2, .int x2)]) S.1 S.2.1 d_M_freeFrames_54 hl (k := 1) rfl rfl (by decide) rfl (fun ls hl => ?_)
        refine lv_iinc (v := x2 + 1) (lv' := [(2, .int (x2 + 1)), (1, .int (x1 + (-1))), (0, .ref (ad 0))]) S.1 S.2.1 d_M_freeFrames_57 hl (k := 2) rfl rfl (by decide) rfl (fun ls hl => ?_)
        refine lv_goto (tgt := 38) S.1 S.2.1 d_M_freeFrames_60 (by decide) ?_
        have hB := lp_lc ek hi c43
        have hC := clamp_lt (m_pages V)
        rw [show j_M_freeFrames_h38 (f + 1) V x1 x2 = j_M_freeFrames_h38 f V (x1 + (-1)) (x2 + 1) from by rw [j_M_freeFrames_h38, if_neg c43, if_neg c51]]
        exact ih (i + 1) (x1 + (-1)) (x2 + 1) V _ _ _ (by rw [ek]; exact nI_1 i) (by omega) (by omega) hp hP hS (lv_sub hl [2, 1, 0] rfl)
def j_M_freeFrames_h12 : Nat → MS → Int32 → Int32 → Int32
  | 0, V, _, _ => 0
  | f + 1, V, x1, x2 =>
      if 16 ≤ x2 then
        j_M_freeFrames_h38 ((m_pages V).toNatClampNeg + 1) V x1 0
      else
        if (m_alive V x2.toNatClampNeg) = 0 then
          j_M_freeFrames_h12 f V x1 (x2 + 1)
        else
          j_M_freeFrames_h12 f V (x1 + (-1)) (x2 + 1)
def p_M_freeFrames_h12 : Nat → MS → Int32 → Int32 → Prop
  | 0, _, _, _ => True
  | f + 1, V, x1, x2 =>
      if 16 ≤ x2 then
        p_M_freeFrames_h38 ((m_pages V).toNatClampNeg + 1) V x1 0
      else
        if (m_alive V x2.toNatClampNeg) = 0 then
          p_M_freeFrames_h12 f V x1 (x2 + 1)
        else
          p_M_freeFrames_h12 f V (x1 + (-1)) (x2 + 1)
set_option maxHeartbeats 4000000 in
set_option maxRecDepth 100000 in
theorem w_M_freeFrames_h12 (hE : mE ad) {p : Program} {e : Env} {s : State} {m : MethodId} {args : Array Value} {below : List Frame} {meth : Method} {c : Code} (S : CallFix p m c b_M_freeFrames 3 s args TG "PageVaultModel") (hr : meth.sig.returnType = some .int) (hlk : meth.locks = false) (hK : mK D cI cZ s) :
    ∀ (f i : Nat) (x1 x2 : Int32) (V : MS) (H : Heap) (locs : List Loc) (ls : Array Slot), x2 = nI i → i < 2 ^ 31 → 16 - i < f → p_M_freeFrames_h12 f V x1 x2 → MP D ad cI cZ (V) H → va_S (iA ad mN) s.heap H locs → lv_has ls 3 [(0, .ref (ad 0)), (1, .int x1), (2, .int x2)] → W p l e ({ frames := 1, cells := 0, slots := 0, locals := 22 }) s m args below meth c H locs 0 0 (MQ below (gPost D ad mN (some (.int (j_M_freeFrames_h12 f V x1 x2))) (mc ad cI cZ (V))) args s 0 0 (iA ad mN)) (F0 m 12 ls []) := by
  intro f
  induction f with
  | zero =>
    intro i x1 x2 V H locs ls ek hi hf hp hP hS hl
    exact absurd hf (Nat.not_lt_zero _)
  | succ f ih =>
    intro i x1 x2 V H locs ls ek hi hf hp hP hS hl
    rw [p_M_freeFrames_h12] at hp
    refine lv_iload_n S.1 S.2.1 d_M_freeFrames_12 rfl (lv_at hl 2 rfl) ?_
    refine lv_bipush (v := 16) S.1 S.2.1 d_M_freeFrames_13 (by decide) ?_
    refine lv_icmp_ge (tgt := 36) S.1 S.2.1 d_M_freeFrames_15 (by decide) (fun c15 => ?_) (fun c15 => ?_)
    · have c15 : 16 ≤ x2 := c15
      rw [if_pos c15] at hp
      refine lv_iconst (v := 0) S.1 S.2.1 d_M_freeFrames_36 (by decide) ?_
      refine lv_istore_n (lv' := [(2, .int 0), (0, .ref (ad 0)), (1, .int x1)]) S.1 S.2.1 d_M_freeFrames_37 rfl hl (by decide) rfl (fun ls hl => ?_)
      rw [show j_M_freeFrames_h12 (f + 1) V x1 x2 = j_M_freeFrames_h38 ((m_pages V).toNatClampNeg + 1) V x1 0 from by rw [j_M_freeFrames_h12, if_pos c15]]
      exact w_M_freeFrames_h38 l D ad cI cZ hE S hr hlk hK ((m_pages V).toNatClampNeg + 1) 0 x1 0 V _ _ _ nI_0.symm (by decide) (by omega) hp hP hS (lv_sub hl [1, 2, 0] rfl)
    · have c15 : ¬ (16 ≤ x2) := c15
      rw [if_neg c15] at hp
      refine lv_aload_n S.1 S.2.1 d_M_freeFrames_18 rfl (lv_at hl 0 rfl) ?_
      refine m_get_alive S hK hP tg_52 d_M_freeFrames_19 ?_
      refine lv_iload_n S.1 S.2.1 d_M_freeFrames_22 rfl (lv_at hl 2 rfl) ?_
      refine m_ald_alive S hK hP (vin_c (B := 16) (by decide) (by decide) (lp_nn ek hi) c15) d_M_freeFrames_23 ?_
      refine lv_if_eq (tgt := 30) S.1 S.2.1 d_M_freeFrames_24 (by decide) (fun c24 => ?_) (fun c24 => ?_)
      · have c24 : (m_alive V x2.toNatClampNeg) = 0 := c24
        rw [if_pos c24] at hp
        refine lv_iinc (v := x2 + 1) (lv' := [(2, .int (x2 + 1)), (0, .ref (ad 0)), (1, .int x1)]) S.1 S.2.1 d_M_freeFrames_30 hl (k := 2) rfl rfl (by decide) rfl (fun ls hl => ?_)
        refine lv_goto (tgt := 12) S.1 S.2.1 d_M_freeFrames_33 (by decide) ?_
        have hB := lp_lc ek hi c15
        have hC := clamp_lt 16
        have hD : (16 : Int32).toNatClampNeg = 16 := by decide
        rw [show j_M_freeFrames_h12 (f + 1) V x1 x2 = j_M_freeFrames_h12 f V x1 (x2 + 1) from by rw [j_M_freeFrames_h12, if_neg c15, if_pos c24]]
        exact ih (i + 1) x1 (x2 + 1) V _ _ _ (by rw [ek]; exact nI_1 i) (by omega) (by omega) hp hP hS (lv_sub hl [1, 2, 0] rfl)
      · have c24 : ¬ ((m_alive V x2.toNatClampNeg) = 0) := c24
        rw [if_neg c24] at hp
        refine lv_iinc (v := x1 + (-1)) (lv' := [(1, .int (x1 + (-1))), (0, .ref (ad 0)), (2, .int x2)]) S.1 S.2.1 d_M_freeFrames_27 hl (k := 1) rfl rfl (by decide) rfl (fun ls hl => ?_)
        refine lv_iinc (v := x2 + 1) (lv' := [(2, .int (x2 + 1)), (1, .int (x1 + (-1))), (0, .ref (ad 0))]) S.1 S.2.1 d_M_freeFrames_30 hl (k := 2) rfl rfl (by decide) rfl (fun ls hl => ?_)
        refine lv_goto (tgt := 12) S.1 S.2.1 d_M_freeFrames_33 (by decide) ?_
        have hB := lp_lc ek hi c15
        have hC := clamp_lt 16
        have hD : (16 : Int32).toNatClampNeg = 16 := by decide
        rw [show j_M_freeFrames_h12 (f + 1) V x1 x2 = j_M_freeFrames_h12 f V (x1 + (-1)) (x2 + 1) from by rw [j_M_freeFrames_h12, if_neg c15, if_neg c24]]
        exact ih (i + 1) (x1 + (-1)) (x2 + 1) V _ _ _ (by rw [ek]; exact nI_1 i) (by omega) (by omega) hp hP hS (lv_sub hl [2, 1, 0] rfl)
/-- PageVaultModel.freeFrames()I -/
def j_M_freeFrames (V : MS) : Int32 :=
  j_M_freeFrames_h12 17 V ((m_frames V) - (m_regions V)) 0
/-- what it needs -/
def p_M_freeFrames (V : MS) : Prop :=
  p_M_freeFrames_h12 17 V ((m_frames V) - (m_regions V)) 0
set_option maxHeartbeats 4000000 in
set_option maxRecDepth 100000 in
theorem c_M_freeFrames (hE : mE ad) (V : MS)  (hp : p_M_freeFrames V) : MC l D ad cI cZ y_M_freeFrames b_M_freeFrames 3 (some .int) ({ frames := 1, cells := 0, slots := 0, locals := 22 }) [.ref (ad 0)] V (some (.int (j_M_freeFrames V))) (V) := by
  refine FC_intro (by decide) (Nat.le_of_ble_eq_true rfl) ?_
  intro p e s m below meth c ls S hr hlk hK hP hS hl
  have S : CallFix p m c b_M_freeFrames 3 s _ TG "PageVaultModel" := S
  have hl : lv_has ls 3 [(0, .ref (ad 0))] := hl
  rw [p_M_freeFrames] at hp
  refine lv_aload_n S.1 S.2.1 d_M_freeFrames_0 rfl (lv_at hl 0 rfl) ?_
  refine m_get_frames S hK hP tg_65 d_M_freeFrames_1 ?_
  refine lv_aload_n S.1 S.2.1 d_M_freeFrames_4 rfl (lv_at hl 0 rfl) ?_
  refine m_get_regions S hK hP tg_72 d_M_freeFrames_5 ?_
  refine lv_isub S.1 S.2.1 d_M_freeFrames_8 ?_
  refine lv_istore_n (lv' := [(1, .int ((m_frames V) - (m_regions V))), (0, .ref (ad 0))]) S.1 S.2.1 d_M_freeFrames_9 rfl hl (by decide) rfl (fun ls hl => ?_)
  refine lv_iconst (v := 0) S.1 S.2.1 d_M_freeFrames_10 (by decide) ?_
  refine lv_istore_n (lv' := [(2, .int 0), (1, .int ((m_frames V) - (m_regions V))), (0, .ref (ad 0))]) S.1 S.2.1 d_M_freeFrames_11 rfl hl (by decide) rfl (fun ls hl => ?_)
  rw [show j_M_freeFrames V = j_M_freeFrames_h12 17 V ((m_frames V) - (m_regions V)) 0 from by rw [j_M_freeFrames]]
  exact w_M_freeFrames_h12 l D ad cI cZ hE S hr hlk hK 17 0 ((m_frames V) - (m_regions V)) 0 V _ _ _ nI_0.symm (by decide) (by decide) hp hP hS (lv_sub hl [2, 1, 0] rfl)
def j_M_hasRegion_h2 : Nat → MS → Int32 → Int32 → Int32 → Int32
  | 0, V, _, _, _ => 0
  | f + 1, V, a1, a2, x3 =>
      if (m_regions V) ≤ x3 then
        0
      else
        if (m_rs V x3.toNatClampNeg) = a1 then
          if (m_rn V x3.toNatClampNeg) = a2 then
            1
          else
            j_M_hasRegion_h2 f V a1 a2 (x3 + 1)
        else
          j_M_hasRegion_h2 f V a1 a2 (x3 + 1)
def p_M_hasRegion_h2 : Nat → MS → Int32 → Int32 → Int32 → Prop
  | 0, _, _, _, _ => True
  | f + 1, V, a1, a2, x3 =>
      if (m_regions V) ≤ x3 then
        True
      else
        (vp_in x3 32) ∧ (
          if (m_rs V x3.toNatClampNeg) = a1 then
            if (m_rn V x3.toNatClampNeg) = a2 then
              True
            else
              p_M_hasRegion_h2 f V a1 a2 (x3 + 1)
          else
            p_M_hasRegion_h2 f V a1 a2 (x3 + 1))
set_option maxHeartbeats 4000000 in
set_option maxRecDepth 100000 in
theorem w_M_hasRegion_h2 (hE : mE ad) {p : Program} {e : Env} {s : State} {m : MethodId} {args : Array Value} {below : List Frame} {meth : Method} {c : Code} (S : CallFix p m c b_M_hasRegion 4 s args TG "PageVaultModel") (hr : meth.sig.returnType = some .boolean) (hlk : meth.locks = false) (hK : mK D cI cZ s) :
    ∀ (f i : Nat) (a1 a2 x3 : Int32) (V : MS) (H : Heap) (locs : List Loc) (ls : Array Slot), x3 = nI i → i < 2 ^ 31 → (m_regions V).toNatClampNeg - i < f → p_M_hasRegion_h2 f V a1 a2 x3 → MP D ad cI cZ (V) H → va_S (iA ad mN) s.heap H locs → lv_has ls 4 [(0, .ref (ad 0)), (1, .int a1), (2, .int a2), (3, .int x3)] → W p l e ({ frames := 0, cells := 0, slots := 0, locals := 0 }) s m args below meth c H locs 0 0 (MQ below (gPost D ad mN (some (.int (j_M_hasRegion_h2 f V a1 a2 x3))) (mc ad cI cZ (V))) args s 0 0 (iA ad mN)) (F0 m 2 ls []) := by
  intro f
  induction f with
  | zero =>
    intro i a1 a2 x3 V H locs ls ek hi hf hp hP hS hl
    exact absurd hf (Nat.not_lt_zero _)
  | succ f ih =>
    intro i a1 a2 x3 V H locs ls ek hi hf hp hP hS hl
    rw [p_M_hasRegion_h2] at hp
    refine lv_iload_n S.1 S.2.1 d_M_hasRegion_2 rfl (lv_at hl 3 rfl) ?_
    refine lv_aload_n S.1 S.2.1 d_M_hasRegion_3 rfl (lv_at hl 0 rfl) ?_
    refine m_get_regions S hK hP tg_72 d_M_hasRegion_4 ?_
    refine lv_icmp_ge (tgt := 38) S.1 S.2.1 d_M_hasRegion_7 (by decide) (fun c7 => ?_) (fun c7 => ?_)
    · have c7 : (m_regions V) ≤ x3 := c7
      rw [if_pos c7] at hp
      refine lv_iconst (v := 0) S.1 S.2.1 d_M_hasRegion_38 (by decide) ?_
      rw [show j_M_hasRegion_h2 (f + 1) V a1 a2 x3 = 0 from by rw [j_M_hasRegion_h2, if_pos c7]]
      exact m_zret (v := 0) S hr hlk rfl hP hS d_M_hasRegion_39
    · have c7 : ¬ ((m_regions V) ≤ x3) := c7
      rw [if_neg c7] at hp
      refine lv_aload_n S.1 S.2.1 d_M_hasRegion_10 rfl (lv_at hl 0 rfl) ?_
      refine m_get_rs S hK hP tg_58 d_M_hasRegion_11 ?_
      refine lv_iload_n S.1 S.2.1 d_M_hasRegion_14 rfl (lv_at hl 3 rfl) ?_
      obtain ⟨o1, hp⟩ := hp
      refine m_ald_rs S hK hP o1 d_M_hasRegion_15 ?_
      refine lv_iload_n S.1 S.2.1 d_M_hasRegion_16 rfl (lv_at hl 1 rfl) ?_
      refine lv_icmp_ne (tgt := 32) S.1 S.2.1 d_M_hasRegion_17 (by decide) (fun c17 => ?_) (fun c17 => ?_)
      · have c17 : ¬ ((m_rs V x3.toNatClampNeg) = a1) := c17
        rw [if_neg c17] at hp
        refine lv_iinc (v := x3 + 1) (lv' := [(3, .int (x3 + 1)), (0, .ref (ad 0)), (1, .int a1), (2, .int a2)]) S.1 S.2.1 d_M_hasRegion_32 hl (k := 3) rfl rfl (by decide) rfl (fun ls hl => ?_)
        refine lv_goto (tgt := 2) S.1 S.2.1 d_M_hasRegion_35 (by decide) ?_
        have hB := lp_lc ek hi c7
        have hC := clamp_lt (m_regions V)
        rw [show j_M_hasRegion_h2 (f + 1) V a1 a2 x3 = j_M_hasRegion_h2 f V a1 a2 (x3 + 1) from by rw [j_M_hasRegion_h2, if_neg c7, if_neg c17]]
        exact ih (i + 1) a1 a2 (x3 + 1) V _ _ _ (by rw [ek]; exact nI_1 i) (by omega) (by omega) hp hP hS (lv_sub hl [1, 2, 3, 0] rfl)
      · have c17 : (m_rs V x3.toNatClampNeg) = a1 := c17
        rw [if_pos c17] at hp
        refine lv_aload_n S.1 S.2.1 d_M_hasRegion_20 rfl (lv_at hl 0 rfl) ?_
        refine m_get_rn S hK hP tg_59 d_M_hasRegion_21 ?_
        refine lv_iload_n S.1 S.2.1 d_M_hasRegion_24 rfl (lv_at hl 3 rfl) ?_
        refine m_ald_rn S hK hP o1 d_M_hasRegion_25 ?_
        refine lv_iload_n S.1 S.2.1 d_M_hasRegion_26 rfl (lv_at hl 2 rfl) ?_
        refine lv_icmp_ne (tgt := 32) S.1 S.2.1 d_M_hasRegion_27 (by decide) (fun c27 => ?_) (fun c27 => ?_)
        · have c27 : ¬ ((m_rn V x3.toNatClampNeg) = a2) := c27
          rw [if_neg c27] at hp
          refine lv_iinc (v := x3 + 1) (lv' := [(3, .int (x3 + 1)), (0, .ref (ad 0)), (1, .int a1), (2, .int a2)]) S.1 S.2.1 d_M_hasRegion_32 hl (k := 3) rfl rfl (by decide) rfl (fun ls hl => ?_)
          refine lv_goto (tgt := 2) S.1 S.2.1 d_M_hasRegion_35 (by decide) ?_
          have hB := lp_lc ek hi c7
          have hC := clamp_lt (m_regions V)
          rw [show j_M_hasRegion_h2 (f + 1) V a1 a2 x3 = j_M_hasRegion_h2 f V a1 a2 (x3 + 1) from by rw [j_M_hasRegion_h2, if_neg c7, if_pos c17, if_neg c27]]
          exact ih (i + 1) a1 a2 (x3 + 1) V _ _ _ (by rw [ek]; exact nI_1 i) (by omega) (by omega) hp hP hS (lv_sub hl [1, 2, 3, 0] rfl)
        · have c27 : (m_rn V x3.toNatClampNeg) = a2 := c27
          rw [if_pos c27] at hp
          refine lv_iconst (v := 1) S.1 S.2.1 d_M_hasRegion_30 (by decide) ?_
          rw [show j_M_hasRegion_h2 (f + 1) V a1 a2 x3 = 1 from by rw [j_M_hasRegion_h2, if_neg c7, if_pos c17, if_pos c27]]
          exact m_zret (v := 1) S hr hlk rfl hP hS d_M_hasRegion_31
/-- PageVaultModel.hasRegion(II)Z -/
def j_M_hasRegion (V : MS) (a1 : Int32) (a2 : Int32) : Int32 :=
  j_M_hasRegion_h2 ((m_regions V).toNatClampNeg + 1) V a1 a2 0
/-- what it needs -/
def p_M_hasRegion (V : MS) (a1 : Int32) (a2 : Int32) : Prop :=
  p_M_hasRegion_h2 ((m_regions V).toNatClampNeg + 1) V a1 a2 0
set_option maxHeartbeats 4000000 in
set_option maxRecDepth 100000 in
theorem c_M_hasRegion (hE : mE ad) (V : MS) (a1 : Int32) (a2 : Int32) (hp : p_M_hasRegion V a1 a2) : MC l D ad cI cZ y_M_hasRegion b_M_hasRegion 4 (some .boolean) ({ frames := 0, cells := 0, slots := 0, locals := 0 }) [.ref (ad 0), .int a1, .int a2] V (some (.int (j_M_hasRegion V a1 a2))) (V) := by
  refine FC_intro (by decide) (Nat.le_of_ble_eq_true rfl) ?_
  intro p e s m below meth c ls S hr hlk hK hP hS hl
  have S : CallFix p m c b_M_hasRegion 4 s _ TG "PageVaultModel" := S
  have hl : lv_has ls 4 [(0, .ref (ad 0)), (1, .int a1), (2, .int a2)] := hl
  rw [p_M_hasRegion] at hp
  refine lv_iconst (v := 0) S.1 S.2.1 d_M_hasRegion_0 (by decide) ?_
  refine lv_istore_n (lv' := [(3, .int 0), (0, .ref (ad 0)), (1, .int a1), (2, .int a2)]) S.1 S.2.1 d_M_hasRegion_1 rfl hl (by decide) rfl (fun ls hl => ?_)
  rw [show j_M_hasRegion V a1 a2 = j_M_hasRegion_h2 ((m_regions V).toNatClampNeg + 1) V a1 a2 0 from by rw [j_M_hasRegion]]
  exact w_M_hasRegion_h2 l D ad cI cZ hE S hr hlk hK ((m_regions V).toNatClampNeg + 1) 0 a1 a2 0 V _ _ _ nI_0.symm (by decide) (by omega) hp hP hS (lv_sub hl [1, 2, 3, 0] rfl)
/-- PageVaultModel.room(II)Z -/
def j_M_room (V : MS) (a1 : Int32) (a2 : Int32) : Int32 :=
  if (j_M_hasRegion V a1 (a2 / 1024)) = 0 then
    if (j_M_freeFrames V) < 2 then
      0
    else
      1
  else
    if (j_M_freeFrames V) < 1 then
      0
    else
      1
/-- what it needs -/
def p_M_room (V : MS) (a1 : Int32) (a2 : Int32) : Prop :=
  (p_M_freeFrames V) ∧ (
    (p_M_hasRegion V a1 (a2 / 1024)) ∧ (
      True))
set_option maxHeartbeats 4000000 in
set_option maxRecDepth 100000 in
theorem c_M_room (hE : mE ad) (V : MS) (a1 : Int32) (a2 : Int32) (hp : p_M_room V a1 a2) : MC l D ad cI cZ y_M_room b_M_room 3 (some .boolean) ({ frames := 2, cells := 0, slots := 0, locals := 44 }) [.ref (ad 0), .int a1, .int a2] V (some (.int (j_M_room V a1 a2))) (V) := by
  refine FC_intro (by decide) (Nat.le_of_ble_eq_true rfl) ?_
  intro p e s m below meth c ls S hr hlk hK hP hS hl
  have S : CallFix p m c b_M_room 3 s _ TG "PageVaultModel" := S
  have hl : lv_has ls 3 [(0, .ref (ad 0)), (1, .int a1), (2, .int a2)] := hl
  rw [p_M_room] at hp
  refine lv_aload_n S.1 S.2.1 d_M_room_0 rfl (lv_at hl 0 rfl) ?_
  obtain ⟨o1, hp⟩ := hp
  refine m_callVi (As := []) (rest := []) S hK ci_M_67 (c_M_freeFrames l D ad cI cZ hE V o1) (m_recM hK hP) hP hS ⟨rfl, rfl, Nat.le_of_ble_eq_true rfl, Nat.le_of_ble_eq_true rfl⟩ rfl hl.1 rfl (Nat.le_of_ble_eq_true rfl) d_M_room_1 (fun H locs hP hS => ?_)
  refine lv_aload_n S.1 S.2.1 d_M_room_4 rfl (lv_at hl 0 rfl) ?_
  refine lv_iload_n S.1 S.2.1 d_M_room_5 rfl (lv_at hl 1 rfl) ?_
  refine lv_iload_n S.1 S.2.1 d_M_room_6 rfl (lv_at hl 2 rfl) ?_
  refine lv_sipush (v := 1024) S.1 S.2.1 d_M_room_7 (by decide) ?_
  refine lv_idiv S.1 S.2.1 d_M_room_10 (by decide) ?_
  obtain ⟨o2, hp⟩ := hp
  refine m_callVi (As := [.int a1, .int (a2 / 1024)]) (rest := [.int (j_M_freeFrames V)]) S hK ci_M_71 (c_M_hasRegion l D ad cI cZ hE V a1 (a2 / 1024) o2) (m_recM hK hP) hP hS ⟨rfl, rfl, Nat.le_of_ble_eq_true rfl, Nat.le_of_ble_eq_true rfl⟩ rfl hl.1 rfl (Nat.le_of_ble_eq_true rfl) d_M_room_11 (fun H locs hP hS => ?_)
  refine lv_if_eq (tgt := 21) S.1 S.2.1 d_M_room_14 (by decide) (fun c14 => ?_) (fun c14 => ?_)
  · have c14 : (j_M_hasRegion V a1 (a2 / 1024)) = 0 := c14
    refine lv_iconst (v := 2) S.1 S.2.1 d_M_room_21 (by decide) ?_
    refine lv_icmp_lt (tgt := 29) S.1 S.2.1 d_M_room_22 (by decide) (fun c22 => ?_) (fun c22 => ?_)
    · have c22 : (j_M_freeFrames V) < 2 := c22
      refine lv_iconst (v := 0) S.1 S.2.1 d_M_room_29 (by decide) ?_
      rw [show j_M_room V a1 a2 = 0 from by rw [j_M_room, if_pos c14, if_pos c22]]
      exact m_zret (v := 0) S hr hlk rfl hP hS d_M_room_30
    · have c22 : ¬ ((j_M_freeFrames V) < 2) := c22
      refine lv_iconst (v := 1) S.1 S.2.1 d_M_room_25 (by decide) ?_
      refine lv_goto (tgt := 30) S.1 S.2.1 d_M_room_26 (by decide) ?_
      rw [show j_M_room V a1 a2 = 1 from by rw [j_M_room, if_pos c14, if_neg c22]]
      exact m_zret (v := 1) S hr hlk rfl hP hS d_M_room_30
  · have c14 : ¬ ((j_M_hasRegion V a1 (a2 / 1024)) = 0) := c14
    refine lv_iconst (v := 1) S.1 S.2.1 d_M_room_17 (by decide) ?_
    refine lv_goto (tgt := 22) S.1 S.2.1 d_M_room_18 (by decide) ?_
    refine lv_icmp_lt (tgt := 29) S.1 S.2.1 d_M_room_22 (by decide) (fun c22 => ?_) (fun c22 => ?_)
    · have c22 : (j_M_freeFrames V) < 1 := c22
      refine lv_iconst (v := 0) S.1 S.2.1 d_M_room_29 (by decide) ?_
      rw [show j_M_room V a1 a2 = 0 from by rw [j_M_room, if_neg c14, if_pos c22]]
      exact m_zret (v := 0) S hr hlk rfl hP hS d_M_room_30
    · have c22 : ¬ ((j_M_freeFrames V) < 1) := c22
      refine lv_iconst (v := 1) S.1 S.2.1 d_M_room_25 (by decide) ?_
      refine lv_goto (tgt := 30) S.1 S.2.1 d_M_room_26 (by decide) ?_
      rw [show j_M_room V a1 a2 = 1 from by rw [j_M_room, if_neg c14, if_neg c22]]
      exact m_zret (v := 1) S hr hlk rfl hP hS d_M_room_30
end MW
