section MW
variable (l : Launch) (D : va_G) (ad : Nat → Nat) (cI cZ : ClassId)
/-- what it needs -/
def p_M_put (V : MS) (a1 : Int32) (a2 : Int32) : Prop :=
  if a1 < 0 then
    True
  else
    if 511 < a1 then
      True
    else
      if a2 < 0 then
        True
      else
        if a2 ≤ 255 then
          (p_M_note V 6 (-1) a1 1 a2) ∧ (
            True)
        else
          True
set_option maxHeartbeats 4000000 in
set_option maxRecDepth 100000 in
theorem c_M_put (hE : mE ad) (V : MS) (a1 : Int32) (a2 : Int32) (hp : p_M_put V a1 a2) : MC l D ad cI cZ y_M_put b_M_put 3 (some .boolean) ({ frames := 1, cells := 0, slots := 0, locals := 25 }) [.ref (ad 0), .int a1, .int a2] V (some (.int (j_M_put V a1 a2).1)) ((j_M_put V a1 a2).2) := by
  refine FC_intro (by decide) (Nat.le_of_ble_eq_true rfl) ?_
  intro p e s m below meth c ls S hr hlk hK hP hS hl
  have S : CallFix p m c b_M_put 3 s _ TG "PageVaultModel" := S
  have hl : lv_has ls 3 [(0, .ref (ad 0)), (1, .int a1), (2, .int a2)] := hl
  rw [p_M_put] at hp
  refine lv_iload_n S.1 S.2.1 d_M_put_0 rfl (lv_at hl 1 rfl) ?_
  refine lv_if_lt (tgt := 22) S.1 S.2.1 d_M_put_1 (by decide) (fun c1 => ?_) (fun c1 => ?_)
  · have c1 : a1 < 0 := c1
    rw [if_pos c1] at hp
    refine lv_iconst (v := 0) S.1 S.2.1 d_M_put_22 (by decide) ?_
    rw [show j_M_put V a1 a2 = (0, V) from by rw [j_M_put, if_pos c1]]
    exact m_zret (v := 0) S hr hlk rfl hP hS d_M_put_23
  · have c1 : ¬ (a1 < 0) := c1
    rw [if_neg c1] at hp
    refine lv_iload_n S.1 S.2.1 d_M_put_4 rfl (lv_at hl 1 rfl) ?_
    refine lv_sipush (v := 511) S.1 S.2.1 d_M_put_5 (by decide) ?_
    refine lv_icmp_gt (tgt := 22) S.1 S.2.1 d_M_put_8 (by decide) (fun c8 => ?_) (fun c8 => ?_)
    · have c8 : 511 < a1 := c8
      rw [if_pos c8] at hp
      refine lv_iconst (v := 0) S.1 S.2.1 d_M_put_22 (by decide) ?_
      rw [show j_M_put V a1 a2 = (0, V) from by rw [j_M_put, if_neg c1, if_pos c8]]
      exact m_zret (v := 0) S hr hlk rfl hP hS d_M_put_23
    · have c8 : ¬ (511 < a1) := c8
      rw [if_neg c8] at hp
      refine lv_iload_n S.1 S.2.1 d_M_put_11 rfl (lv_at hl 2 rfl) ?_
      refine lv_if_lt (tgt := 22) S.1 S.2.1 d_M_put_12 (by decide) (fun c12 => ?_) (fun c12 => ?_)
      · have c12 : a2 < 0 := c12
        rw [if_pos c12] at hp
        refine lv_iconst (v := 0) S.1 S.2.1 d_M_put_22 (by decide) ?_
        rw [show j_M_put V a1 a2 = (0, V) from by rw [j_M_put, if_neg c1, if_neg c8, if_pos c12]]
        exact m_zret (v := 0) S hr hlk rfl hP hS d_M_put_23
      · have c12 : ¬ (a2 < 0) := c12
        rw [if_neg c12] at hp
        refine lv_iload_n S.1 S.2.1 d_M_put_15 rfl (lv_at hl 2 rfl) ?_
        refine lv_sipush (v := 255) S.1 S.2.1 d_M_put_16 (by decide) ?_
        refine lv_icmp_le (tgt := 24) S.1 S.2.1 d_M_put_19 (by decide) (fun c19 => ?_) (fun c19 => ?_)
        · have c19 : a2 ≤ 255 := c19
          rw [if_pos c19] at hp
          refine lv_aload_n S.1 S.2.1 d_M_put_24 rfl (lv_at hl 0 rfl) ?_
          refine lv_bipush (v := 6) S.1 S.2.1 d_M_put_25 (by decide) ?_
          refine lv_iconst (v := (-1)) S.1 S.2.1 d_M_put_27 (by decide) ?_
          refine lv_iload_n S.1 S.2.1 d_M_put_28 rfl (lv_at hl 1 rfl) ?_
          refine lv_iconst (v := 1) S.1 S.2.1 d_M_put_29 (by decide) ?_
          refine lv_iload_n S.1 S.2.1 d_M_put_30 rfl (lv_at hl 2 rfl) ?_
          obtain ⟨o1, hp⟩ := hp
          refine m_callVv (As := [.int 6, .int (-1), .int a1, .int 1, .int a2]) (rest := []) S hK ci_M_82 (c_M_note l D ad cI cZ hE V 6 (-1) a1 1 a2 o1) (m_recM hK hP) hP hS ⟨rfl, rfl, Nat.le_of_ble_eq_true rfl, Nat.le_of_ble_eq_true rfl⟩ rfl hl.1 rfl (Nat.le_of_ble_eq_true rfl) d_M_put_31 (fun H locs hP hS => ?_)
          refine lv_iconst (v := 1) S.1 S.2.1 d_M_put_34 (by decide) ?_
          rw [show j_M_put V a1 a2 = (1, j_M_note V 6 (-1) a1 1 a2) from by rw [j_M_put, if_neg c1, if_neg c8, if_neg c12, if_pos c19]]
          exact m_zret (v := 1) S hr hlk rfl hP hS d_M_put_35
        · have c19 : ¬ (a2 ≤ 255) := c19
          rw [if_neg c19] at hp
          refine lv_iconst (v := 0) S.1 S.2.1 d_M_put_22 (by decide) ?_
          rw [show j_M_put V a1 a2 = (0, V) from by rw [j_M_put, if_neg c1, if_neg c8, if_neg c12, if_neg c19]]
          exact m_zret (v := 0) S hr hlk rfl hP hS d_M_put_23
/-- PageVaultModel.at(I)I -/
def j_M_at (V : MS) (a1 : Int32) : Int32 :=
  if a1 < 0 then
    (-1)
  else
    if a1 ≤ 511 then
      j_M_byteOf V (-1) a1
    else
      (-1)
/-- what it needs -/
def p_M_at (V : MS) (a1 : Int32) : Prop :=
  if a1 < 0 then
    True
  else
    if a1 ≤ 511 then
      (p_M_byteOf V (-1) a1) ∧ (
        True)
    else
      True
set_option maxHeartbeats 4000000 in
set_option maxRecDepth 100000 in
theorem c_M_at (hE : mE ad) (V : MS) (a1 : Int32) (hp : p_M_at V a1) : MC l D ad cI cZ y_M_at b_M_at 2 (some .int) ({ frames := 1, cells := 0, slots := 0, locals := 28 }) [.ref (ad 0), .int a1] V (some (.int (j_M_at V a1))) (V) := by
  refine FC_intro (by decide) (Nat.le_of_ble_eq_true rfl) ?_
  intro p e s m below meth c ls S hr hlk hK hP hS hl
  have S : CallFix p m c b_M_at 2 s _ TG "PageVaultModel" := S
  have hl : lv_has ls 2 [(0, .ref (ad 0)), (1, .int a1)] := hl
  rw [p_M_at] at hp
  refine lv_iload_n S.1 S.2.1 d_M_at_0 rfl (lv_at hl 1 rfl) ?_
  refine lv_if_lt (tgt := 11) S.1 S.2.1 d_M_at_1 (by decide) (fun c1 => ?_) (fun c1 => ?_)
  · have c1 : a1 < 0 := c1
    rw [if_pos c1] at hp
    refine lv_iconst (v := (-1)) S.1 S.2.1 d_M_at_11 (by decide) ?_
    refine lv_goto (tgt := 21) S.1 S.2.1 d_M_at_12 (by decide) ?_
    rw [show j_M_at V a1 = (-1) from by rw [j_M_at, if_pos c1]]
    exact m_iret S hr hlk hP hS d_M_at_21
  · have c1 : ¬ (a1 < 0) := c1
    rw [if_neg c1] at hp
    refine lv_iload_n S.1 S.2.1 d_M_at_4 rfl (lv_at hl 1 rfl) ?_
    refine lv_sipush (v := 511) S.1 S.2.1 d_M_at_5 (by decide) ?_
    refine lv_icmp_le (tgt := 15) S.1 S.2.1 d_M_at_8 (by decide) (fun c8 => ?_) (fun c8 => ?_)
    · have c8 : a1 ≤ 511 := c8
      rw [if_pos c8] at hp
      refine lv_aload_n S.1 S.2.1 d_M_at_15 rfl (lv_at hl 0 rfl) ?_
      refine lv_iconst (v := (-1)) S.1 S.2.1 d_M_at_16 (by decide) ?_
      refine lv_iload_n S.1 S.2.1 d_M_at_17 rfl (lv_at hl 1 rfl) ?_
      obtain ⟨o1, hp⟩ := hp
      refine m_callVi (As := [.int (-1), .int a1]) (rest := []) S hK ci_M_112 (c_M_byteOf l D ad cI cZ hE V (-1) a1 o1) (m_recM hK hP) hP hS ⟨rfl, rfl, Nat.le_of_ble_eq_true rfl, Nat.le_of_ble_eq_true rfl⟩ rfl hl.1 rfl (Nat.le_of_ble_eq_true rfl) d_M_at_18 (fun H locs hP hS => ?_)
      rw [show j_M_at V a1 = j_M_byteOf V (-1) a1 from by rw [j_M_at, if_neg c1, if_pos c8]]
      exact m_iret S hr hlk hP hS d_M_at_21
    · have c8 : ¬ (a1 ≤ 511) := c8
      rw [if_neg c8] at hp
      refine lv_iconst (v := (-1)) S.1 S.2.1 d_M_at_11 (by decide) ?_
      refine lv_goto (tgt := 21) S.1 S.2.1 d_M_at_12 (by decide) ?_
      rw [show j_M_at V a1 = (-1) from by rw [j_M_at, if_neg c1, if_neg c8]]
      exact m_iret S hr hlk hP hS d_M_at_21
/-- PageVaultModel.free()I -/
def j_M_free (V : MS) : Int32 :=
  j_M_freeFrames V
/-- what it needs -/
def p_M_free (V : MS) : Prop :=
  (p_M_freeFrames V) ∧ (
    True)
set_option maxHeartbeats 4000000 in
set_option maxRecDepth 100000 in
theorem c_M_free (hE : mE ad) (V : MS)  (hp : p_M_free V) : MC l D ad cI cZ y_M_free b_M_free 1 (some .int) ({ frames := 2, cells := 0, slots := 0, locals := 44 }) [.ref (ad 0)] V (some (.int (j_M_free V))) (V) := by
  refine FC_intro (by decide) (Nat.le_of_ble_eq_true rfl) ?_
  intro p e s m below meth c ls S hr hlk hK hP hS hl
  have S : CallFix p m c b_M_free 1 s _ TG "PageVaultModel" := S
  have hl : lv_has ls 1 [(0, .ref (ad 0))] := hl
  rw [p_M_free] at hp
  refine lv_aload_n S.1 S.2.1 d_M_free_0 rfl (lv_at hl 0 rfl) ?_
  obtain ⟨o1, hp⟩ := hp
  refine m_callVi (As := []) (rest := []) S hK ci_M_67 (c_M_freeFrames l D ad cI cZ hE V o1) (m_recM hK hP) hP hS ⟨rfl, rfl, Nat.le_of_ble_eq_true rfl, Nat.le_of_ble_eq_true rfl⟩ rfl hl.1 rfl (Nat.le_of_ble_eq_true rfl) d_M_free_1 (fun H locs hP hS => ?_)
  rw [show j_M_free V = j_M_freeFrames V from by rw [j_M_free]]
  exact m_iret S hr hlk hP hS d_M_free_4
/-- PageVaultModel.flags(II)I -/
def j_M_flags (V : MS) (a1 : Int32) (a2 : Int32) : Int32 :=
  if (j_M_row V a1 a2) = (-1) then
    (-1)
  else
    m_pf V ((j_M_row V a1 a2).toNatClampNeg)
/-- what it needs -/
def p_M_flags (V : MS) (a1 : Int32) (a2 : Int32) : Prop :=
  (p_M_row V a1 a2) ∧ (
    if (j_M_row V a1 a2) = (-1) then
      True
    else
      (vp_in (j_M_row V a1 a2) 128) ∧ (
        True))
set_option maxHeartbeats 4000000 in
set_option maxRecDepth 100000 in
theorem c_M_flags (hE : mE ad) (V : MS) (a1 : Int32) (a2 : Int32) (hp : p_M_flags V a1 a2) : MC l D ad cI cZ y_M_flags b_M_flags 4 (some .int) ({ frames := 1, cells := 0, slots := 0, locals := 23 }) [.ref (ad 0), .int a1, .int a2] V (some (.int (j_M_flags V a1 a2))) (V) := by
  refine FC_intro (by decide) (Nat.le_of_ble_eq_true rfl) ?_
  intro p e s m below meth c ls S hr hlk hK hP hS hl
  have S : CallFix p m c b_M_flags 4 s _ TG "PageVaultModel" := S
  have hl : lv_has ls 4 [(0, .ref (ad 0)), (1, .int a1), (2, .int a2)] := hl
  rw [p_M_flags] at hp
  refine lv_aload_n S.1 S.2.1 d_M_flags_0 rfl (lv_at hl 0 rfl) ?_
  refine lv_iload_n S.1 S.2.1 d_M_flags_1 rfl (lv_at hl 1 rfl) ?_
  refine lv_iload_n S.1 S.2.1 d_M_flags_2 rfl (lv_at hl 2 rfl) ?_
  obtain ⟨o1, hp⟩ := hp
  refine m_callVi (As := [.int a1, .int a2]) (rest := []) S hK ci_M_87 (c_M_row l D ad cI cZ hE V a1 a2 o1) (m_recM hK hP) hP hS ⟨rfl, rfl, Nat.le_of_ble_eq_true rfl, Nat.le_of_ble_eq_true rfl⟩ rfl hl.1 rfl (Nat.le_of_ble_eq_true rfl) d_M_flags_3 (fun H locs hP hS => ?_)
  refine lv_istore_n (lv' := [(3, .int (j_M_row V a1 a2)), (0, .ref (ad 0)), (1, .int a1), (2, .int a2)]) S.1 S.2.1 d_M_flags_6 rfl hl (by decide) rfl (fun ls hl => ?_)
  refine lv_iload_n S.1 S.2.1 d_M_flags_7 rfl (lv_at hl 0 rfl) ?_
  refine lv_iconst (v := (-1)) S.1 S.2.1 d_M_flags_8 (by decide) ?_
  refine lv_icmp_ne (tgt := 16) S.1 S.2.1 d_M_flags_9 (by decide) (fun c9 => ?_) (fun c9 => ?_)
  · have c9 : ¬ ((j_M_row V a1 a2) = (-1)) := c9
    rw [if_neg c9] at hp
    refine lv_aload_n S.1 S.2.1 d_M_flags_16 rfl (lv_at hl 1 rfl) ?_
    refine m_get_pf S hK hP tg_56 d_M_flags_17 ?_
    refine lv_iload_n S.1 S.2.1 d_M_flags_20 rfl (lv_at hl 0 rfl) ?_
    obtain ⟨o2, hp⟩ := hp
    refine m_ald_pf S hK hP o2 d_M_flags_21 ?_
    rw [show j_M_flags V a1 a2 = m_pf V ((j_M_row V a1 a2).toNatClampNeg) from by rw [j_M_flags, if_neg c9]]
    exact m_iret S hr hlk hP hS d_M_flags_22
  · have c9 : (j_M_row V a1 a2) = (-1) := c9
    rw [if_pos c9] at hp
    refine lv_iconst (v := (-1)) S.1 S.2.1 d_M_flags_12 (by decide) ?_
    refine lv_goto (tgt := 22) S.1 S.2.1 d_M_flags_13 (by decide) ?_
    rw [show j_M_flags V a1 a2 = (-1) from by rw [j_M_flags, if_pos c9]]
    exact m_iret S hr hlk hP hS d_M_flags_22
/-- PageVaultModel.owners(II)I -/
def j_M_owners (V : MS) (a1 : Int32) (a2 : Int32) : Int32 :=
  if (j_M_row V a1 a2) = (-1) then
    0
  else
    j_M_sharers V (m_pk V ((j_M_row V a1 a2).toNatClampNeg))
/-- what it needs -/
def p_M_owners (V : MS) (a1 : Int32) (a2 : Int32) : Prop :=
  (p_M_row V a1 a2) ∧ (
    if (j_M_row V a1 a2) = (-1) then
      True
    else
      (vp_in (j_M_row V a1 a2) 128) ∧ (
        (p_M_sharers V (m_pk V ((j_M_row V a1 a2).toNatClampNeg))) ∧ (
          True)))
set_option maxHeartbeats 4000000 in
set_option maxRecDepth 100000 in
theorem c_M_owners (hE : mE ad) (V : MS) (a1 : Int32) (a2 : Int32) (hp : p_M_owners V a1 a2) : MC l D ad cI cZ y_M_owners b_M_owners 4 (some .int) ({ frames := 1, cells := 0, slots := 0, locals := 23 }) [.ref (ad 0), .int a1, .int a2] V (some (.int (j_M_owners V a1 a2))) (V) := by
  refine FC_intro (by decide) (Nat.le_of_ble_eq_true rfl) ?_
  intro p e s m below meth c ls S hr hlk hK hP hS hl
  have S : CallFix p m c b_M_owners 4 s _ TG "PageVaultModel" := S
  have hl : lv_has ls 4 [(0, .ref (ad 0)), (1, .int a1), (2, .int a2)] := hl
  rw [p_M_owners] at hp
  refine lv_aload_n S.1 S.2.1 d_M_owners_0 rfl (lv_at hl 0 rfl) ?_
  refine lv_iload_n S.1 S.2.1 d_M_owners_1 rfl (lv_at hl 1 rfl) ?_
  refine lv_iload_n S.1 S.2.1 d_M_owners_2 rfl (lv_at hl 2 rfl) ?_
  obtain ⟨o1, hp⟩ := hp
  refine m_callVi (As := [.int a1, .int a2]) (rest := []) S hK ci_M_87 (c_M_row l D ad cI cZ hE V a1 a2 o1) (m_recM hK hP) hP hS ⟨rfl, rfl, Nat.le_of_ble_eq_true rfl, Nat.le_of_ble_eq_true rfl⟩ rfl hl.1 rfl (Nat.le_of_ble_eq_true rfl) d_M_owners_3 (fun H locs hP hS => ?_)
  refine lv_istore_n (lv' := [(3, .int (j_M_row V a1 a2)), (0, .ref (ad 0)), (1, .int a1), (2, .int a2)]) S.1 S.2.1 d_M_owners_6 rfl hl (by decide) rfl (fun ls hl => ?_)
  refine lv_iload_n S.1 S.2.1 d_M_owners_7 rfl (lv_at hl 0 rfl) ?_
  refine lv_iconst (v := (-1)) S.1 S.2.1 d_M_owners_8 (by decide) ?_
  refine lv_icmp_ne (tgt := 16) S.1 S.2.1 d_M_owners_9 (by decide) (fun c9 => ?_) (fun c9 => ?_)
  · have c9 : ¬ ((j_M_row V a1 a2) = (-1)) := c9
    rw [if_neg c9] at hp
    refine lv_aload_n S.1 S.2.1 d_M_owners_16 rfl (lv_at hl 1 rfl) ?_
    refine lv_aload_n S.1 S.2.1 d_M_owners_17 rfl (lv_at hl 1 rfl) ?_
    refine m_get_pk S hK hP tg_57 d_M_owners_18 ?_
    refine lv_iload_n S.1 S.2.1 d_M_owners_21 rfl (lv_at hl 0 rfl) ?_
    obtain ⟨o2, hp⟩ := hp
    refine m_ald_pk S hK hP o2 d_M_owners_22 ?_
    obtain ⟨o3, hp⟩ := hp
    refine m_callVi (As := [.int (m_pk V ((j_M_row V a1 a2).toNatClampNeg))]) (rest := []) S hK ci_M_98 (c_M_sharers l D ad cI cZ hE V (m_pk V ((j_M_row V a1 a2).toNatClampNeg)) o3) (m_recM hK hP) hP hS ⟨rfl, rfl, Nat.le_of_ble_eq_true rfl, Nat.le_of_ble_eq_true rfl⟩ rfl hl.1 rfl (Nat.le_of_ble_eq_true rfl) d_M_owners_23 (fun H locs hP hS => ?_)
    rw [show j_M_owners V a1 a2 = j_M_sharers V (m_pk V ((j_M_row V a1 a2).toNatClampNeg)) from by rw [j_M_owners, if_neg c9]]
    exact m_iret S hr hlk hP hS d_M_owners_26
  · have c9 : (j_M_row V a1 a2) = (-1) := c9
    rw [if_pos c9] at hp
    refine lv_iconst (v := 0) S.1 S.2.1 d_M_owners_12 (by decide) ?_
    refine lv_goto (tgt := 26) S.1 S.2.1 d_M_owners_13 (by decide) ?_
    rw [show j_M_owners V a1 a2 = 0 from by rw [j_M_owners, if_pos c9]]
    exact m_iret S hr hlk hP hS d_M_owners_26
end MW
