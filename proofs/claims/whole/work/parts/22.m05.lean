section MW
variable (l : Launch) (D : va_G) (ad : Nat → Nat) (cI cZ : ClassId)
/-- PageVaultModel.grow(II)I -/
def j_M_grow (V : MS) (a1 : Int32) (a2 : Int32) : Int32 × MS :=
  if (j_M_lives V a1) = 0 then
    ((-1), V)
  else
    if (lg_cmp (((m_ends V a1.toNatClampNeg).toInt64) + a2.toInt64) 0) < 0 then
      ((-1), V)
    else
      if (lg_cmp (((m_ends V a1.toNatClampNeg).toInt64) + a2.toInt64) 1073741824) ≤ 0 then
        (m_ends V a1.toNatClampNeg, j_M_removePages (t_ends V a1.toNatClampNeg ((((m_ends V a1.toNatClampNeg).toInt64) + a2.toInt64).toInt32)) a1 (m_ends (t_ends V a1.toNatClampNeg ((((m_ends V a1.toNatClampNeg).toInt64) + a2.toInt64).toInt32)) a1.toNatClampNeg))
      else
        ((-1), V)
/-- what it needs -/
def p_M_grow (V : MS) (a1 : Int32) (a2 : Int32) : Prop :=
  if (j_M_lives V a1) = 0 then
    True
  else
    if (lg_cmp (((m_ends V a1.toNatClampNeg).toInt64) + a2.toInt64) 0) < 0 then
      True
    else
      if (lg_cmp (((m_ends V a1.toNatClampNeg).toInt64) + a2.toInt64) 1073741824) ≤ 0 then
        (p_M_removePages (t_ends V a1.toNatClampNeg ((((m_ends V a1.toNatClampNeg).toInt64) + a2.toInt64).toInt32)) a1 (m_ends (t_ends V a1.toNatClampNeg ((((m_ends V a1.toNatClampNeg).toInt64) + a2.toInt64).toInt32)) a1.toNatClampNeg)) ∧ (
          True)
      else
        True
set_option maxHeartbeats 4000000 in
set_option maxRecDepth 100000 in
theorem c_M_grow (hE : mE ad) (V : MS) (a1 : Int32) (a2 : Int32) (hp : p_M_grow V a1 a2) : MC l D ad cI cZ y_M_grow b_M_grow 6 (some .int) ({ frames := 1, cells := 0, slots := 0, locals := 24 }) [.ref (ad 0), .int a1, .int a2] V (some (.int (j_M_grow V a1 a2).1)) ((j_M_grow V a1 a2).2) := by
  refine FC_intro (by decide) (Nat.le_of_ble_eq_true rfl) ?_
  intro p e s m below meth c ls S hr hlk hK hP hS hl
  have S : CallFix p m c b_M_grow 6 s _ TG "PageVaultModel" := S
  have hl : lv_has ls 6 [(0, .ref (ad 0)), (1, .int a1), (2, .int a2)] := hl
  rw [p_M_grow] at hp
  refine lv_aload_n S.1 S.2.1 d_M_grow_0 rfl (lv_at hl 0 rfl) ?_
  refine lv_iload_n S.1 S.2.1 d_M_grow_1 rfl (lv_at hl 1 rfl) ?_
  refine m_callVi (As := [.int a1]) (rest := []) S hK ci_M_105 (c_M_lives l D ad cI cZ hE V a1) (m_recM hK hP) hP hS ⟨rfl, rfl, Nat.le_of_ble_eq_true rfl, Nat.le_of_ble_eq_true rfl⟩ rfl hl.1 rfl (Nat.le_of_ble_eq_true rfl) d_M_grow_2 (fun H locs hP hS => ?_)
  refine lv_if_ne (tgt := 10) S.1 S.2.1 d_M_grow_5 (by decide) (fun c5 => ?_) (fun c5 => ?_)
  · have c5 : ¬ ((j_M_lives V a1) = 0) := c5
    rw [if_neg c5] at hp
    refine lv_aload_n S.1 S.2.1 d_M_grow_10 rfl (lv_at hl 0 rfl) ?_
    refine m_get_ends S hK hP tg_53 d_M_grow_11 ?_
    refine lv_iload_n S.1 S.2.1 d_M_grow_14 rfl (lv_at hl 1 rfl) ?_
    refine m_ald_ends S hK hP (lives_in c5) d_M_grow_15 ?_
    refine lv_istore_n (lv' := [(3, .int (m_ends V a1.toNatClampNeg)), (0, .ref (ad 0)), (1, .int a1), (2, .int a2)]) S.1 S.2.1 d_M_grow_16 rfl hl (by decide) rfl (fun ls hl => ?_)
    refine lv_iload_n S.1 S.2.1 d_M_grow_17 rfl (lv_at hl 0 rfl) ?_
    refine lv_i2l (v := (m_ends V a1.toNatClampNeg).toInt64) S.1 S.2.1 d_M_grow_18 rfl ?_
    refine lv_iload_n S.1 S.2.1 d_M_grow_19 rfl (lv_at hl 3 rfl) ?_
    refine lv_i2l (v := a2.toInt64) S.1 S.2.1 d_M_grow_20 rfl ?_
    refine lv_ladd S.1 S.2.1 d_M_grow_21 ?_
    refine lv_lstore (lv' := [(4, .long (((m_ends V a1.toNatClampNeg).toInt64) + a2.toInt64)), (3, .int (m_ends V a1.toNatClampNeg)), (0, .ref (ad 0)), (1, .int a1), (2, .int a2)]) S.1 S.2.1 d_M_grow_22 hl (by decide) rfl (fun ls hl => ?_)
    refine lv_lload S.1 S.2.1 d_M_grow_24 (lv_at hl 0 rfl) ?_
    refine lv_lconst (v := 0) S.1 S.2.1 d_M_grow_26 rfl ?_
    refine W.lcmp S.1 S.2.1 d_M_grow_27 ?_
    refine lv_if_lt (tgt := 40) S.1 S.2.1 d_M_grow_28 (by decide) (fun c28 => ?_) (fun c28 => ?_)
    · have c28 : (lg_cmp (((m_ends V a1.toNatClampNeg).toInt64) + a2.toInt64) 0) < 0 := c28
      rw [if_pos c28] at hp
      refine lv_iconst (v := (-1)) S.1 S.2.1 d_M_grow_40 (by decide) ?_
      rw [show j_M_grow V a1 a2 = ((-1), V) from by rw [j_M_grow, if_neg c5, if_pos c28]]
      exact m_iret S hr hlk hP hS d_M_grow_41
    · have c28 : ¬ ((lg_cmp (((m_ends V a1.toNatClampNeg).toInt64) + a2.toInt64) 0) < 0) := c28
      rw [if_neg c28] at hp
      refine lv_lload S.1 S.2.1 d_M_grow_31 (lv_at hl 0 rfl) ?_
      refine lv_ldc2 (v := 1073741824) S.1 S.2.1 S.2.2.2.1 (S.2.2.2.2 _ tg_136) d_M_grow_33 ?_
      refine W.lcmp S.1 S.2.1 d_M_grow_36 ?_
      refine lv_if_le (tgt := 42) S.1 S.2.1 d_M_grow_37 (by decide) (fun c37 => ?_) (fun c37 => ?_)
      · have c37 : (lg_cmp (((m_ends V a1.toNatClampNeg).toInt64) + a2.toInt64) 1073741824) ≤ 0 := c37
        rw [if_pos c37] at hp
        refine lv_aload_n S.1 S.2.1 d_M_grow_42 rfl (lv_at hl 2 rfl) ?_
        refine m_get_ends S hK hP tg_53 d_M_grow_43 ?_
        refine lv_iload_n S.1 S.2.1 d_M_grow_46 rfl (lv_at hl 3 rfl) ?_
        refine lv_lload S.1 S.2.1 d_M_grow_47 (lv_at hl 0 rfl) ?_
        refine lv_l2i (v := (((m_ends V a1.toNatClampNeg).toInt64) + a2.toInt64).toInt32) S.1 S.2.1 d_M_grow_49 rfl ?_
        refine m_ast_ends S hE hK hP hS (lives_in c5) d_M_grow_50 (fun H locs hP hS => ?_)
        refine lv_aload_n S.1 S.2.1 d_M_grow_51 rfl (lv_at hl 2 rfl) ?_
        refine lv_iload_n S.1 S.2.1 d_M_grow_52 rfl (lv_at hl 3 rfl) ?_
        refine lv_aload_n S.1 S.2.1 d_M_grow_53 rfl (lv_at hl 2 rfl) ?_
        refine m_get_ends S hK hP tg_53 d_M_grow_54 ?_
        refine lv_iload_n S.1 S.2.1 d_M_grow_57 rfl (lv_at hl 3 rfl) ?_
        refine m_ald_ends S hK hP (lives_in c5) d_M_grow_58 ?_
        obtain ⟨o1, hp⟩ := hp
        refine m_callVv (As := [.int a1, .int (m_ends (t_ends V a1.toNatClampNeg ((((m_ends V a1.toNatClampNeg).toInt64) + a2.toInt64).toInt32)) a1.toNatClampNeg)]) (rest := []) S hK ci_M_118 (c_M_removePages l D ad cI cZ hE (t_ends V a1.toNatClampNeg ((((m_ends V a1.toNatClampNeg).toInt64) + a2.toInt64).toInt32)) a1 (m_ends (t_ends V a1.toNatClampNeg ((((m_ends V a1.toNatClampNeg).toInt64) + a2.toInt64).toInt32)) a1.toNatClampNeg) o1) (m_recM hK hP) hP hS ⟨rfl, rfl, Nat.le_of_ble_eq_true rfl, Nat.le_of_ble_eq_true rfl⟩ rfl hl.1 rfl (Nat.le_of_ble_eq_true rfl) d_M_grow_59 (fun H locs hP hS => ?_)
        refine lv_iload_n S.1 S.2.1 d_M_grow_62 rfl (lv_at hl 1 rfl) ?_
        rw [show j_M_grow V a1 a2 = (m_ends V a1.toNatClampNeg, j_M_removePages (t_ends V a1.toNatClampNeg ((((m_ends V a1.toNatClampNeg).toInt64) + a2.toInt64).toInt32)) a1 (m_ends (t_ends V a1.toNatClampNeg ((((m_ends V a1.toNatClampNeg).toInt64) + a2.toInt64).toInt32)) a1.toNatClampNeg)) from by rw [j_M_grow, if_neg c5, if_neg c28, if_pos c37]]
        exact m_iret S hr hlk hP hS d_M_grow_63
      · have c37 : ¬ ((lg_cmp (((m_ends V a1.toNatClampNeg).toInt64) + a2.toInt64) 1073741824) ≤ 0) := c37
        rw [if_neg c37] at hp
        refine lv_iconst (v := (-1)) S.1 S.2.1 d_M_grow_40 (by decide) ?_
        rw [show j_M_grow V a1 a2 = ((-1), V) from by rw [j_M_grow, if_neg c5, if_neg c28, if_neg c37]]
        exact m_iret S hr hlk hP hS d_M_grow_41
  · have c5 : (j_M_lives V a1) = 0 := c5
    rw [if_pos c5] at hp
    refine lv_iconst (v := (-1)) S.1 S.2.1 d_M_grow_8 (by decide) ?_
    rw [show j_M_grow V a1 a2 = ((-1), V) from by rw [j_M_grow, if_pos c5]]
    exact m_iret S hr hlk hP hS d_M_grow_9
/-- PageVaultModel.size(I)I -/
def j_M_size (V : MS) (a1 : Int32) : Int32 :=
  if (j_M_lives V a1) = 0 then
    (-1)
  else
    m_ends V a1.toNatClampNeg
set_option maxHeartbeats 4000000 in
set_option maxRecDepth 100000 in
theorem c_M_size (hE : mE ad) (V : MS) (a1 : Int32) : MC l D ad cI cZ y_M_size b_M_size 2 (some .int) ({ frames := 1, cells := 0, slots := 0, locals := 21 }) [.ref (ad 0), .int a1] V (some (.int (j_M_size V a1))) (V) := by
  refine FC_intro (by decide) (Nat.le_of_ble_eq_true rfl) ?_
  intro p e s m below meth c ls S hr hlk hK hP hS hl
  have S : CallFix p m c b_M_size 2 s _ TG "PageVaultModel" := S
  have hl : lv_has ls 2 [(0, .ref (ad 0)), (1, .int a1)] := hl
  refine lv_aload_n S.1 S.2.1 d_M_size_0 rfl (lv_at hl 0 rfl) ?_
  refine lv_iload_n S.1 S.2.1 d_M_size_1 rfl (lv_at hl 1 rfl) ?_
  refine m_callVi (As := [.int a1]) (rest := []) S hK ci_M_105 (c_M_lives l D ad cI cZ hE V a1) (m_recM hK hP) hP hS ⟨rfl, rfl, Nat.le_of_ble_eq_true rfl, Nat.le_of_ble_eq_true rfl⟩ rfl hl.1 rfl (Nat.le_of_ble_eq_true rfl) d_M_size_2 (fun H locs hP hS => ?_)
  refine lv_if_eq (tgt := 17) S.1 S.2.1 d_M_size_5 (by decide) (fun c5 => ?_) (fun c5 => ?_)
  · have c5 : (j_M_lives V a1) = 0 := c5
    refine lv_iconst (v := (-1)) S.1 S.2.1 d_M_size_17 (by decide) ?_
    rw [show j_M_size V a1 = (-1) from by rw [j_M_size, if_pos c5]]
    exact m_iret S hr hlk hP hS d_M_size_18
  · have c5 : ¬ ((j_M_lives V a1) = 0) := c5
    refine lv_aload_n S.1 S.2.1 d_M_size_8 rfl (lv_at hl 0 rfl) ?_
    refine m_get_ends S hK hP tg_53 d_M_size_9 ?_
    refine lv_iload_n S.1 S.2.1 d_M_size_12 rfl (lv_at hl 1 rfl) ?_
    refine m_ald_ends S hK hP (lives_in c5) d_M_size_13 ?_
    refine lv_goto (tgt := 18) S.1 S.2.1 d_M_size_14 (by decide) ?_
    rw [show j_M_size V a1 = m_ends V a1.toNatClampNeg from by rw [j_M_size, if_neg c5]]
    exact m_iret S hr hlk hP hS d_M_size_18
/-- PageVaultModel.load(III)I -/
def j_M_load (V : MS) (a1 : Int32) (a2 : Int32) (a3 : Int32) : Int32 × MS :=
  if ((j_M_aimed V a1 a2 a3 1).1) = 0 then
    (0, (j_M_aimed V a1 a2 a3 1).2)
  else
    (j_M_number ((j_M_aimed V a1 a2 a3 1).2) a1 a2 a3, (j_M_aimed V a1 a2 a3 1).2)
/-- what it needs -/
def p_M_load (V : MS) (a1 : Int32) (a2 : Int32) (a3 : Int32) : Prop :=
  (p_M_aimed V a1 a2 a3 1) ∧ (
    if ((j_M_aimed V a1 a2 a3 1).1) = 0 then
      True
    else
      (p_M_number ((j_M_aimed V a1 a2 a3 1).2) a1 a2 a3) ∧ (
        True))
set_option maxHeartbeats 4000000 in
set_option maxRecDepth 100000 in
theorem c_M_load (hE : mE ad) (V : MS) (a1 : Int32) (a2 : Int32) (a3 : Int32) (hp : p_M_load V a1 a2 a3) : MC l D ad cI cZ y_M_load b_M_load 4 (some .int) ({ frames := 5, cells := 0, slots := 0, locals := 118 }) [.ref (ad 0), .int a1, .int a2, .int a3] V (some (.int (j_M_load V a1 a2 a3).1)) ((j_M_load V a1 a2 a3).2) := by
  refine FC_intro (by decide) (Nat.le_of_ble_eq_true rfl) ?_
  intro p e s m below meth c ls S hr hlk hK hP hS hl
  have S : CallFix p m c b_M_load 4 s _ TG "PageVaultModel" := S
  have hl : lv_has ls 4 [(0, .ref (ad 0)), (1, .int a1), (2, .int a2), (3, .int a3)] := hl
  rw [p_M_load] at hp
  refine lv_aload_n S.1 S.2.1 d_M_load_0 rfl (lv_at hl 0 rfl) ?_
  refine lv_iload_n S.1 S.2.1 d_M_load_1 rfl (lv_at hl 1 rfl) ?_
  refine lv_iload_n S.1 S.2.1 d_M_load_2 rfl (lv_at hl 2 rfl) ?_
  refine lv_iload_n S.1 S.2.1 d_M_load_3 rfl (lv_at hl 3 rfl) ?_
  refine lv_iconst (v := 1) S.1 S.2.1 d_M_load_4 (by decide) ?_
  obtain ⟨o1, hp⟩ := hp
  refine m_callVi (As := [.int a1, .int a2, .int a3, .int 1]) (rest := []) S hK ci_M_131 (c_M_aimed l D ad cI cZ hE V a1 a2 a3 1 o1) (m_recM hK hP) hP hS ⟨rfl, rfl, Nat.le_of_ble_eq_true rfl, Nat.le_of_ble_eq_true rfl⟩ rfl hl.1 rfl (Nat.le_of_ble_eq_true rfl) d_M_load_5 (fun H locs hP hS => ?_)
  refine lv_if_eq (tgt := 21) S.1 S.2.1 d_M_load_8 (by decide) (fun c8 => ?_) (fun c8 => ?_)
  · have c8 : ((j_M_aimed V a1 a2 a3 1).1) = 0 := c8
    rw [if_pos c8] at hp
    refine lv_iconst (v := 0) S.1 S.2.1 d_M_load_21 (by decide) ?_
    rw [show j_M_load V a1 a2 a3 = (0, (j_M_aimed V a1 a2 a3 1).2) from by rw [j_M_load, if_pos c8]]
    exact m_iret S hr hlk hP hS d_M_load_22
  · have c8 : ¬ (((j_M_aimed V a1 a2 a3 1).1) = 0) := c8
    rw [if_neg c8] at hp
    refine lv_aload_n S.1 S.2.1 d_M_load_11 rfl (lv_at hl 0 rfl) ?_
    refine lv_iload_n S.1 S.2.1 d_M_load_12 rfl (lv_at hl 1 rfl) ?_
    refine lv_iload_n S.1 S.2.1 d_M_load_13 rfl (lv_at hl 2 rfl) ?_
    refine lv_iload_n S.1 S.2.1 d_M_load_14 rfl (lv_at hl 3 rfl) ?_
    obtain ⟨o2, hp⟩ := hp
    refine m_callVi (As := [.int a1, .int a2, .int a3]) (rest := []) S hK ci_M_135 (c_M_number l D ad cI cZ hE ((j_M_aimed V a1 a2 a3 1).2) a1 a2 a3 o2) (m_recM hK hP) hP hS ⟨rfl, rfl, Nat.le_of_ble_eq_true rfl, Nat.le_of_ble_eq_true rfl⟩ rfl hl.1 rfl (Nat.le_of_ble_eq_true rfl) d_M_load_15 (fun H locs hP hS => ?_)
    refine lv_goto (tgt := 22) S.1 S.2.1 d_M_load_18 (by decide) ?_
    rw [show j_M_load V a1 a2 a3 = (j_M_number ((j_M_aimed V a1 a2 a3 1).2) a1 a2 a3, (j_M_aimed V a1 a2 a3 1).2) from by rw [j_M_load, if_neg c8]]
    exact m_iret S hr hlk hP hS d_M_load_22
/-- PageVaultModel.fetch(II)I -/
def j_M_fetch (V : MS) (a1 : Int32) (a2 : Int32) : Int32 × MS :=
  if ((j_M_aimed V a1 a2 4 4).1) = 0 then
    (0, (j_M_aimed V a1 a2 4 4).2)
  else
    (j_M_number ((j_M_aimed V a1 a2 4 4).2) a1 a2 4, (j_M_aimed V a1 a2 4 4).2)
/-- what it needs -/
def p_M_fetch (V : MS) (a1 : Int32) (a2 : Int32) : Prop :=
  (p_M_aimed V a1 a2 4 4) ∧ (
    if ((j_M_aimed V a1 a2 4 4).1) = 0 then
      True
    else
      (p_M_number ((j_M_aimed V a1 a2 4 4).2) a1 a2 4) ∧ (
        True))
set_option maxHeartbeats 4000000 in
set_option maxRecDepth 100000 in
theorem c_M_fetch (hE : mE ad) (V : MS) (a1 : Int32) (a2 : Int32) (hp : p_M_fetch V a1 a2) : MC l D ad cI cZ y_M_fetch b_M_fetch 3 (some .int) ({ frames := 5, cells := 0, slots := 0, locals := 118 }) [.ref (ad 0), .int a1, .int a2] V (some (.int (j_M_fetch V a1 a2).1)) ((j_M_fetch V a1 a2).2) := by
  refine FC_intro (by decide) (Nat.le_of_ble_eq_true rfl) ?_
  intro p e s m below meth c ls S hr hlk hK hP hS hl
  have S : CallFix p m c b_M_fetch 3 s _ TG "PageVaultModel" := S
  have hl : lv_has ls 3 [(0, .ref (ad 0)), (1, .int a1), (2, .int a2)] := hl
  rw [p_M_fetch] at hp
  refine lv_aload_n S.1 S.2.1 d_M_fetch_0 rfl (lv_at hl 0 rfl) ?_
  refine lv_iload_n S.1 S.2.1 d_M_fetch_1 rfl (lv_at hl 1 rfl) ?_
  refine lv_iload_n S.1 S.2.1 d_M_fetch_2 rfl (lv_at hl 2 rfl) ?_
  refine lv_iconst (v := 4) S.1 S.2.1 d_M_fetch_3 (by decide) ?_
  refine lv_iconst (v := 4) S.1 S.2.1 d_M_fetch_4 (by decide) ?_
  obtain ⟨o1, hp⟩ := hp
  refine m_callVi (As := [.int a1, .int a2, .int 4, .int 4]) (rest := []) S hK ci_M_131 (c_M_aimed l D ad cI cZ hE V a1 a2 4 4 o1) (m_recM hK hP) hP hS ⟨rfl, rfl, Nat.le_of_ble_eq_true rfl, Nat.le_of_ble_eq_true rfl⟩ rfl hl.1 rfl (Nat.le_of_ble_eq_true rfl) d_M_fetch_5 (fun H locs hP hS => ?_)
  refine lv_if_eq (tgt := 21) S.1 S.2.1 d_M_fetch_8 (by decide) (fun c8 => ?_) (fun c8 => ?_)
  · have c8 : ((j_M_aimed V a1 a2 4 4).1) = 0 := c8
    rw [if_pos c8] at hp
    refine lv_iconst (v := 0) S.1 S.2.1 d_M_fetch_21 (by decide) ?_
    rw [show j_M_fetch V a1 a2 = (0, (j_M_aimed V a1 a2 4 4).2) from by rw [j_M_fetch, if_pos c8]]
    exact m_iret S hr hlk hP hS d_M_fetch_22
  · have c8 : ¬ (((j_M_aimed V a1 a2 4 4).1) = 0) := c8
    rw [if_neg c8] at hp
    refine lv_aload_n S.1 S.2.1 d_M_fetch_11 rfl (lv_at hl 0 rfl) ?_
    refine lv_iload_n S.1 S.2.1 d_M_fetch_12 rfl (lv_at hl 1 rfl) ?_
    refine lv_iload_n S.1 S.2.1 d_M_fetch_13 rfl (lv_at hl 2 rfl) ?_
    refine lv_iconst (v := 4) S.1 S.2.1 d_M_fetch_14 (by decide) ?_
    obtain ⟨o2, hp⟩ := hp
    refine m_callVi (As := [.int a1, .int a2, .int 4]) (rest := []) S hK ci_M_135 (c_M_number l D ad cI cZ hE ((j_M_aimed V a1 a2 4 4).2) a1 a2 4 o2) (m_recM hK hP) hP hS ⟨rfl, rfl, Nat.le_of_ble_eq_true rfl, Nat.le_of_ble_eq_true rfl⟩ rfl hl.1 rfl (Nat.le_of_ble_eq_true rfl) d_M_fetch_15 (fun H locs hP hS => ?_)
    refine lv_goto (tgt := 22) S.1 S.2.1 d_M_fetch_18 (by decide) ?_
    rw [show j_M_fetch V a1 a2 = (j_M_number ((j_M_aimed V a1 a2 4 4).2) a1 a2 4, (j_M_aimed V a1 a2 4 4).2) from by rw [j_M_fetch, if_neg c8]]
    exact m_iret S hr hlk hP hS d_M_fetch_22
/-- PageVaultModel.store(IIII)Z -/
def j_M_store (V : MS) (a1 : Int32) (a2 : Int32) (a3 : Int32) (a4 : Int32) : Int32 × MS :=
  if ((j_M_aimed V a1 a2 a3 2).1) = 0 then
    (0, (j_M_aimed V a1 a2 a3 2).2)
  else
    (1, j_M_note ((j_M_aimed V a1 a2 a3 2).2) 3 a1 a2 a3 a4)
/-- what it needs -/
def p_M_store (V : MS) (a1 : Int32) (a2 : Int32) (a3 : Int32) (a4 : Int32) : Prop :=
  (p_M_aimed V a1 a2 a3 2) ∧ (
    if ((j_M_aimed V a1 a2 a3 2).1) = 0 then
      True
    else
      (p_M_note ((j_M_aimed V a1 a2 a3 2).2) 3 a1 a2 a3 a4) ∧ (
        True))
set_option maxHeartbeats 4000000 in
set_option maxRecDepth 100000 in
theorem c_M_store (hE : mE ad) (V : MS) (a1 : Int32) (a2 : Int32) (a3 : Int32) (a4 : Int32) (hp : p_M_store V a1 a2 a3 a4) : MC l D ad cI cZ y_M_store b_M_store 5 (some .boolean) ({ frames := 5, cells := 0, slots := 0, locals := 118 }) [.ref (ad 0), .int a1, .int a2, .int a3, .int a4] V (some (.int (j_M_store V a1 a2 a3 a4).1)) ((j_M_store V a1 a2 a3 a4).2) := by
  refine FC_intro (by decide) (Nat.le_of_ble_eq_true rfl) ?_
  intro p e s m below meth c ls S hr hlk hK hP hS hl
  have S : CallFix p m c b_M_store 5 s _ TG "PageVaultModel" := S
  have hl : lv_has ls 5 [(0, .ref (ad 0)), (1, .int a1), (2, .int a2), (3, .int a3), (4, .int a4)] := hl
  rw [p_M_store] at hp
  refine lv_aload_n S.1 S.2.1 d_M_store_0 rfl (lv_at hl 0 rfl) ?_
  refine lv_iload_n S.1 S.2.1 d_M_store_1 rfl (lv_at hl 1 rfl) ?_
  refine lv_iload_n S.1 S.2.1 d_M_store_2 rfl (lv_at hl 2 rfl) ?_
  refine lv_iload_n S.1 S.2.1 d_M_store_3 rfl (lv_at hl 3 rfl) ?_
  refine lv_iconst (v := 2) S.1 S.2.1 d_M_store_4 (by decide) ?_
  obtain ⟨o1, hp⟩ := hp
  refine m_callVi (As := [.int a1, .int a2, .int a3, .int 2]) (rest := []) S hK ci_M_131 (c_M_aimed l D ad cI cZ hE V a1 a2 a3 2 o1) (m_recM hK hP) hP hS ⟨rfl, rfl, Nat.le_of_ble_eq_true rfl, Nat.le_of_ble_eq_true rfl⟩ rfl hl.1 rfl (Nat.le_of_ble_eq_true rfl) d_M_store_5 (fun H locs hP hS => ?_)
  refine lv_if_ne (tgt := 13) S.1 S.2.1 d_M_store_8 (by decide) (fun c8 => ?_) (fun c8 => ?_)
  · have c8 : ¬ (((j_M_aimed V a1 a2 a3 2).1) = 0) := c8
    rw [if_neg c8] at hp
    refine lv_aload_n S.1 S.2.1 d_M_store_13 rfl (lv_at hl 0 rfl) ?_
    refine lv_iconst (v := 3) S.1 S.2.1 d_M_store_14 (by decide) ?_
    refine lv_iload_n S.1 S.2.1 d_M_store_15 rfl (lv_at hl 1 rfl) ?_
    refine lv_iload_n S.1 S.2.1 d_M_store_16 rfl (lv_at hl 2 rfl) ?_
    refine lv_iload_n S.1 S.2.1 d_M_store_17 rfl (lv_at hl 3 rfl) ?_
    refine lv_iload S.1 S.2.1 d_M_store_18 (lv_at hl 4 rfl) ?_
    obtain ⟨o2, hp⟩ := hp
    refine m_callVv (As := [.int 3, .int a1, .int a2, .int a3, .int a4]) (rest := []) S hK ci_M_82 (c_M_note l D ad cI cZ hE ((j_M_aimed V a1 a2 a3 2).2) 3 a1 a2 a3 a4 o2) (m_recM hK hP) hP hS ⟨rfl, rfl, Nat.le_of_ble_eq_true rfl, Nat.le_of_ble_eq_true rfl⟩ rfl hl.1 rfl (Nat.le_of_ble_eq_true rfl) d_M_store_20 (fun H locs hP hS => ?_)
    refine lv_iconst (v := 1) S.1 S.2.1 d_M_store_23 (by decide) ?_
    rw [show j_M_store V a1 a2 a3 a4 = (1, j_M_note ((j_M_aimed V a1 a2 a3 2).2) 3 a1 a2 a3 a4) from by rw [j_M_store, if_neg c8]]
    exact m_zret (v := 1) S hr hlk rfl hP hS d_M_store_24
  · have c8 : ((j_M_aimed V a1 a2 a3 2).1) = 0 := c8
    rw [if_pos c8] at hp
    refine lv_iconst (v := 0) S.1 S.2.1 d_M_store_11 (by decide) ?_
    rw [show j_M_store V a1 a2 a3 a4 = (0, (j_M_aimed V a1 a2 a3 2).2) from by rw [j_M_store, if_pos c8]]
    exact m_zret (v := 0) S hr hlk rfl hP hS d_M_store_12
/-- PageVaultModel.trap()I -/
def j_M_trap (V : MS) : Int32 :=
  m_trap V
set_option maxHeartbeats 4000000 in
set_option maxRecDepth 100000 in
theorem c_M_trap (hE : mE ad) (V : MS)  : MC l D ad cI cZ y_M_trap b_M_trap 1 (some .int) ({ frames := 0, cells := 0, slots := 0, locals := 0 }) [.ref (ad 0)] V (some (.int (j_M_trap V))) (V) := by
  refine FC_intro (by decide) (Nat.le_of_ble_eq_true rfl) ?_
  intro p e s m below meth c ls S hr hlk hK hP hS hl
  have S : CallFix p m c b_M_trap 1 s _ TG "PageVaultModel" := S
  have hl : lv_has ls 1 [(0, .ref (ad 0))] := hl
  refine lv_aload_n S.1 S.2.1 d_M_trap_0 rfl (lv_at hl 0 rfl) ?_
  refine m_get_trap S hK hP tg_111 d_M_trap_1 ?_
  rw [show j_M_trap V = m_trap V from by rw [j_M_trap]]
  exact m_iret S hr hlk hP hS d_M_trap_4
/-- PageVaultModel.out(III)I -/
def j_M_out (V : MS) (a1 : Int32) (a2 : Int32) (a3 : Int32) : Int32 × MS :=
  if a3 < 0 then
    ((-1), t_trap V 0)
  else
    if a3 ≤ 512 then
      if ((j_M_walk (t_trap V 0) a1 a2 a3 2).1) ≤ 0 then
        ((j_M_walk (t_trap V 0) a1 a2 a3 2).1, (j_M_walk (t_trap V 0) a1 a2 a3 2).2)
      else
        ((j_M_walk (t_trap V 0) a1 a2 a3 2).1, j_M_note ((j_M_walk (t_trap V 0) a1 a2 a3 2).2) 4 a1 a2 ((j_M_walk (t_trap V 0) a1 a2 a3 2).1) 0)
    else
      ((-1), t_trap V 0)
/-- what it needs -/
def p_M_out (V : MS) (a1 : Int32) (a2 : Int32) (a3 : Int32) : Prop :=
  if a3 < 0 then
    True
  else
    if a3 ≤ 512 then
      (p_M_walk (t_trap V 0) a1 a2 a3 2) ∧ (
        if ((j_M_walk (t_trap V 0) a1 a2 a3 2).1) ≤ 0 then
          True
        else
          (p_M_note ((j_M_walk (t_trap V 0) a1 a2 a3 2).2) 4 a1 a2 ((j_M_walk (t_trap V 0) a1 a2 a3 2).1) 0) ∧ (
            True))
    else
      True
set_option maxHeartbeats 4000000 in
set_option maxRecDepth 100000 in
theorem c_M_out (hE : mE ad) (V : MS) (a1 : Int32) (a2 : Int32) (a3 : Int32) (hp : p_M_out V a1 a2 a3) : MC l D ad cI cZ y_M_out b_M_out 5 (some .int) ({ frames := 5, cells := 0, slots := 0, locals := 119 }) [.ref (ad 0), .int a1, .int a2, .int a3] V (some (.int (j_M_out V a1 a2 a3).1)) ((j_M_out V a1 a2 a3).2) := by
  refine FC_intro (by decide) (Nat.le_of_ble_eq_true rfl) ?_
  intro p e s m below meth c ls S hr hlk hK hP hS hl
  have S : CallFix p m c b_M_out 5 s _ TG "PageVaultModel" := S
  have hl : lv_has ls 5 [(0, .ref (ad 0)), (1, .int a1), (2, .int a2), (3, .int a3)] := hl
  rw [p_M_out] at hp
  refine lv_aload_n S.1 S.2.1 d_M_out_0 rfl (lv_at hl 0 rfl) ?_
  refine lv_iconst (v := 0) S.1 S.2.1 d_M_out_1 (by decide) ?_
  refine m_put_trap S hE hK hP hS tg_111 d_M_out_2 (fun H locs hP hS => ?_)
  refine lv_iload_n S.1 S.2.1 d_M_out_5 rfl (lv_at hl 3 rfl) ?_
  refine lv_if_lt (tgt := 16) S.1 S.2.1 d_M_out_6 (by decide) (fun c6 => ?_) (fun c6 => ?_)
  · have c6 : a3 < 0 := c6
    rw [if_pos c6] at hp
    refine lv_iconst (v := (-1)) S.1 S.2.1 d_M_out_16 (by decide) ?_
    rw [show j_M_out V a1 a2 a3 = ((-1), t_trap V 0) from by rw [j_M_out, if_pos c6]]
    exact m_iret S hr hlk hP hS d_M_out_17
  · have c6 : ¬ (a3 < 0) := c6
    rw [if_neg c6] at hp
    refine lv_iload_n S.1 S.2.1 d_M_out_9 rfl (lv_at hl 3 rfl) ?_
    refine lv_sipush (v := 512) S.1 S.2.1 d_M_out_10 (by decide) ?_
    refine lv_icmp_le (tgt := 18) S.1 S.2.1 d_M_out_13 (by decide) (fun c13 => ?_) (fun c13 => ?_)
    · have c13 : a3 ≤ 512 := c13
      rw [if_pos c13] at hp
      refine lv_aload_n S.1 S.2.1 d_M_out_18 rfl (lv_at hl 0 rfl) ?_
      refine lv_iload_n S.1 S.2.1 d_M_out_19 rfl (lv_at hl 1 rfl) ?_
      refine lv_iload_n S.1 S.2.1 d_M_out_20 rfl (lv_at hl 2 rfl) ?_
      refine lv_iload_n S.1 S.2.1 d_M_out_21 rfl (lv_at hl 3 rfl) ?_
      refine lv_iconst (v := 2) S.1 S.2.1 d_M_out_22 (by decide) ?_
      obtain ⟨o1, hp⟩ := hp
      refine m_callVi (As := [.int a1, .int a2, .int a3, .int 2]) (rest := []) S hK ci_M_138 (c_M_walk l D ad cI cZ hE (t_trap V 0) a1 a2 a3 2 o1) (m_recM hK hP) hP hS ⟨rfl, rfl, Nat.le_of_ble_eq_true rfl, Nat.le_of_ble_eq_true rfl⟩ rfl hl.1 rfl (Nat.le_of_ble_eq_true rfl) d_M_out_23 (fun H locs hP hS => ?_)
      refine lv_istore (lv' := [(4, .int ((j_M_walk (t_trap V 0) a1 a2 a3 2).1)), (0, .ref (ad 0)), (1, .int a1), (2, .int a2), (3, .int a3)]) S.1 S.2.1 d_M_out_26 hl (by decide) rfl (fun ls hl => ?_)
      refine lv_iload S.1 S.2.1 d_M_out_28 (lv_at hl 0 rfl) ?_
      refine lv_if_le (tgt := 43) S.1 S.2.1 d_M_out_30 (by decide) (fun c30 => ?_) (fun c30 => ?_)
      · have c30 : ((j_M_walk (t_trap V 0) a1 a2 a3 2).1) ≤ 0 := c30
        rw [if_pos c30] at hp
        refine lv_iload S.1 S.2.1 d_M_out_43 (lv_at hl 0 rfl) ?_
        rw [show j_M_out V a1 a2 a3 = ((j_M_walk (t_trap V 0) a1 a2 a3 2).1, (j_M_walk (t_trap V 0) a1 a2 a3 2).2) from by rw [j_M_out, if_neg c6, if_pos c13, if_pos c30]]
        exact m_iret S hr hlk hP hS d_M_out_45
      · have c30 : ¬ (((j_M_walk (t_trap V 0) a1 a2 a3 2).1) ≤ 0) := c30
        rw [if_neg c30] at hp
        refine lv_aload_n S.1 S.2.1 d_M_out_33 rfl (lv_at hl 1 rfl) ?_
        refine lv_iconst (v := 4) S.1 S.2.1 d_M_out_34 (by decide) ?_
        refine lv_iload_n S.1 S.2.1 d_M_out_35 rfl (lv_at hl 2 rfl) ?_
        refine lv_iload_n S.1 S.2.1 d_M_out_36 rfl (lv_at hl 3 rfl) ?_
        refine lv_iload S.1 S.2.1 d_M_out_37 (lv_at hl 0 rfl) ?_
        refine lv_iconst (v := 0) S.1 S.2.1 d_M_out_39 (by decide) ?_
        obtain ⟨o2, hp⟩ := hp
        refine m_callVv (As := [.int 4, .int a1, .int a2, .int ((j_M_walk (t_trap V 0) a1 a2 a3 2).1), .int 0]) (rest := []) S hK ci_M_82 (c_M_note l D ad cI cZ hE ((j_M_walk (t_trap V 0) a1 a2 a3 2).2) 4 a1 a2 ((j_M_walk (t_trap V 0) a1 a2 a3 2).1) 0 o2) (m_recM hK hP) hP hS ⟨rfl, rfl, Nat.le_of_ble_eq_true rfl, Nat.le_of_ble_eq_true rfl⟩ rfl hl.1 rfl (Nat.le_of_ble_eq_true rfl) d_M_out_40 (fun H locs hP hS => ?_)
        refine lv_iload S.1 S.2.1 d_M_out_43 (lv_at hl 0 rfl) ?_
        rw [show j_M_out V a1 a2 a3 = ((j_M_walk (t_trap V 0) a1 a2 a3 2).1, j_M_note ((j_M_walk (t_trap V 0) a1 a2 a3 2).2) 4 a1 a2 ((j_M_walk (t_trap V 0) a1 a2 a3 2).1) 0) from by rw [j_M_out, if_neg c6, if_pos c13, if_neg c30]]
        exact m_iret S hr hlk hP hS d_M_out_45
    · have c13 : ¬ (a3 ≤ 512) := c13
      rw [if_neg c13] at hp
      refine lv_iconst (v := (-1)) S.1 S.2.1 d_M_out_16 (by decide) ?_
      rw [show j_M_out V a1 a2 a3 = ((-1), t_trap V 0) from by rw [j_M_out, if_neg c6, if_neg c13]]
      exact m_iret S hr hlk hP hS d_M_out_17
/-- PageVaultModel.in(III)I -/
def j_M_in (V : MS) (a1 : Int32) (a2 : Int32) (a3 : Int32) : Int32 × MS :=
  if a3 < 0 then
    ((-1), t_trap V 0)
  else
    if a3 ≤ 512 then
      ((j_M_walk (t_trap V 0) a1 a2 a3 1).1, j_M_came ((j_M_walk (t_trap V 0) a1 a2 a3 1).2) a1 a2 ((j_M_walk (t_trap V 0) a1 a2 a3 1).1))
    else
      ((-1), t_trap V 0)
/-- what it needs -/
def p_M_in (V : MS) (a1 : Int32) (a2 : Int32) (a3 : Int32) : Prop :=
  if a3 < 0 then
    True
  else
    if a3 ≤ 512 then
      (p_M_walk (t_trap V 0) a1 a2 a3 1) ∧ (
        (p_M_came ((j_M_walk (t_trap V 0) a1 a2 a3 1).2) a1 a2 ((j_M_walk (t_trap V 0) a1 a2 a3 1).1)) ∧ (
          True))
    else
      True
set_option maxHeartbeats 4000000 in
set_option maxRecDepth 100000 in
theorem c_M_in (hE : mE ad) (V : MS) (a1 : Int32) (a2 : Int32) (a3 : Int32) (hp : p_M_in V a1 a2 a3) : MC l D ad cI cZ y_M_in b_M_in 5 (some .int) ({ frames := 5, cells := 0, slots := 0, locals := 119 }) [.ref (ad 0), .int a1, .int a2, .int a3] V (some (.int (j_M_in V a1 a2 a3).1)) ((j_M_in V a1 a2 a3).2) := by
  refine FC_intro (by decide) (Nat.le_of_ble_eq_true rfl) ?_
  intro p e s m below meth c ls S hr hlk hK hP hS hl
  have S : CallFix p m c b_M_in 5 s _ TG "PageVaultModel" := S
  have hl : lv_has ls 5 [(0, .ref (ad 0)), (1, .int a1), (2, .int a2), (3, .int a3)] := hl
  rw [p_M_in] at hp
  refine lv_aload_n S.1 S.2.1 d_M_in_0 rfl (lv_at hl 0 rfl) ?_
  refine lv_iconst (v := 0) S.1 S.2.1 d_M_in_1 (by decide) ?_
  refine m_put_trap S hE hK hP hS tg_111 d_M_in_2 (fun H locs hP hS => ?_)
  refine lv_iload_n S.1 S.2.1 d_M_in_5 rfl (lv_at hl 3 rfl) ?_
  refine lv_if_lt (tgt := 16) S.1 S.2.1 d_M_in_6 (by decide) (fun c6 => ?_) (fun c6 => ?_)
  · have c6 : a3 < 0 := c6
    rw [if_pos c6] at hp
    refine lv_iconst (v := (-1)) S.1 S.2.1 d_M_in_16 (by decide) ?_
    rw [show j_M_in V a1 a2 a3 = ((-1), t_trap V 0) from by rw [j_M_in, if_pos c6]]
    exact m_iret S hr hlk hP hS d_M_in_17
  · have c6 : ¬ (a3 < 0) := c6
    rw [if_neg c6] at hp
    refine lv_iload_n S.1 S.2.1 d_M_in_9 rfl (lv_at hl 3 rfl) ?_
    refine lv_sipush (v := 512) S.1 S.2.1 d_M_in_10 (by decide) ?_
    refine lv_icmp_le (tgt := 18) S.1 S.2.1 d_M_in_13 (by decide) (fun c13 => ?_) (fun c13 => ?_)
    · have c13 : a3 ≤ 512 := c13
      rw [if_pos c13] at hp
      refine lv_aload_n S.1 S.2.1 d_M_in_18 rfl (lv_at hl 0 rfl) ?_
      refine lv_iload_n S.1 S.2.1 d_M_in_19 rfl (lv_at hl 1 rfl) ?_
      refine lv_iload_n S.1 S.2.1 d_M_in_20 rfl (lv_at hl 2 rfl) ?_
      refine lv_iload_n S.1 S.2.1 d_M_in_21 rfl (lv_at hl 3 rfl) ?_
      refine lv_iconst (v := 1) S.1 S.2.1 d_M_in_22 (by decide) ?_
      obtain ⟨o1, hp⟩ := hp
      refine m_callVi (As := [.int a1, .int a2, .int a3, .int 1]) (rest := []) S hK ci_M_138 (c_M_walk l D ad cI cZ hE (t_trap V 0) a1 a2 a3 1 o1) (m_recM hK hP) hP hS ⟨rfl, rfl, Nat.le_of_ble_eq_true rfl, Nat.le_of_ble_eq_true rfl⟩ rfl hl.1 rfl (Nat.le_of_ble_eq_true rfl) d_M_in_23 (fun H locs hP hS => ?_)
      refine lv_istore (lv' := [(4, .int ((j_M_walk (t_trap V 0) a1 a2 a3 1).1)), (0, .ref (ad 0)), (1, .int a1), (2, .int a2), (3, .int a3)]) S.1 S.2.1 d_M_in_26 hl (by decide) rfl (fun ls hl => ?_)
      refine lv_aload_n S.1 S.2.1 d_M_in_28 rfl (lv_at hl 1 rfl) ?_
      refine lv_iload_n S.1 S.2.1 d_M_in_29 rfl (lv_at hl 2 rfl) ?_
      refine lv_iload_n S.1 S.2.1 d_M_in_30 rfl (lv_at hl 3 rfl) ?_
      refine lv_iload S.1 S.2.1 d_M_in_31 (lv_at hl 0 rfl) ?_
      obtain ⟨o2, hp⟩ := hp
      refine m_callVv (As := [.int a1, .int a2, .int ((j_M_walk (t_trap V 0) a1 a2 a3 1).1)]) (rest := []) S hK ci_M_142 (c_M_came l D ad cI cZ hE ((j_M_walk (t_trap V 0) a1 a2 a3 1).2) a1 a2 ((j_M_walk (t_trap V 0) a1 a2 a3 1).1) o2) (m_recM hK hP) hP hS ⟨rfl, rfl, Nat.le_of_ble_eq_true rfl, Nat.le_of_ble_eq_true rfl⟩ rfl hl.1 rfl (Nat.le_of_ble_eq_true rfl) d_M_in_33 (fun H locs hP hS => ?_)
      refine lv_iload S.1 S.2.1 d_M_in_36 (lv_at hl 0 rfl) ?_
      rw [show j_M_in V a1 a2 a3 = ((j_M_walk (t_trap V 0) a1 a2 a3 1).1, j_M_came ((j_M_walk (t_trap V 0) a1 a2 a3 1).2) a1 a2 ((j_M_walk (t_trap V 0) a1 a2 a3 1).1)) from by rw [j_M_in, if_neg c6, if_pos c13]]
      exact m_iret S hr hlk hP hS d_M_in_38
    · have c13 : ¬ (a3 ≤ 512) := c13
      rw [if_neg c13] at hp
      refine lv_iconst (v := (-1)) S.1 S.2.1 d_M_in_16 (by decide) ?_
      rw [show j_M_in V a1 a2 a3 = ((-1), t_trap V 0) from by rw [j_M_in, if_neg c6, if_neg c13]]
      exact m_iret S hr hlk hP hS d_M_in_17
def j_M_text_h22 : Nat → MS → Int32 → Int32 → Int32 → Int32 → Int32 × MS
  | 0, V, _, _, _, _ => (0, V)
  | f + 1, V, a1, a2, a3, x4 =>
      if a3 ≤ x4 then
        ((-1), j_M_came V a1 a2 a3)
      else
        if (j_M_lives V a1) = 0 then
          ((-1), j_M_came (t_trap V 1) a1 a2 x4)
        else
          if ((j_M_touch V a1 (a2 + x4) 1).1) = 0 then
            if (j_M_byteOf (t_trap ((j_M_touch V a1 (a2 + x4) 1).2) ((j_M_touch V a1 (a2 + x4) 1).1)) a1 (a2 + x4)) = 0 then
              (x4, j_M_came (t_trap ((j_M_touch V a1 (a2 + x4) 1).2) ((j_M_touch V a1 (a2 + x4) 1).1)) a1 a2 (x4 + 1))
            else
              j_M_text_h22 f (t_trap ((j_M_touch V a1 (a2 + x4) 1).2) ((j_M_touch V a1 (a2 + x4) 1).1)) a1 a2 a3 (x4 + 1)
          else
            ((-1), j_M_came (t_trap ((j_M_touch V a1 (a2 + x4) 1).2) ((j_M_touch V a1 (a2 + x4) 1).1)) a1 a2 x4)
def p_M_text_h22 : Nat → MS → Int32 → Int32 → Int32 → Int32 → Prop
  | 0, _, _, _, _, _ => True
  | f + 1, V, a1, a2, a3, x4 =>
      if a3 ≤ x4 then
        (p_M_came V a1 a2 a3) ∧ (
          True)
      else
        if (j_M_lives V a1) = 0 then
          (p_M_came (t_trap V 1) a1 a2 x4) ∧ (
            True)
        else
          (p_M_touch V a1 (a2 + x4) 1) ∧ (
            if ((j_M_touch V a1 (a2 + x4) 1).1) = 0 then
              (p_M_byteOf (t_trap ((j_M_touch V a1 (a2 + x4) 1).2) ((j_M_touch V a1 (a2 + x4) 1).1)) a1 (a2 + x4)) ∧ (
                if (j_M_byteOf (t_trap ((j_M_touch V a1 (a2 + x4) 1).2) ((j_M_touch V a1 (a2 + x4) 1).1)) a1 (a2 + x4)) = 0 then
                  (p_M_came (t_trap ((j_M_touch V a1 (a2 + x4) 1).2) ((j_M_touch V a1 (a2 + x4) 1).1)) a1 a2 (x4 + 1)) ∧ (
                    True)
                else
                  p_M_text_h22 f (t_trap ((j_M_touch V a1 (a2 + x4) 1).2) ((j_M_touch V a1 (a2 + x4) 1).1)) a1 a2 a3 (x4 + 1))
            else
              (p_M_came (t_trap ((j_M_touch V a1 (a2 + x4) 1).2) ((j_M_touch V a1 (a2 + x4) 1).1)) a1 a2 x4) ∧ (
                True))
set_option maxHeartbeats 4000000 in
set_option maxRecDepth 100000 in
theorem w_M_text_h22 (hE : mE ad) {p : Program} {e : Env} {s : State} {m : MethodId} {args : Array Value} {below : List Frame} {meth : Method} {c : Code} (S : CallFix p m c b_M_text 5 s args TG "PageVaultModel") (hr : meth.sig.returnType = some .int) (hlk : meth.locks = false) (hK : mK D cI cZ s) :
    ∀ (f i : Nat) (a1 a2 a3 x4 : Int32) (V : MS) (H : Heap) (locs : List Loc) (ls : Array Slot), x4 = nI i → i < 2 ^ 31 → a3.toNatClampNeg - i < f → p_M_text_h22 f V a1 a2 a3 x4 → MP D ad cI cZ (V) H → va_S (iA ad mN) s.heap H locs → lv_has ls 5 [(0, .ref (ad 0)), (1, .int a1), (2, .int a2), (3, .int a3), (4, .int x4)] → W p l e ({ frames := 4, cells := 0, slots := 0, locals := 94 }) s m args below meth c H locs 0 0 (MQ below (gPost D ad mN (some (.int (j_M_text_h22 f V a1 a2 a3 x4).1)) (mc ad cI cZ ((j_M_text_h22 f V a1 a2 a3 x4).2))) args s 0 0 (iA ad mN)) (F0 m 22 ls []) := by
  intro f
  induction f with
  | zero =>
    intro i a1 a2 a3 x4 V H locs ls ek hi hf hp hP hS hl
    exact absurd hf (Nat.not_lt_zero _)
  | succ f ih =>
    intro i a1 a2 a3 x4 V H locs ls ek hi hf hp hP hS hl
    rw [p_M_text_h22] at hp
    refine lv_iload S.1 S.2.1 d_M_text_22 (lv_at hl 4 rfl) ?_
    refine lv_iload_n S.1 S.2.1 d_M_text_24 rfl (lv_at hl 3 rfl) ?_
    refine lv_icmp_ge (tgt := 102) S.1 S.2.1 d_M_text_25 (by decide) (fun c25 => ?_) (fun c25 => ?_)
    · have c25 : a3 ≤ x4 := c25
      rw [if_pos c25] at hp
      refine lv_aload_n S.1 S.2.1 d_M_text_102 rfl (lv_at hl 0 rfl) ?_
      refine lv_iload_n S.1 S.2.1 d_M_text_103 rfl (lv_at hl 1 rfl) ?_
      refine lv_iload_n S.1 S.2.1 d_M_text_104 rfl (lv_at hl 2 rfl) ?_
      refine lv_iload_n S.1 S.2.1 d_M_text_105 rfl (lv_at hl 3 rfl) ?_
      obtain ⟨o1, hp⟩ := hp
      refine m_callVv (As := [.int a1, .int a2, .int a3]) (rest := []) S hK ci_M_142 (c_M_came l D ad cI cZ hE V a1 a2 a3 o1) (m_recM hK hP) hP hS ⟨rfl, rfl, Nat.le_of_ble_eq_true rfl, Nat.le_of_ble_eq_true rfl⟩ rfl hl.1 rfl (Nat.le_of_ble_eq_true rfl) d_M_text_106 (fun H locs hP hS => ?_)
      refine lv_iconst (v := (-1)) S.1 S.2.1 d_M_text_109 (by decide) ?_
      rw [show j_M_text_h22 (f + 1) V a1 a2 a3 x4 = ((-1), j_M_came V a1 a2 a3) from by rw [j_M_text_h22, if_pos c25]]
      exact m_iret S hr hlk hP hS d_M_text_110
    · have c25 : ¬ (a3 ≤ x4) := c25
      rw [if_neg c25] at hp
      refine lv_aload_n S.1 S.2.1 d_M_text_28 rfl (lv_at hl 0 rfl) ?_
      refine lv_aload_n S.1 S.2.1 d_M_text_29 rfl (lv_at hl 0 rfl) ?_
      refine lv_iload_n S.1 S.2.1 d_M_text_30 rfl (lv_at hl 1 rfl) ?_
      refine m_callVi (As := [.int a1]) (rest := [.ref (ad 0)]) S hK ci_M_105 (c_M_lives l D ad cI cZ hE V a1) (m_recM hK hP) hP hS ⟨rfl, rfl, Nat.le_of_ble_eq_true rfl, Nat.le_of_ble_eq_true rfl⟩ rfl hl.1 rfl (Nat.le_of_ble_eq_true rfl) d_M_text_31 (fun H locs hP hS => ?_)
      refine lv_if_eq (tgt := 50) S.1 S.2.1 d_M_text_34 (by decide) (fun c34 => ?_) (fun c34 => ?_)
      · have c34 : (j_M_lives V a1) = 0 := c34
        rw [if_pos c34] at hp
        refine lv_iconst (v := 1) S.1 S.2.1 d_M_text_50 (by decide) ?_
        refine m_put_trap S hE hK hP hS tg_111 d_M_text_51 (fun H locs hP hS => ?_)
        refine lv_aload_n S.1 S.2.1 d_M_text_54 rfl (lv_at hl 0 rfl) ?_
        refine m_get_trap S hK hP tg_111 d_M_text_55 ?_
        refine lv_if_eq (tgt := 71) S.1 S.2.1 d_M_text_58 (by decide) (fun c58 => ?_) (fun c58 => ?_)
        · have c58 : (1 : Int32) = (0 : Int32) := c58
          exact absurd c58 (by decide)
        · have c58 : ¬ ((1 : Int32) = (0 : Int32)) := c58
          refine lv_aload_n S.1 S.2.1 d_M_text_61 rfl (lv_at hl 0 rfl) ?_
          refine lv_iload_n S.1 S.2.1 d_M_text_62 rfl (lv_at hl 1 rfl) ?_
          refine lv_iload_n S.1 S.2.1 d_M_text_63 rfl (lv_at hl 2 rfl) ?_
          refine lv_iload S.1 S.2.1 d_M_text_64 (lv_at hl 4 rfl) ?_
          obtain ⟨o2, hp⟩ := hp
          refine m_callVv (As := [.int a1, .int a2, .int x4]) (rest := []) S hK ci_M_142 (c_M_came l D ad cI cZ hE (t_trap V 1) a1 a2 x4 o2) (m_recM hK hP) hP hS ⟨rfl, rfl, Nat.le_of_ble_eq_true rfl, Nat.le_of_ble_eq_true rfl⟩ rfl hl.1 rfl (Nat.le_of_ble_eq_true rfl) d_M_text_66 (fun H locs hP hS => ?_)
          refine lv_iconst (v := (-1)) S.1 S.2.1 d_M_text_69 (by decide) ?_
          rw [show j_M_text_h22 (f + 1) V a1 a2 a3 x4 = ((-1), j_M_came (t_trap V 1) a1 a2 x4) from by rw [j_M_text_h22, if_neg c25, if_pos c34]]
          exact m_iret S hr hlk hP hS d_M_text_70
      · have c34 : ¬ ((j_M_lives V a1) = 0) := c34
        rw [if_neg c34] at hp
        refine lv_aload_n S.1 S.2.1 d_M_text_37 rfl (lv_at hl 0 rfl) ?_
        refine lv_iload_n S.1 S.2.1 d_M_text_38 rfl (lv_at hl 1 rfl) ?_
        refine lv_iload_n S.1 S.2.1 d_M_text_39 rfl (lv_at hl 2 rfl) ?_
        refine lv_iload S.1 S.2.1 d_M_text_40 (lv_at hl 4 rfl) ?_
        refine lv_iadd S.1 S.2.1 d_M_text_42 ?_
        refine lv_iconst (v := 1) S.1 S.2.1 d_M_text_43 (by decide) ?_
        obtain ⟨o3, hp⟩ := hp
        refine m_callVi (As := [.int a1, .int (a2 + x4), .int 1]) (rest := [.ref (ad 0)]) S hK ci_M_108 (c_M_touch l D ad cI cZ hE V a1 (a2 + x4) 1 o3) (m_recM hK hP) hP hS ⟨rfl, rfl, Nat.le_of_ble_eq_true rfl, Nat.le_of_ble_eq_true rfl⟩ rfl hl.1 rfl (Nat.le_of_ble_eq_true rfl) d_M_text_44 (fun H locs hP hS => ?_)
        refine lv_goto (tgt := 51) S.1 S.2.1 d_M_text_47 (by decide) ?_
        refine m_put_trap S hE hK hP hS tg_111 d_M_text_51 (fun H locs hP hS => ?_)
        refine lv_aload_n S.1 S.2.1 d_M_text_54 rfl (lv_at hl 0 rfl) ?_
        refine m_get_trap S hK hP tg_111 d_M_text_55 ?_
        refine lv_if_eq (tgt := 71) S.1 S.2.1 d_M_text_58 (by decide) (fun c58 => ?_) (fun c58 => ?_)
        · have c58 : ((j_M_touch V a1 (a2 + x4) 1).1) = 0 := c58
          rw [if_pos c58] at hp
          refine lv_aload_n S.1 S.2.1 d_M_text_71 rfl (lv_at hl 0 rfl) ?_
          refine lv_iload_n S.1 S.2.1 d_M_text_72 rfl (lv_at hl 1 rfl) ?_
          refine lv_iload_n S.1 S.2.1 d_M_text_73 rfl (lv_at hl 2 rfl) ?_
          refine lv_iload S.1 S.2.1 d_M_text_74 (lv_at hl 4 rfl) ?_
          refine lv_iadd S.1 S.2.1 d_M_text_76 ?_
          obtain ⟨o4, hp⟩ := hp
          refine m_callVi (As := [.int a1, .int (a2 + x4)]) (rest := []) S hK ci_M_112 (c_M_byteOf l D ad cI cZ hE (t_trap ((j_M_touch V a1 (a2 + x4) 1).2) ((j_M_touch V a1 (a2 + x4) 1).1)) a1 (a2 + x4) o4) (m_recM hK hP) hP hS ⟨rfl, rfl, Nat.le_of_ble_eq_true rfl, Nat.le_of_ble_eq_true rfl⟩ rfl hl.1 rfl (Nat.le_of_ble_eq_true rfl) d_M_text_77 (fun H locs hP hS => ?_)
          refine lv_if_ne (tgt := 96) S.1 S.2.1 d_M_text_80 (by decide) (fun c80 => ?_) (fun c80 => ?_)
          · have c80 : ¬ ((j_M_byteOf (t_trap ((j_M_touch V a1 (a2 + x4) 1).2) ((j_M_touch V a1 (a2 + x4) 1).1)) a1 (a2 + x4)) = 0) := c80
            rw [if_neg c80] at hp
            refine lv_iinc (v := x4 + 1) (lv' := [(4, .int (x4 + 1)), (0, .ref (ad 0)), (1, .int a1), (2, .int a2), (3, .int a3)]) S.1 S.2.1 d_M_text_96 hl (k := 4) rfl rfl (by decide) rfl (fun ls hl => ?_)
            refine lv_goto (tgt := 22) S.1 S.2.1 d_M_text_99 (by decide) ?_
            have hB := lp_lc ek hi c25
            have hC := clamp_lt a3
            rw [show j_M_text_h22 (f + 1) V a1 a2 a3 x4 = j_M_text_h22 f (t_trap ((j_M_touch V a1 (a2 + x4) 1).2) ((j_M_touch V a1 (a2 + x4) 1).1)) a1 a2 a3 (x4 + 1) from by rw [j_M_text_h22, if_neg c25, if_neg c34, if_pos c58, if_neg c80]]
            exact ih (i + 1) a1 a2 a3 (x4 + 1) (t_trap ((j_M_touch V a1 (a2 + x4) 1).2) ((j_M_touch V a1 (a2 + x4) 1).1)) _ _ _ (by rw [ek]; exact nI_1 i) (by omega) (by omega) hp hP hS (lv_sub hl [1, 2, 3, 4, 0] rfl)
          · have c80 : (j_M_byteOf (t_trap ((j_M_touch V a1 (a2 + x4) 1).2) ((j_M_touch V a1 (a2 + x4) 1).1)) a1 (a2 + x4)) = 0 := c80
            rw [if_pos c80] at hp
            refine lv_aload_n S.1 S.2.1 d_M_text_83 rfl (lv_at hl 0 rfl) ?_
            refine lv_iload_n S.1 S.2.1 d_M_text_84 rfl (lv_at hl 1 rfl) ?_
            refine lv_iload_n S.1 S.2.1 d_M_text_85 rfl (lv_at hl 2 rfl) ?_
            refine lv_iload S.1 S.2.1 d_M_text_86 (lv_at hl 4 rfl) ?_
            refine lv_iconst (v := 1) S.1 S.2.1 d_M_text_88 (by decide) ?_
            refine lv_iadd S.1 S.2.1 d_M_text_89 ?_
            obtain ⟨o5, hp⟩ := hp
            refine m_callVv (As := [.int a1, .int a2, .int (x4 + 1)]) (rest := []) S hK ci_M_142 (c_M_came l D ad cI cZ hE (t_trap ((j_M_touch V a1 (a2 + x4) 1).2) ((j_M_touch V a1 (a2 + x4) 1).1)) a1 a2 (x4 + 1) o5) (m_recM hK hP) hP hS ⟨rfl, rfl, Nat.le_of_ble_eq_true rfl, Nat.le_of_ble_eq_true rfl⟩ rfl hl.1 rfl (Nat.le_of_ble_eq_true rfl) d_M_text_90 (fun H locs hP hS => ?_)
            refine lv_iload S.1 S.2.1 d_M_text_93 (lv_at hl 4 rfl) ?_
            rw [show j_M_text_h22 (f + 1) V a1 a2 a3 x4 = (x4, j_M_came (t_trap ((j_M_touch V a1 (a2 + x4) 1).2) ((j_M_touch V a1 (a2 + x4) 1).1)) a1 a2 (x4 + 1)) from by rw [j_M_text_h22, if_neg c25, if_neg c34, if_pos c58, if_pos c80]]
            exact m_iret S hr hlk hP hS d_M_text_95
        · have c58 : ¬ (((j_M_touch V a1 (a2 + x4) 1).1) = 0) := c58
          rw [if_neg c58] at hp
          refine lv_aload_n S.1 S.2.1 d_M_text_61 rfl (lv_at hl 0 rfl) ?_
          refine lv_iload_n S.1 S.2.1 d_M_text_62 rfl (lv_at hl 1 rfl) ?_
          refine lv_iload_n S.1 S.2.1 d_M_text_63 rfl (lv_at hl 2 rfl) ?_
          refine lv_iload S.1 S.2.1 d_M_text_64 (lv_at hl 4 rfl) ?_
          obtain ⟨o6, hp⟩ := hp
          refine m_callVv (As := [.int a1, .int a2, .int x4]) (rest := []) S hK ci_M_142 (c_M_came l D ad cI cZ hE (t_trap ((j_M_touch V a1 (a2 + x4) 1).2) ((j_M_touch V a1 (a2 + x4) 1).1)) a1 a2 x4 o6) (m_recM hK hP) hP hS ⟨rfl, rfl, Nat.le_of_ble_eq_true rfl, Nat.le_of_ble_eq_true rfl⟩ rfl hl.1 rfl (Nat.le_of_ble_eq_true rfl) d_M_text_66 (fun H locs hP hS => ?_)
          refine lv_iconst (v := (-1)) S.1 S.2.1 d_M_text_69 (by decide) ?_
          rw [show j_M_text_h22 (f + 1) V a1 a2 a3 x4 = ((-1), j_M_came (t_trap ((j_M_touch V a1 (a2 + x4) 1).2) ((j_M_touch V a1 (a2 + x4) 1).1)) a1 a2 x4) from by rw [j_M_text_h22, if_neg c25, if_neg c34, if_neg c58]]
          exact m_iret S hr hlk hP hS d_M_text_70
/-- PageVaultModel.text(III)I -/
def j_M_text (V : MS) (a1 : Int32) (a2 : Int32) (a3 : Int32) : Int32 × MS :=
  if a3 < 1 then
    ((-1), t_trap V 0)
  else
    if a3 ≤ 512 then
      j_M_text_h22 (a3.toNatClampNeg + 1) (t_trap V 0) a1 a2 a3 0
    else
      ((-1), t_trap V 0)
/-- what it needs -/
def p_M_text (V : MS) (a1 : Int32) (a2 : Int32) (a3 : Int32) : Prop :=
  if a3 < 1 then
    True
  else
    if a3 ≤ 512 then
      p_M_text_h22 (a3.toNatClampNeg + 1) (t_trap V 0) a1 a2 a3 0
    else
      True
set_option maxHeartbeats 4000000 in
set_option maxRecDepth 100000 in
theorem c_M_text (hE : mE ad) (V : MS) (a1 : Int32) (a2 : Int32) (a3 : Int32) (hp : p_M_text V a1 a2 a3) : MC l D ad cI cZ y_M_text b_M_text 5 (some .int) ({ frames := 4, cells := 0, slots := 0, locals := 94 }) [.ref (ad 0), .int a1, .int a2, .int a3] V (some (.int (j_M_text V a1 a2 a3).1)) ((j_M_text V a1 a2 a3).2) := by
  refine FC_intro (by decide) (Nat.le_of_ble_eq_true rfl) ?_
  intro p e s m below meth c ls S hr hlk hK hP hS hl
  have S : CallFix p m c b_M_text 5 s _ TG "PageVaultModel" := S
  have hl : lv_has ls 5 [(0, .ref (ad 0)), (1, .int a1), (2, .int a2), (3, .int a3)] := hl
  rw [p_M_text] at hp
  refine lv_aload_n S.1 S.2.1 d_M_text_0 rfl (lv_at hl 0 rfl) ?_
  refine lv_iconst (v := 0) S.1 S.2.1 d_M_text_1 (by decide) ?_
  refine m_put_trap S hE hK hP hS tg_111 d_M_text_2 (fun H locs hP hS => ?_)
  refine lv_iload_n S.1 S.2.1 d_M_text_5 rfl (lv_at hl 3 rfl) ?_
  refine lv_iconst (v := 1) S.1 S.2.1 d_M_text_6 (by decide) ?_
  refine lv_icmp_lt (tgt := 17) S.1 S.2.1 d_M_text_7 (by decide) (fun c7 => ?_) (fun c7 => ?_)
  · have c7 : a3 < 1 := c7
    rw [if_pos c7] at hp
    refine lv_iconst (v := (-1)) S.1 S.2.1 d_M_text_17 (by decide) ?_
    rw [show j_M_text V a1 a2 a3 = ((-1), t_trap V 0) from by rw [j_M_text, if_pos c7]]
    exact m_iret S hr hlk hP hS d_M_text_18
  · have c7 : ¬ (a3 < 1) := c7
    rw [if_neg c7] at hp
    refine lv_iload_n S.1 S.2.1 d_M_text_10 rfl (lv_at hl 3 rfl) ?_
    refine lv_sipush (v := 512) S.1 S.2.1 d_M_text_11 (by decide) ?_
    refine lv_icmp_le (tgt := 19) S.1 S.2.1 d_M_text_14 (by decide) (fun c14 => ?_) (fun c14 => ?_)
    · have c14 : a3 ≤ 512 := c14
      rw [if_pos c14] at hp
      refine lv_iconst (v := 0) S.1 S.2.1 d_M_text_19 (by decide) ?_
      refine lv_istore (lv' := [(4, .int 0), (0, .ref (ad 0)), (1, .int a1), (2, .int a2), (3, .int a3)]) S.1 S.2.1 d_M_text_20 hl (by decide) rfl (fun ls hl => ?_)
      rw [show j_M_text V a1 a2 a3 = j_M_text_h22 (a3.toNatClampNeg + 1) (t_trap V 0) a1 a2 a3 0 from by rw [j_M_text, if_neg c7, if_pos c14]]
      exact w_M_text_h22 l D ad cI cZ hE S hr hlk hK (a3.toNatClampNeg + 1) 0 a1 a2 a3 0 (t_trap V 0) _ _ _ nI_0.symm (by decide) (by omega) hp hP hS (lv_sub hl [1, 2, 3, 4, 0] rfl)
    · have c14 : ¬ (a3 ≤ 512) := c14
      rw [if_neg c14] at hp
      refine lv_iconst (v := (-1)) S.1 S.2.1 d_M_text_17 (by decide) ?_
      rw [show j_M_text V a1 a2 a3 = ((-1), t_trap V 0) from by rw [j_M_text, if_neg c7, if_neg c14]]
      exact m_iret S hr hlk hP hS d_M_text_18
/-- PageVaultModel.put(II)Z -/
def j_M_put (V : MS) (a1 : Int32) (a2 : Int32) : Int32 × MS :=
  if a1 < 0 then
    (0, V)
  else
    if 511 < a1 then
      (0, V)
    else
      if a2 < 0 then
        (0, V)
      else
        if a2 ≤ 255 then
          (1, j_M_note V 6 (-1) a1 1 a2)
        else
          (0, V)
end MW
