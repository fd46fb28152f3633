section MW
variable (l : Launch) (D : va_G) (ad : Nat → Nat) (cI cZ : ClassId)
/-- PageVaultModel.walk(IIII)I -/
def j_M_walk (V : MS) (a1 : Int32) (a2 : Int32) (a3 : Int32) (a4 : Int32) : Int32 × MS :=
  j_M_walk_h8 (a3.toNatClampNeg + 1) (t_trap V 0) a1 a2 a3 a4 0
/-- what it needs -/
def p_M_walk (V : MS) (a1 : Int32) (a2 : Int32) (a3 : Int32) (a4 : Int32) : Prop :=
  p_M_walk_h8 (a3.toNatClampNeg + 1) (t_trap V 0) a1 a2 a3 a4 0
set_option maxHeartbeats 4000000 in
set_option maxRecDepth 100000 in
theorem c_M_walk (hE : mE ad) (V : MS) (a1 : Int32) (a2 : Int32) (a3 : Int32) (a4 : Int32) (hp : p_M_walk V a1 a2 a3 a4) : MC l D ad cI cZ y_M_walk b_M_walk 6 (some .int) ({ frames := 4, cells := 0, slots := 0, locals := 94 }) [.ref (ad 0), .int a1, .int a2, .int a3, .int a4] V (some (.int (j_M_walk V a1 a2 a3 a4).1)) ((j_M_walk V a1 a2 a3 a4).2) := by
  refine FC_intro (by decide) (Nat.le_of_ble_eq_true rfl) ?_
  intro p e s m below meth c ls S hr hlk hK hP hS hl
  have S : CallFix p m c b_M_walk 6 s _ TG "PageVaultModel" := S
  have hl : lv_has ls 6 [(0, .ref (ad 0)), (1, .int a1), (2, .int a2), (3, .int a3), (4, .int a4)] := hl
  rw [p_M_walk] at hp
  refine lv_aload_n S.1 S.2.1 d_M_walk_0 rfl (lv_at hl 0 rfl) ?_
  refine lv_iconst (v := 0) S.1 S.2.1 d_M_walk_1 (by decide) ?_
  refine m_put_trap S hE hK hP hS tg_111 d_M_walk_2 (fun H locs hP hS => ?_)
  refine lv_iconst (v := 0) S.1 S.2.1 d_M_walk_5 (by decide) ?_
  refine lv_istore (lv' := [(5, .int 0), (0, .ref (ad 0)), (1, .int a1), (2, .int a2), (3, .int a3), (4, .int a4)]) S.1 S.2.1 d_M_walk_6 hl (by decide) rfl (fun ls hl => ?_)
  rw [show j_M_walk V a1 a2 a3 a4 = j_M_walk_h8 (a3.toNatClampNeg + 1) (t_trap V 0) a1 a2 a3 a4 0 from by rw [j_M_walk]]
  exact w_M_walk_h8 l D ad cI cZ hE S hr hlk hK (a3.toNatClampNeg + 1) 0 a1 a2 a3 a4 0 (t_trap V 0) _ _ _ nI_0.symm (by decide) (by omega) hp hP hS (lv_sub hl [1, 2, 3, 4, 5, 0] rfl)
def j_M_number_h6 : Nat → MS → Int32 → Int32 → Int32 → Int32 → Int32 → Int32
  | 0, V, _, _, _, _, _ => 0
  | f + 1, V, a1, a2, a3, x4, x5 =>
      if a3 ≤ x5 then
        x4
      else
        j_M_number_h6 f V a1 a2 a3 (x4 ||| ((j_M_byteOf V a1 (a2 + x5)) <<< ((8 * x5) &&& 31))) (x5 + 1)
def p_M_number_h6 : Nat → MS → Int32 → Int32 → Int32 → Int32 → Int32 → Prop
  | 0, _, _, _, _, _, _ => True
  | f + 1, V, a1, a2, a3, x4, x5 =>
      if a3 ≤ x5 then
        True
      else
        (p_M_byteOf V a1 (a2 + x5)) ∧ (
          p_M_number_h6 f V a1 a2 a3 (x4 ||| ((j_M_byteOf V a1 (a2 + x5)) <<< ((8 * x5) &&& 31))) (x5 + 1))
set_option maxHeartbeats 4000000 in
set_option maxRecDepth 100000 in
theorem w_M_number_h6 (hE : mE ad) {p : Program} {e : Env} {s : State} {m : MethodId} {args : Array Value} {below : List Frame} {meth : Method} {c : Code} (S : CallFix p m c b_M_number 6 s args TG "PageVaultModel") (hr : meth.sig.returnType = some .int) (hlk : meth.locks = false) (hK : mK D cI cZ s) :
    ∀ (f i : Nat) (a1 a2 a3 x4 x5 : Int32) (V : MS) (H : Heap) (locs : List Loc) (ls : Array Slot), x5 = nI i → i < 2 ^ 31 → a3.toNatClampNeg - i < f → p_M_number_h6 f V a1 a2 a3 x4 x5 → MP D ad cI cZ (V) H → va_S (iA ad mN) s.heap H locs → lv_has ls 6 [(0, .ref (ad 0)), (1, .int a1), (2, .int a2), (3, .int a3), (4, .int x4), (5, .int x5)] → W p l e ({ frames := 1, cells := 0, slots := 0, locals := 28 }) s m args below meth c H locs 0 0 (MQ below (gPost D ad mN (some (.int (j_M_number_h6 f V a1 a2 a3 x4 x5))) (mc ad cI cZ (V))) args s 0 0 (iA ad mN)) (F0 m 6 ls []) := by
  intro f
  induction f with
  | zero =>
    intro i a1 a2 a3 x4 x5 V H locs ls ek hi hf hp hP hS hl
    exact absurd hf (Nat.not_lt_zero _)
  | succ f ih =>
    intro i a1 a2 a3 x4 x5 V H locs ls ek hi hf hp hP hS hl
    rw [p_M_number_h6] at hp
    refine lv_iload S.1 S.2.1 d_M_number_6 (lv_at hl 5 rfl) ?_
    refine lv_iload_n S.1 S.2.1 d_M_number_8 rfl (lv_at hl 3 rfl) ?_
    refine lv_icmp_ge (tgt := 38) S.1 S.2.1 d_M_number_9 (by decide) (fun c9 => ?_) (fun c9 => ?_)
    · have c9 : a3 ≤ x5 := c9
      rw [if_pos c9] at hp
      refine lv_iload S.1 S.2.1 d_M_number_38 (lv_at hl 4 rfl) ?_
      rw [show j_M_number_h6 (f + 1) V a1 a2 a3 x4 x5 = x4 from by rw [j_M_number_h6, if_pos c9]]
      exact m_iret S hr hlk hP hS d_M_number_40
    · have c9 : ¬ (a3 ≤ x5) := c9
      rw [if_neg c9] at hp
      refine lv_iload S.1 S.2.1 d_M_number_12 (lv_at hl 4 rfl) ?_
      refine lv_aload_n S.1 S.2.1 d_M_number_14 rfl (lv_at hl 0 rfl) ?_
      refine lv_iload_n S.1 S.2.1 d_M_number_15 rfl (lv_at hl 1 rfl) ?_
      refine lv_iload_n S.1 S.2.1 d_M_number_16 rfl (lv_at hl 2 rfl) ?_
      refine lv_iload S.1 S.2.1 d_M_number_17 (lv_at hl 5 rfl) ?_
      refine lv_iadd S.1 S.2.1 d_M_number_19 ?_
      obtain ⟨o1, hp⟩ := hp
      refine m_callVi (As := [.int a1, .int (a2 + x5)]) (rest := [.int x4]) S hK ci_M_112 (c_M_byteOf l D ad cI cZ hE V a1 (a2 + x5) o1) (m_recM hK hP) hP hS ⟨rfl, rfl, Nat.le_of_ble_eq_true rfl, Nat.le_of_ble_eq_true rfl⟩ rfl hl.1 rfl (Nat.le_of_ble_eq_true rfl) d_M_number_20 (fun H locs hP hS => ?_)
      refine lv_bipush (v := 8) S.1 S.2.1 d_M_number_23 (by decide) ?_
      refine lv_iload S.1 S.2.1 d_M_number_25 (lv_at hl 5 rfl) ?_
      refine lv_imul S.1 S.2.1 d_M_number_27 ?_
      refine lv_ishl S.1 S.2.1 d_M_number_28 ?_
      refine lv_ior S.1 S.2.1 d_M_number_29 ?_
      refine lv_istore (lv' := [(4, .int (x4 ||| ((j_M_byteOf V a1 (a2 + x5)) <<< ((8 * x5) &&& 31)))), (0, .ref (ad 0)), (1, .int a1), (2, .int a2), (3, .int a3), (5, .int x5)]) S.1 S.2.1 d_M_number_30 hl (by decide) rfl (fun ls hl => ?_)
      refine lv_iinc (v := x5 + 1) (lv' := [(5, .int (x5 + 1)), (4, .int (x4 ||| ((j_M_byteOf V a1 (a2 + x5)) <<< ((8 * x5) &&& 31)))), (0, .ref (ad 0)), (1, .int a1), (2, .int a2), (3, .int a3)]) S.1 S.2.1 d_M_number_32 hl (k := 5) rfl rfl (by decide) rfl (fun ls hl => ?_)
      refine lv_goto (tgt := 6) S.1 S.2.1 d_M_number_35 (by decide) ?_
      have hB := lp_lc ek hi c9
      have hC := clamp_lt a3
      rw [show j_M_number_h6 (f + 1) V a1 a2 a3 x4 x5 = j_M_number_h6 f V a1 a2 a3 (x4 ||| ((j_M_byteOf V a1 (a2 + x5)) <<< ((8 * x5) &&& 31))) (x5 + 1) from by rw [j_M_number_h6, if_neg c9]]
      exact ih (i + 1) a1 a2 a3 (x4 ||| ((j_M_byteOf V a1 (a2 + x5)) <<< ((8 * x5) &&& 31))) (x5 + 1) V _ _ _ (by rw [ek]; exact nI_1 i) (by omega) (by omega) hp hP hS (lv_sub hl [2, 3, 4, 5, 1, 0] rfl)
/-- PageVaultModel.number(III)I -/
def j_M_number (V : MS) (a1 : Int32) (a2 : Int32) (a3 : Int32) : Int32 :=
  j_M_number_h6 (a3.toNatClampNeg + 1) V a1 a2 a3 0 0
/-- what it needs -/
def p_M_number (V : MS) (a1 : Int32) (a2 : Int32) (a3 : Int32) : Prop :=
  p_M_number_h6 (a3.toNatClampNeg + 1) V a1 a2 a3 0 0
set_option maxHeartbeats 4000000 in
set_option maxRecDepth 100000 in
theorem c_M_number (hE : mE ad) (V : MS) (a1 : Int32) (a2 : Int32) (a3 : Int32) (hp : p_M_number V a1 a2 a3) : MC l D ad cI cZ y_M_number b_M_number 6 (some .int) ({ frames := 1, cells := 0, slots := 0, locals := 28 }) [.ref (ad 0), .int a1, .int a2, .int a3] V (some (.int (j_M_number V a1 a2 a3))) (V) := by
  refine FC_intro (by decide) (Nat.le_of_ble_eq_true rfl) ?_
  intro p e s m below meth c ls S hr hlk hK hP hS hl
  have S : CallFix p m c b_M_number 6 s _ TG "PageVaultModel" := S
  have hl : lv_has ls 6 [(0, .ref (ad 0)), (1, .int a1), (2, .int a2), (3, .int a3)] := hl
  rw [p_M_number] at hp
  refine lv_iconst (v := 0) S.1 S.2.1 d_M_number_0 (by decide) ?_
  refine lv_istore (lv' := [(4, .int 0), (0, .ref (ad 0)), (1, .int a1), (2, .int a2), (3, .int a3)]) S.1 S.2.1 d_M_number_1 hl (by decide) rfl (fun ls hl => ?_)
  refine lv_iconst (v := 0) S.1 S.2.1 d_M_number_3 (by decide) ?_
  refine lv_istore (lv' := [(5, .int 0), (4, .int 0), (0, .ref (ad 0)), (1, .int a1), (2, .int a2), (3, .int a3)]) S.1 S.2.1 d_M_number_4 hl (by decide) rfl (fun ls hl => ?_)
  rw [show j_M_number V a1 a2 a3 = j_M_number_h6 (a3.toNatClampNeg + 1) V a1 a2 a3 0 0 from by rw [j_M_number]]
  exact w_M_number_h6 l D ad cI cZ hE S hr hlk hK (a3.toNatClampNeg + 1) 0 a1 a2 a3 0 0 V _ _ _ nI_0.symm (by decide) (by omega) hp hP hS (lv_sub hl [2, 3, 4, 5, 1, 0] rfl)
/-- PageVaultModel.came(III)V -/
def j_M_came (V : MS) (a1 : Int32) (a2 : Int32) (a3 : Int32) : MS :=
  if a3 ≤ 0 then
    V
  else
    j_M_note V 5 a1 a2 a3 0
/-- what it needs -/
def p_M_came (V : MS) (a1 : Int32) (a2 : Int32) (a3 : Int32) : Prop :=
  if a3 ≤ 0 then
    True
  else
    (p_M_note V 5 a1 a2 a3 0) ∧ (
      True)
set_option maxHeartbeats 4000000 in
set_option maxRecDepth 100000 in
theorem c_M_came (hE : mE ad) (V : MS) (a1 : Int32) (a2 : Int32) (a3 : Int32) (hp : p_M_came V a1 a2 a3) : MC l D ad cI cZ y_M_came b_M_came 4 none ({ frames := 1, cells := 0, slots := 0, locals := 25 }) [.ref (ad 0), .int a1, .int a2, .int a3] V none (j_M_came V a1 a2 a3) := by
  refine FC_intro (by decide) (Nat.le_of_ble_eq_true rfl) ?_
  intro p e s m below meth c ls S hr hlk hK hP hS hl
  have S : CallFix p m c b_M_came 4 s _ TG "PageVaultModel" := S
  have hl : lv_has ls 4 [(0, .ref (ad 0)), (1, .int a1), (2, .int a2), (3, .int a3)] := hl
  rw [p_M_came] at hp
  refine lv_iload_n S.1 S.2.1 d_M_came_0 rfl (lv_at hl 3 rfl) ?_
  refine lv_if_le (tgt := 13) S.1 S.2.1 d_M_came_1 (by decide) (fun c1 => ?_) (fun c1 => ?_)
  · have c1 : a3 ≤ 0 := c1
    rw [if_pos c1] at hp
    rw [show j_M_came V a1 a2 a3 = V from by rw [j_M_came, if_pos c1]]
    exact m_vret S hr hlk hP hS d_M_came_13
  · have c1 : ¬ (a3 ≤ 0) := c1
    rw [if_neg c1] at hp
    refine lv_aload_n S.1 S.2.1 d_M_came_4 rfl (lv_at hl 0 rfl) ?_
    refine lv_iconst (v := 5) S.1 S.2.1 d_M_came_5 (by decide) ?_
    refine lv_iload_n S.1 S.2.1 d_M_came_6 rfl (lv_at hl 1 rfl) ?_
    refine lv_iload_n S.1 S.2.1 d_M_came_7 rfl (lv_at hl 2 rfl) ?_
    refine lv_iload_n S.1 S.2.1 d_M_came_8 rfl (lv_at hl 3 rfl) ?_
    refine lv_iconst (v := 0) S.1 S.2.1 d_M_came_9 (by decide) ?_
    obtain ⟨o1, hp⟩ := hp
    refine m_callVv (As := [.int 5, .int a1, .int a2, .int a3, .int 0]) (rest := []) S hK ci_M_82 (c_M_note l D ad cI cZ hE V 5 a1 a2 a3 0 o1) (m_recM hK hP) hP hS ⟨rfl, rfl, Nat.le_of_ble_eq_true rfl, Nat.le_of_ble_eq_true rfl⟩ rfl hl.1 rfl (Nat.le_of_ble_eq_true rfl) d_M_came_10 (fun H locs hP hS => ?_)
    rw [show j_M_came V a1 a2 a3 = j_M_note V 5 a1 a2 a3 0 from by rw [j_M_came, if_neg c1]]
    exact m_vret S hr hlk hP hS d_M_came_13
/-- PageVaultModel.make()I -/
def j_M_make (V : MS) : Int32 × MS :=
  if (j_M_unused V) = (-1) then
    ((-1), V)
  else
    if (j_M_freeFrames V) = 0 then
      ((-1), V)
    else
      (j_M_unused V, t_ends (t_alive V ((j_M_unused V).toNatClampNeg) 1) ((j_M_unused V).toNatClampNeg) 0)
/-- what it needs -/
def p_M_make (V : MS) : Prop :=
  if (j_M_unused V) = (-1) then
    True
  else
    (p_M_freeFrames V) ∧ (
      True)
set_option maxHeartbeats 4000000 in
set_option maxRecDepth 100000 in
theorem c_M_make (hE : mE ad) (V : MS)  (hp : p_M_make V) : MC l D ad cI cZ y_M_make b_M_make 2 (some .int) ({ frames := 2, cells := 0, slots := 0, locals := 44 }) [.ref (ad 0)] V (some (.int (j_M_make V).1)) ((j_M_make V).2) := by
  refine FC_intro (by decide) (Nat.le_of_ble_eq_true rfl) ?_
  intro p e s m below meth c ls S hr hlk hK hP hS hl
  have S : CallFix p m c b_M_make 2 s _ TG "PageVaultModel" := S
  have hl : lv_has ls 2 [(0, .ref (ad 0))] := hl
  rw [p_M_make] at hp
  refine lv_aload_n S.1 S.2.1 d_M_make_0 rfl (lv_at hl 0 rfl) ?_
  refine m_callVi (As := []) (rest := []) S hK ci_M_115 (c_M_unused l D ad cI cZ hE V) (m_recM hK hP) hP hS ⟨rfl, rfl, Nat.le_of_ble_eq_true rfl, Nat.le_of_ble_eq_true rfl⟩ rfl hl.1 rfl (Nat.le_of_ble_eq_true rfl) d_M_make_1 (fun H locs hP hS => ?_)
  refine lv_istore_n (lv' := [(1, .int (j_M_unused V)), (0, .ref (ad 0))]) S.1 S.2.1 d_M_make_4 rfl hl (by decide) rfl (fun ls hl => ?_)
  refine lv_iload_n S.1 S.2.1 d_M_make_5 rfl (lv_at hl 0 rfl) ?_
  refine lv_iconst (v := (-1)) S.1 S.2.1 d_M_make_6 (by decide) ?_
  refine lv_icmp_eq (tgt := 17) S.1 S.2.1 d_M_make_7 (by decide) (fun c7 => ?_) (fun c7 => ?_)
  · have c7 : (j_M_unused V) = (-1) := c7
    rw [if_pos c7] at hp
    refine lv_iconst (v := (-1)) S.1 S.2.1 d_M_make_17 (by decide) ?_
    rw [show j_M_make V = ((-1), V) from by rw [j_M_make, if_pos c7]]
    exact m_iret S hr hlk hP hS d_M_make_18
  · have c7 : ¬ ((j_M_unused V) = (-1)) := c7
    rw [if_neg c7] at hp
    refine lv_aload_n S.1 S.2.1 d_M_make_10 rfl (lv_at hl 1 rfl) ?_
    obtain ⟨o1, hp⟩ := hp
    refine m_callVi (As := []) (rest := []) S hK ci_M_67 (c_M_freeFrames l D ad cI cZ hE V o1) (m_recM hK hP) hP hS ⟨rfl, rfl, Nat.le_of_ble_eq_true rfl, Nat.le_of_ble_eq_true rfl⟩ rfl hl.1 rfl (Nat.le_of_ble_eq_true rfl) d_M_make_11 (fun H locs hP hS => ?_)
    refine lv_if_ne (tgt := 19) S.1 S.2.1 d_M_make_14 (by decide) (fun c14 => ?_) (fun c14 => ?_)
    · have c14 : ¬ ((j_M_freeFrames V) = 0) := c14
      refine lv_aload_n S.1 S.2.1 d_M_make_19 rfl (lv_at hl 1 rfl) ?_
      refine m_get_alive S hK hP tg_52 d_M_make_20 ?_
      refine lv_iload_n S.1 S.2.1 d_M_make_23 rfl (lv_at hl 0 rfl) ?_
      refine lv_iconst (v := 1) S.1 S.2.1 d_M_make_24 (by decide) ?_
      refine m_ast_alive S hE hK hP hS (by decide) (unused_in c7) d_M_make_25 (fun H locs hP hS => ?_)
      refine lv_aload_n S.1 S.2.1 d_M_make_26 rfl (lv_at hl 1 rfl) ?_
      refine m_get_ends S hK hP tg_53 d_M_make_27 ?_
      refine lv_iload_n S.1 S.2.1 d_M_make_30 rfl (lv_at hl 0 rfl) ?_
      refine lv_iconst (v := 0) S.1 S.2.1 d_M_make_31 (by decide) ?_
      refine m_ast_ends S hE hK hP hS (unused_in c7) d_M_make_32 (fun H locs hP hS => ?_)
      refine lv_iload_n S.1 S.2.1 d_M_make_33 rfl (lv_at hl 0 rfl) ?_
      rw [show j_M_make V = (j_M_unused V, t_ends (t_alive V ((j_M_unused V).toNatClampNeg) 1) ((j_M_unused V).toNatClampNeg) 0) from by rw [j_M_make, if_neg c7, if_neg c14]]
      exact m_iret S hr hlk hP hS d_M_make_34
    · have c14 : (j_M_freeFrames V) = 0 := c14
      refine lv_iconst (v := (-1)) S.1 S.2.1 d_M_make_17 (by decide) ?_
      rw [show j_M_make V = ((-1), V) from by rw [j_M_make, if_neg c7, if_pos c14]]
      exact m_iret S hr hlk hP hS d_M_make_18
/-- PageVaultModel.drop(I)Z -/
def j_M_drop (V : MS) (a1 : Int32) : Int32 × MS :=
  if (j_M_lives V a1) = 0 then
    (0, V)
  else
    (1, t_alive (j_M_removeRegions (j_M_removePages V a1 0) a1) a1.toNatClampNeg 0)
/-- what it needs -/
def p_M_drop (V : MS) (a1 : Int32) : Prop :=
  if (j_M_lives V a1) = 0 then
    True
  else
    (p_M_removePages V a1 0) ∧ (
      (p_M_removeRegions (j_M_removePages V a1 0) a1) ∧ (
        True))
set_option maxHeartbeats 4000000 in
set_option maxRecDepth 100000 in
theorem c_M_drop (hE : mE ad) (V : MS) (a1 : Int32) (hp : p_M_drop V a1) : MC l D ad cI cZ y_M_drop b_M_drop 2 (some .boolean) ({ frames := 1, cells := 0, slots := 0, locals := 24 }) [.ref (ad 0), .int a1] V (some (.int (j_M_drop V a1).1)) ((j_M_drop V a1).2) := by
  refine FC_intro (by decide) (Nat.le_of_ble_eq_true rfl) ?_
  intro p e s m below meth c ls S hr hlk hK hP hS hl
  have S : CallFix p m c b_M_drop 2 s _ TG "PageVaultModel" := S
  have hl : lv_has ls 2 [(0, .ref (ad 0)), (1, .int a1)] := hl
  rw [p_M_drop] at hp
  refine lv_aload_n S.1 S.2.1 d_M_drop_0 rfl (lv_at hl 0 rfl) ?_
  refine lv_iload_n S.1 S.2.1 d_M_drop_1 rfl (lv_at hl 1 rfl) ?_
  refine m_callVi (As := [.int a1]) (rest := []) S hK ci_M_105 (c_M_lives l D ad cI cZ hE V a1) (m_recM hK hP) hP hS ⟨rfl, rfl, Nat.le_of_ble_eq_true rfl, Nat.le_of_ble_eq_true rfl⟩ rfl hl.1 rfl (Nat.le_of_ble_eq_true rfl) d_M_drop_2 (fun H locs hP hS => ?_)
  refine lv_if_ne (tgt := 10) S.1 S.2.1 d_M_drop_5 (by decide) (fun c5 => ?_) (fun c5 => ?_)
  · have c5 : ¬ ((j_M_lives V a1) = 0) := c5
    rw [if_neg c5] at hp
    refine lv_aload_n S.1 S.2.1 d_M_drop_10 rfl (lv_at hl 0 rfl) ?_
    refine lv_iload_n S.1 S.2.1 d_M_drop_11 rfl (lv_at hl 1 rfl) ?_
    refine lv_iconst (v := 0) S.1 S.2.1 d_M_drop_12 (by decide) ?_
    obtain ⟨o1, hp⟩ := hp
    refine m_callVv (As := [.int a1, .int 0]) (rest := []) S hK ci_M_118 (c_M_removePages l D ad cI cZ hE V a1 0 o1) (m_recM hK hP) hP hS ⟨rfl, rfl, Nat.le_of_ble_eq_true rfl, Nat.le_of_ble_eq_true rfl⟩ rfl hl.1 rfl (Nat.le_of_ble_eq_true rfl) d_M_drop_13 (fun H locs hP hS => ?_)
    refine lv_aload_n S.1 S.2.1 d_M_drop_16 rfl (lv_at hl 0 rfl) ?_
    refine lv_iload_n S.1 S.2.1 d_M_drop_17 rfl (lv_at hl 1 rfl) ?_
    obtain ⟨o2, hp⟩ := hp
    refine m_callVv (As := [.int a1]) (rest := []) S hK ci_M_122 (c_M_removeRegions l D ad cI cZ hE (j_M_removePages V a1 0) a1 o2) (m_recM hK hP) hP hS ⟨rfl, rfl, Nat.le_of_ble_eq_true rfl, Nat.le_of_ble_eq_true rfl⟩ rfl hl.1 rfl (Nat.le_of_ble_eq_true rfl) d_M_drop_18 (fun H locs hP hS => ?_)
    refine lv_aload_n S.1 S.2.1 d_M_drop_21 rfl (lv_at hl 0 rfl) ?_
    refine m_get_alive S hK hP tg_52 d_M_drop_22 ?_
    refine lv_iload_n S.1 S.2.1 d_M_drop_25 rfl (lv_at hl 1 rfl) ?_
    refine lv_iconst (v := 0) S.1 S.2.1 d_M_drop_26 (by decide) ?_
    refine m_ast_alive S hE hK hP hS (by decide) (lives_in c5) d_M_drop_27 (fun H locs hP hS => ?_)
    refine lv_iconst (v := 1) S.1 S.2.1 d_M_drop_28 (by decide) ?_
    rw [show j_M_drop V a1 = (1, t_alive (j_M_removeRegions (j_M_removePages V a1 0) a1) a1.toNatClampNeg 0) from by rw [j_M_drop, if_neg c5]]
    exact m_zret (v := 1) S hr hlk rfl hP hS d_M_drop_29
  · have c5 : (j_M_lives V a1) = 0 := c5
    rw [if_pos c5] at hp
    refine lv_iconst (v := 0) S.1 S.2.1 d_M_drop_8 (by decide) ?_
    rw [show j_M_drop V a1 = (0, V) from by rw [j_M_drop, if_pos c5]]
    exact m_zret (v := 0) S hr hlk rfl hP hS d_M_drop_9
def j_M_fork_h63 : Nat → MS → Int32 → Int32 → Int32 → Int32 → Int32 × MS
  | 0, V, _, _, _, _ => (0, V)
  | f + 1, V, a1, x2, x3, x4 =>
      if x3 ≤ x4 then
        (x2, j_M_note V 1 x2 0 0 a1)
      else
        if (m_ps V x4.toNatClampNeg) = a1 then
          j_M_fork_h63 f (j_M_add V x2 (m_pn V x4.toNatClampNeg) (m_pf V x4.toNatClampNeg) (m_pk V x4.toNatClampNeg)) a1 x2 x3 (x4 + 1)
        else
          j_M_fork_h63 f V a1 x2 x3 (x4 + 1)
def p_M_fork_h63 : Nat → MS → Int32 → Int32 → Int32 → Int32 → Prop
  | 0, _, _, _, _, _ => True
  | f + 1, V, a1, x2, x3, x4 =>
      if x3 ≤ x4 then
        (p_M_note V 1 x2 0 0 a1) ∧ (
          True)
      else
        (vp_in x4 128) ∧ (
          if (m_ps V x4.toNatClampNeg) = a1 then
            (p_M_add V x2 (m_pn V x4.toNatClampNeg) (m_pf V x4.toNatClampNeg) (m_pk V x4.toNatClampNeg)) ∧ (
              p_M_fork_h63 f (j_M_add V x2 (m_pn V x4.toNatClampNeg) (m_pf V x4.toNatClampNeg) (m_pk V x4.toNatClampNeg)) a1 x2 x3 (x4 + 1))
          else
            p_M_fork_h63 f V a1 x2 x3 (x4 + 1))
set_option maxHeartbeats 4000000 in
set_option maxRecDepth 100000 in
theorem w_M_fork_h63 (hE : mE ad) {p : Program} {e : Env} {s : State} {m : MethodId} {args : Array Value} {below : List Frame} {meth : Method} {c : Code} (S : CallFix p m c b_M_fork 5 s args TG "PageVaultModel") (hr : meth.sig.returnType = some .int) (hlk : meth.locks = false) (hK : mK D cI cZ s) :
    ∀ (f i : Nat) (a1 x2 x3 x4 : Int32) (V : MS) (H : Heap) (locs : List Loc) (ls : Array Slot), x4 = nI i → i < 2 ^ 31 → x3.toNatClampNeg - i < f → p_M_fork_h63 f V a1 x2 x3 x4 → MP D ad cI cZ (V) H → va_S (iA ad mN) s.heap H locs → lv_has ls 5 [(0, .ref (ad 0)), (1, .int a1), (2, .int x2), (3, .int x3), (4, .int x4)] → W p l e ({ frames := 2, cells := 0, slots := 0, locals := 47 }) s m args below meth c H locs 0 0 (MQ below (gPost D ad mN (some (.int (j_M_fork_h63 f V a1 x2 x3 x4).1)) (mc ad cI cZ ((j_M_fork_h63 f V a1 x2 x3 x4).2))) args s 0 0 (iA ad mN)) (F0 m 63 ls []) := by
  intro f
  induction f with
  | zero =>
    intro i a1 x2 x3 x4 V H locs ls ek hi hf hp hP hS hl
    exact absurd hf (Nat.not_lt_zero _)
  | succ f ih =>
    intro i a1 x2 x3 x4 V H locs ls ek hi hf hp hP hS hl
    rw [p_M_fork_h63] at hp
    refine lv_iload S.1 S.2.1 d_M_fork_63 (lv_at hl 4 rfl) ?_
    refine lv_iload_n S.1 S.2.1 d_M_fork_65 rfl (lv_at hl 3 rfl) ?_
    refine lv_icmp_ge (tgt := 112) S.1 S.2.1 d_M_fork_66 (by decide) (fun c66 => ?_) (fun c66 => ?_)
    · have c66 : x3 ≤ x4 := c66
      rw [if_pos c66] at hp
      refine lv_aload_n S.1 S.2.1 d_M_fork_112 rfl (lv_at hl 0 rfl) ?_
      refine lv_iconst (v := 1) S.1 S.2.1 d_M_fork_113 (by decide) ?_
      refine lv_iload_n S.1 S.2.1 d_M_fork_114 rfl (lv_at hl 2 rfl) ?_
      refine lv_iconst (v := 0) S.1 S.2.1 d_M_fork_115 (by decide) ?_
      refine lv_iconst (v := 0) S.1 S.2.1 d_M_fork_116 (by decide) ?_
      refine lv_iload_n S.1 S.2.1 d_M_fork_117 rfl (lv_at hl 1 rfl) ?_
      obtain ⟨o1, hp⟩ := hp
      refine m_callVv (As := [.int 1, .int x2, .int 0, .int 0, .int a1]) (rest := []) S hK ci_M_82 (c_M_note l D ad cI cZ hE V 1 x2 0 0 a1 o1) (m_recM hK hP) hP hS ⟨rfl, rfl, Nat.le_of_ble_eq_true rfl, Nat.le_of_ble_eq_true rfl⟩ rfl hl.1 rfl (Nat.le_of_ble_eq_true rfl) d_M_fork_118 (fun H locs hP hS => ?_)
      refine lv_iload_n S.1 S.2.1 d_M_fork_121 rfl (lv_at hl 2 rfl) ?_
      rw [show j_M_fork_h63 (f + 1) V a1 x2 x3 x4 = (x2, j_M_note V 1 x2 0 0 a1) from by rw [j_M_fork_h63, if_pos c66]]
      exact m_iret S hr hlk hP hS d_M_fork_122
    · have c66 : ¬ (x3 ≤ x4) := c66
      rw [if_neg c66] at hp
      refine lv_aload_n S.1 S.2.1 d_M_fork_69 rfl (lv_at hl 0 rfl) ?_
      refine m_get_ps S hK hP tg_54 d_M_fork_70 ?_
      refine lv_iload S.1 S.2.1 d_M_fork_73 (lv_at hl 4 rfl) ?_
      obtain ⟨o2, hp⟩ := hp
      refine m_ald_ps S hK hP o2 d_M_fork_75 ?_
      refine lv_iload_n S.1 S.2.1 d_M_fork_76 rfl (lv_at hl 1 rfl) ?_
      refine lv_icmp_ne (tgt := 106) S.1 S.2.1 d_M_fork_77 (by decide) (fun c77 => ?_) (fun c77 => ?_)
      · have c77 : ¬ ((m_ps V x4.toNatClampNeg) = a1) := c77
        rw [if_neg c77] at hp
        refine lv_iinc (v := x4 + 1) (lv' := [(4, .int (x4 + 1)), (0, .ref (ad 0)), (1, .int a1), (2, .int x2), (3, .int x3)]) S.1 S.2.1 d_M_fork_106 hl (k := 4) rfl rfl (by decide) rfl (fun ls hl => ?_)
        refine lv_goto (tgt := 63) S.1 S.2.1 d_M_fork_109 (by decide) ?_
        have hB := lp_lc ek hi c66
        have hC := clamp_lt x3
        rw [show j_M_fork_h63 (f + 1) V a1 x2 x3 x4 = j_M_fork_h63 f V a1 x2 x3 (x4 + 1) from by rw [j_M_fork_h63, if_neg c66, if_neg c77]]
        exact ih (i + 1) a1 x2 x3 (x4 + 1) V _ _ _ (by rw [ek]; exact nI_1 i) (by omega) (by omega) hp hP hS (lv_sub hl [1, 2, 3, 4, 0] rfl)
      · have c77 : (m_ps V x4.toNatClampNeg) = a1 := c77
        rw [if_pos c77] at hp
        refine lv_aload_n S.1 S.2.1 d_M_fork_80 rfl (lv_at hl 0 rfl) ?_
        refine lv_iload_n S.1 S.2.1 d_M_fork_81 rfl (lv_at hl 2 rfl) ?_
        refine lv_aload_n S.1 S.2.1 d_M_fork_82 rfl (lv_at hl 0 rfl) ?_
        refine m_get_pn S hK hP tg_55 d_M_fork_83 ?_
        refine lv_iload S.1 S.2.1 d_M_fork_86 (lv_at hl 4 rfl) ?_
        refine m_ald_pn S hK hP o2 d_M_fork_88 ?_
        refine lv_aload_n S.1 S.2.1 d_M_fork_89 rfl (lv_at hl 0 rfl) ?_
        refine m_get_pf S hK hP tg_56 d_M_fork_90 ?_
        refine lv_iload S.1 S.2.1 d_M_fork_93 (lv_at hl 4 rfl) ?_
        refine m_ald_pf S hK hP o2 d_M_fork_95 ?_
        refine lv_aload_n S.1 S.2.1 d_M_fork_96 rfl (lv_at hl 0 rfl) ?_
        refine m_get_pk S hK hP tg_57 d_M_fork_97 ?_
        refine lv_iload S.1 S.2.1 d_M_fork_100 (lv_at hl 4 rfl) ?_
        refine m_ald_pk S hK hP o2 d_M_fork_102 ?_
        obtain ⟨o3, hp⟩ := hp
        refine m_callVv (As := [.int x2, .int (m_pn V x4.toNatClampNeg), .int (m_pf V x4.toNatClampNeg), .int (m_pk V x4.toNatClampNeg)]) (rest := []) S hK ci_M_78 (c_M_add l D ad cI cZ hE V x2 (m_pn V x4.toNatClampNeg) (m_pf V x4.toNatClampNeg) (m_pk V x4.toNatClampNeg) o3) (m_recM hK hP) hP hS ⟨rfl, rfl, Nat.le_of_ble_eq_true rfl, Nat.le_of_ble_eq_true rfl⟩ rfl hl.1 rfl (Nat.le_of_ble_eq_true rfl) d_M_fork_103 (fun H locs hP hS => ?_)
        refine lv_iinc (v := x4 + 1) (lv' := [(4, .int (x4 + 1)), (0, .ref (ad 0)), (1, .int a1), (2, .int x2), (3, .int x3)]) S.1 S.2.1 d_M_fork_106 hl (k := 4) rfl rfl (by decide) rfl (fun ls hl => ?_)
        refine lv_goto (tgt := 63) S.1 S.2.1 d_M_fork_109 (by decide) ?_
        have hB := lp_lc ek hi c66
        have hC := clamp_lt x3
        rw [show j_M_fork_h63 (f + 1) V a1 x2 x3 x4 = j_M_fork_h63 f (j_M_add V x2 (m_pn V x4.toNatClampNeg) (m_pf V x4.toNatClampNeg) (m_pk V x4.toNatClampNeg)) a1 x2 x3 (x4 + 1) from by rw [j_M_fork_h63, if_neg c66, if_pos c77]]
        exact ih (i + 1) a1 x2 x3 (x4 + 1) (j_M_add V x2 (m_pn V x4.toNatClampNeg) (m_pf V x4.toNatClampNeg) (m_pk V x4.toNatClampNeg)) _ _ _ (by rw [ek]; exact nI_1 i) (by omega) (by omega) hp hP hS (lv_sub hl [1, 2, 3, 4, 0] rfl)
/-- PageVaultModel.fork(I)I -/
def j_M_fork (V : MS) (a1 : Int32) : Int32 × MS :=
  if (j_M_lives V a1) = 0 then
    ((-1), V)
  else
    if (j_M_unused V) = (-1) then
      ((-1), V)
    else
      if (1 + (j_M_peopled V a1)) ≤ (j_M_freeFrames V) then
        j_M_fork_h63 ((m_pages V).toNatClampNeg + 1) (t_ends (t_alive V ((j_M_unused V).toNatClampNeg) 1) ((j_M_unused V).toNatClampNeg) (m_ends V a1.toNatClampNeg)) a1 (j_M_unused V) (m_pages V) 0
      else
        ((-1), V)
/-- what it needs -/
def p_M_fork (V : MS) (a1 : Int32) : Prop :=
  if (j_M_lives V a1) = 0 then
    True
  else
    if (j_M_unused V) = (-1) then
      True
    else
      (p_M_freeFrames V) ∧ (
        (p_M_peopled V a1) ∧ (
          if (1 + (j_M_peopled V a1)) ≤ (j_M_freeFrames V) then
            p_M_fork_h63 ((m_pages V).toNatClampNeg + 1) (t_ends (t_alive V ((j_M_unused V).toNatClampNeg) 1) ((j_M_unused V).toNatClampNeg) (m_ends V a1.toNatClampNeg)) a1 (j_M_unused V) (m_pages V) 0
          else
            True))
set_option maxHeartbeats 4000000 in
set_option maxRecDepth 100000 in
theorem c_M_fork (hE : mE ad) (V : MS) (a1 : Int32) (hp : p_M_fork V a1) : MC l D ad cI cZ y_M_fork b_M_fork 5 (some .int) ({ frames := 2, cells := 0, slots := 0, locals := 47 }) [.ref (ad 0), .int a1] V (some (.int (j_M_fork V a1).1)) ((j_M_fork V a1).2) := by
  refine FC_intro (by decide) (Nat.le_of_ble_eq_true rfl) ?_
  intro p e s m below meth c ls S hr hlk hK hP hS hl
  have S : CallFix p m c b_M_fork 5 s _ TG "PageVaultModel" := S
  have hl : lv_has ls 5 [(0, .ref (ad 0)), (1, .int a1)] := hl
  rw [p_M_fork] at hp
  refine lv_aload_n S.1 S.2.1 d_M_fork_0 rfl (lv_at hl 0 rfl) ?_
  refine lv_iload_n S.1 S.2.1 d_M_fork_1 rfl (lv_at hl 1 rfl) ?_
  refine m_callVi (As := [.int a1]) (rest := []) S hK ci_M_105 (c_M_lives l D ad cI cZ hE V a1) (m_recM hK hP) hP hS ⟨rfl, rfl, Nat.le_of_ble_eq_true rfl, Nat.le_of_ble_eq_true rfl⟩ rfl hl.1 rfl (Nat.le_of_ble_eq_true rfl) d_M_fork_2 (fun H locs hP hS => ?_)
  refine lv_if_ne (tgt := 10) S.1 S.2.1 d_M_fork_5 (by decide) (fun c5 => ?_) (fun c5 => ?_)
  · have c5 : ¬ ((j_M_lives V a1) = 0) := c5
    rw [if_neg c5] at hp
    refine lv_aload_n S.1 S.2.1 d_M_fork_10 rfl (lv_at hl 0 rfl) ?_
    refine m_callVi (As := []) (rest := []) S hK ci_M_115 (c_M_unused l D ad cI cZ hE V) (m_recM hK hP) hP hS ⟨rfl, rfl, Nat.le_of_ble_eq_true rfl, Nat.le_of_ble_eq_true rfl⟩ rfl hl.1 rfl (Nat.le_of_ble_eq_true rfl) d_M_fork_11 (fun H locs hP hS => ?_)
    refine lv_istore_n (lv' := [(2, .int (j_M_unused V)), (0, .ref (ad 0)), (1, .int a1)]) S.1 S.2.1 d_M_fork_14 rfl hl (by decide) rfl (fun ls hl => ?_)
    refine lv_iload_n S.1 S.2.1 d_M_fork_15 rfl (lv_at hl 0 rfl) ?_
    refine lv_iconst (v := (-1)) S.1 S.2.1 d_M_fork_16 (by decide) ?_
    refine lv_icmp_eq (tgt := 34) S.1 S.2.1 d_M_fork_17 (by decide) (fun c17 => ?_) (fun c17 => ?_)
    · have c17 : (j_M_unused V) = (-1) := c17
      rw [if_pos c17] at hp
      refine lv_iconst (v := (-1)) S.1 S.2.1 d_M_fork_34 (by decide) ?_
      rw [show j_M_fork V a1 = ((-1), V) from by rw [j_M_fork, if_neg c5, if_pos c17]]
      exact m_iret S hr hlk hP hS d_M_fork_35
    · have c17 : ¬ ((j_M_unused V) = (-1)) := c17
      rw [if_neg c17] at hp
      refine lv_aload_n S.1 S.2.1 d_M_fork_20 rfl (lv_at hl 1 rfl) ?_
      obtain ⟨o1, hp⟩ := hp
      refine m_callVi (As := []) (rest := []) S hK ci_M_67 (c_M_freeFrames l D ad cI cZ hE V o1) (m_recM hK hP) hP hS ⟨rfl, rfl, Nat.le_of_ble_eq_true rfl, Nat.le_of_ble_eq_true rfl⟩ rfl hl.1 rfl (Nat.le_of_ble_eq_true rfl) d_M_fork_21 (fun H locs hP hS => ?_)
      refine lv_iconst (v := 1) S.1 S.2.1 d_M_fork_24 (by decide) ?_
      refine lv_aload_n S.1 S.2.1 d_M_fork_25 rfl (lv_at hl 1 rfl) ?_
      refine lv_iload_n S.1 S.2.1 d_M_fork_26 rfl (lv_at hl 2 rfl) ?_
      obtain ⟨o2, hp⟩ := hp
      refine m_callVi (As := [.int a1]) (rest := [.int 1, .int (j_M_freeFrames V)]) S hK ci_M_126 (c_M_peopled l D ad cI cZ hE V a1 o2) (m_recM hK hP) hP hS ⟨rfl, rfl, Nat.le_of_ble_eq_true rfl, Nat.le_of_ble_eq_true rfl⟩ rfl hl.1 rfl (Nat.le_of_ble_eq_true rfl) d_M_fork_27 (fun H locs hP hS => ?_)
      refine lv_iadd S.1 S.2.1 d_M_fork_30 ?_
      refine lv_icmp_ge (tgt := 36) S.1 S.2.1 d_M_fork_31 (by decide) (fun c31 => ?_) (fun c31 => ?_)
      · have c31 : (1 + (j_M_peopled V a1)) ≤ (j_M_freeFrames V) := c31
        rw [if_pos c31] at hp
        refine lv_aload_n S.1 S.2.1 d_M_fork_36 rfl (lv_at hl 1 rfl) ?_
        refine m_get_alive S hK hP tg_52 d_M_fork_37 ?_
        refine lv_iload_n S.1 S.2.1 d_M_fork_40 rfl (lv_at hl 0 rfl) ?_
        refine lv_iconst (v := 1) S.1 S.2.1 d_M_fork_41 (by decide) ?_
        refine m_ast_alive S hE hK hP hS (by decide) (unused_in c17) d_M_fork_42 (fun H locs hP hS => ?_)
        refine lv_aload_n S.1 S.2.1 d_M_fork_43 rfl (lv_at hl 1 rfl) ?_
        refine m_get_ends S hK hP tg_53 d_M_fork_44 ?_
        refine lv_iload_n S.1 S.2.1 d_M_fork_47 rfl (lv_at hl 0 rfl) ?_
        refine lv_aload_n S.1 S.2.1 d_M_fork_48 rfl (lv_at hl 1 rfl) ?_
        refine m_get_ends S hK hP tg_53 d_M_fork_49 ?_
        refine lv_iload_n S.1 S.2.1 d_M_fork_52 rfl (lv_at hl 2 rfl) ?_
        refine m_ald_ends S hK hP (lives_in c5) d_M_fork_53 ?_
        refine m_ast_ends S hE hK hP hS (unused_in c17) d_M_fork_54 (fun H locs hP hS => ?_)
        refine lv_aload_n S.1 S.2.1 d_M_fork_55 rfl (lv_at hl 1 rfl) ?_
        refine m_get_pages S hK hP tg_67 d_M_fork_56 ?_
        refine lv_istore_n (lv' := [(3, .int (m_pages V)), (2, .int (j_M_unused V)), (0, .ref (ad 0)), (1, .int a1)]) S.1 S.2.1 d_M_fork_59 rfl hl (by decide) rfl (fun ls hl => ?_)
        refine lv_iconst (v := 0) S.1 S.2.1 d_M_fork_60 (by decide) ?_
        refine lv_istore (lv' := [(4, .int 0), (3, .int (m_pages V)), (2, .int (j_M_unused V)), (0, .ref (ad 0)), (1, .int a1)]) S.1 S.2.1 d_M_fork_61 hl (by decide) rfl (fun ls hl => ?_)
        rw [show j_M_fork V a1 = j_M_fork_h63 ((m_pages V).toNatClampNeg + 1) (t_ends (t_alive V ((j_M_unused V).toNatClampNeg) 1) ((j_M_unused V).toNatClampNeg) (m_ends V a1.toNatClampNeg)) a1 (j_M_unused V) (m_pages V) 0 from by rw [j_M_fork, if_neg c5, if_neg c17, if_pos c31]]
        exact w_M_fork_h63 l D ad cI cZ hE S hr hlk hK ((m_pages V).toNatClampNeg + 1) 0 a1 (j_M_unused V) (m_pages V) 0 (t_ends (t_alive V ((j_M_unused V).toNatClampNeg) 1) ((j_M_unused V).toNatClampNeg) (m_ends V a1.toNatClampNeg)) _ _ _ nI_0.symm (by decide) (by omega) hp hP hS (lv_sub hl [3, 4, 2, 1, 0] rfl)
      · have c31 : ¬ ((1 + (j_M_peopled V a1)) ≤ (j_M_freeFrames V)) := c31
        rw [if_neg c31] at hp
        refine lv_iconst (v := (-1)) S.1 S.2.1 d_M_fork_34 (by decide) ?_
        rw [show j_M_fork V a1 = ((-1), V) from by rw [j_M_fork, if_neg c5, if_neg c17, if_neg c31]]
        exact m_iret S hr hlk hP hS d_M_fork_35
  · have c5 : (j_M_lives V a1) = 0 := c5
    rw [if_pos c5] at hp
    refine lv_iconst (v := (-1)) S.1 S.2.1 d_M_fork_8 (by decide) ?_
    rw [show j_M_fork V a1 = ((-1), V) from by rw [j_M_fork, if_pos c5]]
    exact m_iret S hr hlk hP hS d_M_fork_9
/-- PageVaultModel.map(III)I -/
def j_M_map (V : MS) (a1 : Int32) (a2 : Int32) (a3 : Int32) : Int32 × MS :=
  if (j_M_lives V a1) = 0 then
    ((-1), V)
  else
    if a2 < 0 then
      ((-1), V)
    else
      if 1073741824 ≤ a2 then
        ((-1), V)
      else
        if (a2 - a2 / 4096 * 4096) = 0 then
          if (j_M_row V a1 a2) = (-1) then
            if a3 < 0 then
              ((-1), V)
            else
              if a3 ≤ 15 then
                if (j_M_room V a1 (a2 / 4096)) = 0 then
                  ((-2), V)
                else
                  if (a2 + 4096) ≤ (m_ends (j_M_addEmpty V a1 (a2 / 4096) a3) a1.toNatClampNeg) then
                    (0, j_M_addEmpty V a1 (a2 / 4096) a3)
                  else
                    (0, t_ends (j_M_addEmpty V a1 (a2 / 4096) a3) a1.toNatClampNeg (a2 + 4096))
              else
                ((-1), V)
          else
            ((-1), V)
        else
          ((-1), V)
/-- what it needs -/
def p_M_map (V : MS) (a1 : Int32) (a2 : Int32) (a3 : Int32) : Prop :=
  if (j_M_lives V a1) = 0 then
    True
  else
    if a2 < 0 then
      True
    else
      if 1073741824 ≤ a2 then
        True
      else
        if (a2 - a2 / 4096 * 4096) = 0 then
          (p_M_row V a1 a2) ∧ (
            if (j_M_row V a1 a2) = (-1) then
              if a3 < 0 then
                True
              else
                if a3 ≤ 15 then
                  (p_M_room V a1 (a2 / 4096)) ∧ (
                    if (j_M_room V a1 (a2 / 4096)) = 0 then
                      True
                    else
                      (p_M_addEmpty V a1 (a2 / 4096) a3) ∧ (
                        True))
                else
                  True
            else
              True)
        else
          True
set_option maxHeartbeats 4000000 in
set_option maxRecDepth 100000 in
theorem c_M_map (hE : mE ad) (V : MS) (a1 : Int32) (a2 : Int32) (a3 : Int32) (hp : p_M_map V a1 a2 a3) : MC l D ad cI cZ y_M_map b_M_map 4 (some .int) ({ frames := 3, cells := 0, slots := 0, locals := 70 }) [.ref (ad 0), .int a1, .int a2, .int a3] V (some (.int (j_M_map V a1 a2 a3).1)) ((j_M_map V a1 a2 a3).2) := by
  refine FC_intro (by decide) (Nat.le_of_ble_eq_true rfl) ?_
  intro p e s m below meth c ls S hr hlk hK hP hS hl
  have S : CallFix p m c b_M_map 4 s _ TG "PageVaultModel" := S
  have hl : lv_has ls 4 [(0, .ref (ad 0)), (1, .int a1), (2, .int a2), (3, .int a3)] := hl
  rw [p_M_map] at hp
  refine lv_aload_n S.1 S.2.1 d_M_map_0 rfl (lv_at hl 0 rfl) ?_
  refine lv_iload_n S.1 S.2.1 d_M_map_1 rfl (lv_at hl 1 rfl) ?_
  refine m_callVi (As := [.int a1]) (rest := []) S hK ci_M_105 (c_M_lives l D ad cI cZ hE V a1) (m_recM hK hP) hP hS ⟨rfl, rfl, Nat.le_of_ble_eq_true rfl, Nat.le_of_ble_eq_true rfl⟩ rfl hl.1 rfl (Nat.le_of_ble_eq_true rfl) d_M_map_2 (fun H locs hP hS => ?_)
  refine lv_if_eq (tgt := 26) S.1 S.2.1 d_M_map_5 (by decide) (fun c5 => ?_) (fun c5 => ?_)
  · have c5 : (j_M_lives V a1) = 0 := c5
    rw [if_pos c5] at hp
    refine lv_iconst (v := (-1)) S.1 S.2.1 d_M_map_26 (by decide) ?_
    rw [show j_M_map V a1 a2 a3 = ((-1), V) from by rw [j_M_map, if_pos c5]]
    exact m_iret S hr hlk hP hS d_M_map_27
  · have c5 : ¬ ((j_M_lives V a1) = 0) := c5
    rw [if_neg c5] at hp
    refine lv_iload_n S.1 S.2.1 d_M_map_8 rfl (lv_at hl 2 rfl) ?_
    refine lv_if_lt (tgt := 26) S.1 S.2.1 d_M_map_9 (by decide) (fun c9 => ?_) (fun c9 => ?_)
    · have c9 : a2 < 0 := c9
      rw [if_pos c9] at hp
      refine lv_iconst (v := (-1)) S.1 S.2.1 d_M_map_26 (by decide) ?_
      rw [show j_M_map V a1 a2 a3 = ((-1), V) from by rw [j_M_map, if_neg c5, if_pos c9]]
      exact m_iret S hr hlk hP hS d_M_map_27
    · have c9 : ¬ (a2 < 0) := c9
      rw [if_neg c9] at hp
      refine lv_iload_n S.1 S.2.1 d_M_map_12 rfl (lv_at hl 2 rfl) ?_
      refine lv_ldc (v := 1073741824) S.1 S.2.1 S.2.2.2.1 (S.2.2.2.2 _ tg_90) d_M_map_13 ?_
      refine lv_icmp_ge (tgt := 26) S.1 S.2.1 d_M_map_15 (by decide) (fun c15 => ?_) (fun c15 => ?_)
      · have c15 : 1073741824 ≤ a2 := c15
        rw [if_pos c15] at hp
        refine lv_iconst (v := (-1)) S.1 S.2.1 d_M_map_26 (by decide) ?_
        rw [show j_M_map V a1 a2 a3 = ((-1), V) from by rw [j_M_map, if_neg c5, if_neg c9, if_pos c15]]
        exact m_iret S hr hlk hP hS d_M_map_27
      · have c15 : ¬ (1073741824 ≤ a2) := c15
        rw [if_neg c15] at hp
        refine lv_iload_n S.1 S.2.1 d_M_map_18 rfl (lv_at hl 2 rfl) ?_
        refine lv_sipush (v := 4096) S.1 S.2.1 d_M_map_19 (by decide) ?_
        refine lv_irem S.1 S.2.1 d_M_map_22 (by decide) ?_
        refine lv_if_eq (tgt := 28) S.1 S.2.1 d_M_map_23 (by decide) (fun c23 => ?_) (fun c23 => ?_)
        · have c23 : (a2 - a2 / 4096 * 4096) = 0 := c23
          rw [if_pos c23] at hp
          refine lv_aload_n S.1 S.2.1 d_M_map_28 rfl (lv_at hl 0 rfl) ?_
          refine lv_iload_n S.1 S.2.1 d_M_map_29 rfl (lv_at hl 1 rfl) ?_
          refine lv_iload_n S.1 S.2.1 d_M_map_30 rfl (lv_at hl 2 rfl) ?_
          obtain ⟨o1, hp⟩ := hp
          refine m_callVi (As := [.int a1, .int a2]) (rest := []) S hK ci_M_87 (c_M_row l D ad cI cZ hE V a1 a2 o1) (m_recM hK hP) hP hS ⟨rfl, rfl, Nat.le_of_ble_eq_true rfl, Nat.le_of_ble_eq_true rfl⟩ rfl hl.1 rfl (Nat.le_of_ble_eq_true rfl) d_M_map_31 (fun H locs hP hS => ?_)
          refine lv_iconst (v := (-1)) S.1 S.2.1 d_M_map_34 (by decide) ?_
          refine lv_icmp_ne (tgt := 48) S.1 S.2.1 d_M_map_35 (by decide) (fun c35 => ?_) (fun c35 => ?_)
          · have c35 : ¬ ((j_M_row V a1 a2) = (-1)) := c35
            rw [if_neg c35] at hp
            refine lv_iconst (v := (-1)) S.1 S.2.1 d_M_map_48 (by decide) ?_
            rw [show j_M_map V a1 a2 a3 = ((-1), V) from by rw [j_M_map, if_neg c5, if_neg c9, if_neg c15, if_pos c23, if_neg c35]]
            exact m_iret S hr hlk hP hS d_M_map_49
          · have c35 : (j_M_row V a1 a2) = (-1) := c35
            rw [if_pos c35] at hp
            refine lv_iload_n S.1 S.2.1 d_M_map_38 rfl (lv_at hl 3 rfl) ?_
            refine lv_if_lt (tgt := 48) S.1 S.2.1 d_M_map_39 (by decide) (fun c39 => ?_) (fun c39 => ?_)
            · have c39 : a3 < 0 := c39
              rw [if_pos c39] at hp
              refine lv_iconst (v := (-1)) S.1 S.2.1 d_M_map_48 (by decide) ?_
              rw [show j_M_map V a1 a2 a3 = ((-1), V) from by rw [j_M_map, if_neg c5, if_neg c9, if_neg c15, if_pos c23, if_pos c35, if_pos c39]]
              exact m_iret S hr hlk hP hS d_M_map_49
            · have c39 : ¬ (a3 < 0) := c39
              rw [if_neg c39] at hp
              refine lv_iload_n S.1 S.2.1 d_M_map_42 rfl (lv_at hl 3 rfl) ?_
              refine lv_bipush (v := 15) S.1 S.2.1 d_M_map_43 (by decide) ?_
              refine lv_icmp_le (tgt := 50) S.1 S.2.1 d_M_map_45 (by decide) (fun c45 => ?_) (fun c45 => ?_)
              · have c45 : a3 ≤ 15 := c45
                rw [if_pos c45] at hp
                refine lv_aload_n S.1 S.2.1 d_M_map_50 rfl (lv_at hl 0 rfl) ?_
                refine lv_iload_n S.1 S.2.1 d_M_map_51 rfl (lv_at hl 1 rfl) ?_
                refine lv_iload_n S.1 S.2.1 d_M_map_52 rfl (lv_at hl 2 rfl) ?_
                refine lv_sipush (v := 4096) S.1 S.2.1 d_M_map_53 (by decide) ?_
                refine lv_idiv S.1 S.2.1 d_M_map_56 (by decide) ?_
                obtain ⟨o2, hp⟩ := hp
                refine m_callVi (As := [.int a1, .int (a2 / 4096)]) (rest := []) S hK ci_M_91 (c_M_room l D ad cI cZ hE V a1 (a2 / 4096) o2) (m_recM hK hP) hP hS ⟨rfl, rfl, Nat.le_of_ble_eq_true rfl, Nat.le_of_ble_eq_true rfl⟩ rfl hl.1 rfl (Nat.le_of_ble_eq_true rfl) d_M_map_57 (fun H locs hP hS => ?_)
                refine lv_if_ne (tgt := 66) S.1 S.2.1 d_M_map_60 (by decide) (fun c60 => ?_) (fun c60 => ?_)
                · have c60 : ¬ ((j_M_room V a1 (a2 / 4096)) = 0) := c60
                  rw [if_neg c60] at hp
                  refine lv_aload_n S.1 S.2.1 d_M_map_66 rfl (lv_at hl 0 rfl) ?_
                  refine lv_iload_n S.1 S.2.1 d_M_map_67 rfl (lv_at hl 1 rfl) ?_
                  refine lv_iload_n S.1 S.2.1 d_M_map_68 rfl (lv_at hl 2 rfl) ?_
                  refine lv_sipush (v := 4096) S.1 S.2.1 d_M_map_69 (by decide) ?_
                  refine lv_idiv S.1 S.2.1 d_M_map_72 (by decide) ?_
                  refine lv_iload_n S.1 S.2.1 d_M_map_73 rfl (lv_at hl 3 rfl) ?_
                  obtain ⟨o3, hp⟩ := hp
                  refine m_callVv (As := [.int a1, .int (a2 / 4096), .int a3]) (rest := []) S hK ci_M_94 (c_M_addEmpty l D ad cI cZ hE V a1 (a2 / 4096) a3 o3) (m_recM hK hP) hP hS ⟨rfl, rfl, Nat.le_of_ble_eq_true rfl, Nat.le_of_ble_eq_true rfl⟩ rfl hl.1 rfl (Nat.le_of_ble_eq_true rfl) d_M_map_74 (fun H locs hP hS => ?_)
                  refine lv_aload_n S.1 S.2.1 d_M_map_77 rfl (lv_at hl 0 rfl) ?_
                  refine m_get_ends S hK hP tg_53 d_M_map_78 ?_
                  refine lv_iload_n S.1 S.2.1 d_M_map_81 rfl (lv_at hl 1 rfl) ?_
                  refine m_ald_ends S hK hP (lives_in c5) d_M_map_82 ?_
                  refine lv_iload_n S.1 S.2.1 d_M_map_83 rfl (lv_at hl 2 rfl) ?_
                  refine lv_sipush (v := 4096) S.1 S.2.1 d_M_map_84 (by decide) ?_
                  refine lv_iadd S.1 S.2.1 d_M_map_87 ?_
                  refine lv_icmp_ge (tgt := 102) S.1 S.2.1 d_M_map_88 (by decide) (fun c88 => ?_) (fun c88 => ?_)
                  · have c88 : (a2 + 4096) ≤ (m_ends (j_M_addEmpty V a1 (a2 / 4096) a3) a1.toNatClampNeg) := c88
                    refine lv_iconst (v := 0) S.1 S.2.1 d_M_map_102 (by decide) ?_
                    rw [show j_M_map V a1 a2 a3 = (0, j_M_addEmpty V a1 (a2 / 4096) a3) from by rw [j_M_map, if_neg c5, if_neg c9, if_neg c15, if_pos c23, if_pos c35, if_neg c39, if_pos c45, if_neg c60, if_pos c88]]
                    exact m_iret S hr hlk hP hS d_M_map_103
                  · have c88 : ¬ ((a2 + 4096) ≤ (m_ends (j_M_addEmpty V a1 (a2 / 4096) a3) a1.toNatClampNeg)) := c88
                    refine lv_aload_n S.1 S.2.1 d_M_map_91 rfl (lv_at hl 0 rfl) ?_
                    refine m_get_ends S hK hP tg_53 d_M_map_92 ?_
                    refine lv_iload_n S.1 S.2.1 d_M_map_95 rfl (lv_at hl 1 rfl) ?_
                    refine lv_iload_n S.1 S.2.1 d_M_map_96 rfl (lv_at hl 2 rfl) ?_
                    refine lv_sipush (v := 4096) S.1 S.2.1 d_M_map_97 (by decide) ?_
                    refine lv_iadd S.1 S.2.1 d_M_map_100 ?_
                    refine m_ast_ends S hE hK hP hS (lives_in c5) d_M_map_101 (fun H locs hP hS => ?_)
                    refine lv_iconst (v := 0) S.1 S.2.1 d_M_map_102 (by decide) ?_
                    rw [show j_M_map V a1 a2 a3 = (0, t_ends (j_M_addEmpty V a1 (a2 / 4096) a3) a1.toNatClampNeg (a2 + 4096)) from by rw [j_M_map, if_neg c5, if_neg c9, if_neg c15, if_pos c23, if_pos c35, if_neg c39, if_pos c45, if_neg c60, if_neg c88]]
                    exact m_iret S hr hlk hP hS d_M_map_103
                · have c60 : (j_M_room V a1 (a2 / 4096)) = 0 := c60
                  rw [if_pos c60] at hp
                  refine lv_bipush (v := (-2)) S.1 S.2.1 d_M_map_63 (by decide) ?_
                  rw [show j_M_map V a1 a2 a3 = ((-2), V) from by rw [j_M_map, if_neg c5, if_neg c9, if_neg c15, if_pos c23, if_pos c35, if_neg c39, if_pos c45, if_pos c60]]
                  exact m_iret S hr hlk hP hS d_M_map_65
              · have c45 : ¬ (a3 ≤ 15) := c45
                rw [if_neg c45] at hp
                refine lv_iconst (v := (-1)) S.1 S.2.1 d_M_map_48 (by decide) ?_
                rw [show j_M_map V a1 a2 a3 = ((-1), V) from by rw [j_M_map, if_neg c5, if_neg c9, if_neg c15, if_pos c23, if_pos c35, if_neg c39, if_neg c45]]
                exact m_iret S hr hlk hP hS d_M_map_49
        · have c23 : ¬ ((a2 - a2 / 4096 * 4096) = 0) := c23
          rw [if_neg c23] at hp
          refine lv_iconst (v := (-1)) S.1 S.2.1 d_M_map_26 (by decide) ?_
          rw [show j_M_map V a1 a2 a3 = ((-1), V) from by rw [j_M_map, if_neg c5, if_neg c9, if_neg c15, if_neg c23]]
          exact m_iret S hr hlk hP hS d_M_map_27
/-- PageVaultModel.protect(III)Z -/
def j_M_protect (V : MS) (a1 : Int32) (a2 : Int32) (a3 : Int32) : Int32 × MS :=
  if (j_M_row V a1 a2) = (-1) then
    (0, V)
  else
    if (a2 - a2 / 4096 * 4096) = 0 then
      if a3 < 0 then
        (0, V)
      else
        if a3 ≤ 15 then
          (1, t_pf V ((j_M_row V a1 a2).toNatClampNeg) a3)
        else
          (0, V)
    else
      (0, V)
/-- what it needs -/
def p_M_protect (V : MS) (a1 : Int32) (a2 : Int32) (a3 : Int32) : Prop :=
  (p_M_row V a1 a2) ∧ (
    if (j_M_row V a1 a2) = (-1) then
      True
    else
      if (a2 - a2 / 4096 * 4096) = 0 then
        if a3 < 0 then
          True
        else
          if a3 ≤ 15 then
            (vp_in (j_M_row V a1 a2) 128) ∧ (
              True)
          else
            True
      else
        True)
set_option maxHeartbeats 4000000 in
set_option maxRecDepth 100000 in
theorem c_M_protect (hE : mE ad) (V : MS) (a1 : Int32) (a2 : Int32) (a3 : Int32) (hp : p_M_protect V a1 a2 a3) : MC l D ad cI cZ y_M_protect b_M_protect 5 (some .boolean) ({ frames := 1, cells := 0, slots := 0, locals := 23 }) [.ref (ad 0), .int a1, .int a2, .int a3] V (some (.int (j_M_protect V a1 a2 a3).1)) ((j_M_protect V a1 a2 a3).2) := by
  refine FC_intro (by decide) (Nat.le_of_ble_eq_true rfl) ?_
  intro p e s m below meth c ls S hr hlk hK hP hS hl
  have S : CallFix p m c b_M_protect 5 s _ TG "PageVaultModel" := S
  have hl : lv_has ls 5 [(0, .ref (ad 0)), (1, .int a1), (2, .int a2), (3, .int a3)] := hl
  rw [p_M_protect] at hp
  refine lv_aload_n S.1 S.2.1 d_M_protect_0 rfl (lv_at hl 0 rfl) ?_
  refine lv_iload_n S.1 S.2.1 d_M_protect_1 rfl (lv_at hl 1 rfl) ?_
  refine lv_iload_n S.1 S.2.1 d_M_protect_2 rfl (lv_at hl 2 rfl) ?_
  obtain ⟨o1, hp⟩ := hp
  refine m_callVi (As := [.int a1, .int a2]) (rest := []) S hK ci_M_87 (c_M_row l D ad cI cZ hE V a1 a2 o1) (m_recM hK hP) hP hS ⟨rfl, rfl, Nat.le_of_ble_eq_true rfl, Nat.le_of_ble_eq_true rfl⟩ rfl hl.1 rfl (Nat.le_of_ble_eq_true rfl) d_M_protect_3 (fun H locs hP hS => ?_)
  refine lv_istore (lv' := [(4, .int (j_M_row V a1 a2)), (0, .ref (ad 0)), (1, .int a1), (2, .int a2), (3, .int a3)]) S.1 S.2.1 d_M_protect_6 hl (by decide) rfl (fun ls hl => ?_)
  refine lv_iload S.1 S.2.1 d_M_protect_8 (lv_at hl 0 rfl) ?_
  refine lv_iconst (v := (-1)) S.1 S.2.1 d_M_protect_10 (by decide) ?_
  refine lv_icmp_eq (tgt := 32) S.1 S.2.1 d_M_protect_11 (by decide) (fun c11 => ?_) (fun c11 => ?_)
  · have c11 : (j_M_row V a1 a2) = (-1) := c11
    rw [if_pos c11] at hp
    refine lv_iconst (v := 0) S.1 S.2.1 d_M_protect_32 (by decide) ?_
    rw [show j_M_protect V a1 a2 a3 = (0, V) from by rw [j_M_protect, if_pos c11]]
    exact m_zret (v := 0) S hr hlk rfl hP hS d_M_protect_33
  · have c11 : ¬ ((j_M_row V a1 a2) = (-1)) := c11
    rw [if_neg c11] at hp
    refine lv_iload_n S.1 S.2.1 d_M_protect_14 rfl (lv_at hl 3 rfl) ?_
    refine lv_sipush (v := 4096) S.1 S.2.1 d_M_protect_15 (by decide) ?_
    refine lv_irem S.1 S.2.1 d_M_protect_18 (by decide) ?_
    refine lv_if_ne (tgt := 32) S.1 S.2.1 d_M_protect_19 (by decide) (fun c19 => ?_) (fun c19 => ?_)
    · have c19 : ¬ ((a2 - a2 / 4096 * 4096) = 0) := c19
      rw [if_neg c19] at hp
      refine lv_iconst (v := 0) S.1 S.2.1 d_M_protect_32 (by decide) ?_
      rw [show j_M_protect V a1 a2 a3 = (0, V) from by rw [j_M_protect, if_neg c11, if_neg c19]]
      exact m_zret (v := 0) S hr hlk rfl hP hS d_M_protect_33
    · have c19 : (a2 - a2 / 4096 * 4096) = 0 := c19
      rw [if_pos c19] at hp
      refine lv_iload_n S.1 S.2.1 d_M_protect_22 rfl (lv_at hl 4 rfl) ?_
      refine lv_if_lt (tgt := 32) S.1 S.2.1 d_M_protect_23 (by decide) (fun c23 => ?_) (fun c23 => ?_)
      · have c23 : a3 < 0 := c23
        rw [if_pos c23] at hp
        refine lv_iconst (v := 0) S.1 S.2.1 d_M_protect_32 (by decide) ?_
        rw [show j_M_protect V a1 a2 a3 = (0, V) from by rw [j_M_protect, if_neg c11, if_pos c19, if_pos c23]]
        exact m_zret (v := 0) S hr hlk rfl hP hS d_M_protect_33
      · have c23 : ¬ (a3 < 0) := c23
        rw [if_neg c23] at hp
        refine lv_iload_n S.1 S.2.1 d_M_protect_26 rfl (lv_at hl 4 rfl) ?_
        refine lv_bipush (v := 15) S.1 S.2.1 d_M_protect_27 (by decide) ?_
        refine lv_icmp_le (tgt := 34) S.1 S.2.1 d_M_protect_29 (by decide) (fun c29 => ?_) (fun c29 => ?_)
        · have c29 : a3 ≤ 15 := c29
          rw [if_pos c29] at hp
          refine lv_aload_n S.1 S.2.1 d_M_protect_34 rfl (lv_at hl 1 rfl) ?_
          refine m_get_pf S hK hP tg_56 d_M_protect_35 ?_
          refine lv_iload S.1 S.2.1 d_M_protect_38 (lv_at hl 0 rfl) ?_
          refine lv_iload_n S.1 S.2.1 d_M_protect_40 rfl (lv_at hl 4 rfl) ?_
          obtain ⟨o2, hp⟩ := hp
          refine m_ast_pf S hE hK hP hS o2 d_M_protect_41 (fun H locs hP hS => ?_)
          refine lv_iconst (v := 1) S.1 S.2.1 d_M_protect_42 (by decide) ?_
          rw [show j_M_protect V a1 a2 a3 = (1, t_pf V ((j_M_row V a1 a2).toNatClampNeg) a3) from by rw [j_M_protect, if_neg c11, if_pos c19, if_neg c23, if_pos c29]]
          exact m_zret (v := 1) S hr hlk rfl hP hS d_M_protect_43
        · have c29 : ¬ (a3 ≤ 15) := c29
          rw [if_neg c29] at hp
          refine lv_iconst (v := 0) S.1 S.2.1 d_M_protect_32 (by decide) ?_
          rw [show j_M_protect V a1 a2 a3 = (0, V) from by rw [j_M_protect, if_neg c11, if_pos c19, if_neg c23, if_neg c29]]
          exact m_zret (v := 0) S hr hlk rfl hP hS d_M_protect_33
end MW
