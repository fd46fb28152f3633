section MW
variable (l : Launch) (D : va_G) (ad : Nat → Nat) (cI cZ : ClassId)
def j_M_peopled_h4 : Nat → MS → Int32 → Int32 → Int32 → Int32
  | 0, V, _, _, _ => 0
  | f + 1, V, a1, x2, x3 =>
      if (m_pages V) ≤ x3 then
        x2
      else
        if (m_ps V x3.toNatClampNeg) = a1 then
          if (j_M_peopled_h28 (x3.toNatClampNeg + 1) V a1 x2 x3 1 0) = 0 then
            j_M_peopled_h4 f V a1 x2 (x3 + 1)
          else
            j_M_peopled_h4 f V a1 (x2 + 1) (x3 + 1)
        else
          j_M_peopled_h4 f V a1 x2 (x3 + 1)
def p_M_peopled_h4 : Nat → MS → Int32 → Int32 → Int32 → Prop
  | 0, _, _, _, _ => True
  | f + 1, V, a1, x2, x3 =>
      if (m_pages V) ≤ x3 then
        True
      else
        (vp_in x3 128) ∧ (
          if (m_ps V x3.toNatClampNeg) = a1 then
            (p_M_peopled_h28 (x3.toNatClampNeg + 1) V a1 x2 x3 1 0) ∧ (
              if (j_M_peopled_h28 (x3.toNatClampNeg + 1) V a1 x2 x3 1 0) = 0 then
                p_M_peopled_h4 f V a1 x2 (x3 + 1)
              else
                p_M_peopled_h4 f V a1 (x2 + 1) (x3 + 1))
          else
            p_M_peopled_h4 f V a1 x2 (x3 + 1))
set_option maxHeartbeats 4000000 in
set_option maxRecDepth 100000 in
theorem w_M_peopled_h4 (hE : mE ad) {p : Program} {e : Env} {s : State} {m : MethodId} {args : Array Value} {below : List Frame} {meth : Method} {c : Code} (S : CallFix p m c b_M_peopled 6 s args TG "PageVaultModel") (hr : meth.sig.returnType = some .int) (hlk : meth.locks = false) (hK : mK D cI cZ s) :
    ∀ (f i : Nat) (a1 x2 x3 : Int32) (V : MS) (H : Heap) (locs : List Loc) (ls : Array Slot), x3 = nI i → i < 2 ^ 31 → (m_pages V).toNatClampNeg - i < f → p_M_peopled_h4 f V a1 x2 x3 → MP D ad cI cZ (V) H → va_S (iA ad mN) s.heap H locs → lv_has ls 6 [(0, .ref (ad 0)), (1, .int a1), (2, .int x2), (3, .int x3)] → W p l e ({ frames := 0, cells := 0, slots := 0, locals := 0 }) s m args below meth c H locs 0 0 (MQ below (gPost D ad mN (some (.int (j_M_peopled_h4 f V a1 x2 x3))) (mc ad cI cZ (V))) args s 0 0 (iA ad mN)) (F0 m 4 ls []) := by
  intro f
  induction f with
  | zero =>
    intro i a1 x2 x3 V H locs ls ek hi hf hp hP hS hl
    exact absurd hf (Nat.not_lt_zero _)
  | succ f ih =>
    intro i a1 x2 x3 V H locs ls ek hi hf hp hP hS hl
    rw [p_M_peopled_h4] at hp
    refine lv_iload_n S.1 S.2.1 d_M_peopled_4 rfl (lv_at hl 3 rfl) ?_
    refine lv_aload_n S.1 S.2.1 d_M_peopled_5 rfl (lv_at hl 0 rfl) ?_
    refine m_get_pages S hK hP tg_67 d_M_peopled_6 ?_
    refine lv_icmp_ge (tgt := 92) S.1 S.2.1 d_M_peopled_9 (by decide) (fun c9 => ?_) (fun c9 => ?_)
    · have c9 : (m_pages V) ≤ x3 := c9
      rw [if_pos c9] at hp
      refine lv_iload_n S.1 S.2.1 d_M_peopled_92 rfl (lv_at hl 2 rfl) ?_
      rw [show j_M_peopled_h4 (f + 1) V a1 x2 x3 = x2 from by rw [j_M_peopled_h4, if_pos c9]]
      exact m_iret S hr hlk hP hS d_M_peopled_93
    · have c9 : ¬ ((m_pages V) ≤ x3) := c9
      rw [if_neg c9] at hp
      refine lv_aload_n S.1 S.2.1 d_M_peopled_12 rfl (lv_at hl 0 rfl) ?_
      refine m_get_ps S hK hP tg_54 d_M_peopled_13 ?_
      refine lv_iload_n S.1 S.2.1 d_M_peopled_16 rfl (lv_at hl 3 rfl) ?_
      obtain ⟨o1, hp⟩ := hp
      refine m_ald_ps S hK hP o1 d_M_peopled_17 ?_
      refine lv_iload_n S.1 S.2.1 d_M_peopled_18 rfl (lv_at hl 1 rfl) ?_
      refine lv_icmp_ne (tgt := 86) S.1 S.2.1 d_M_peopled_19 (by decide) (fun c19 => ?_) (fun c19 => ?_)
      · have c19 : ¬ ((m_ps V x3.toNatClampNeg) = a1) := c19
        rw [if_neg c19] at hp
        refine lv_iinc (v := x3 + 1) (lv' := [(3, .int (x3 + 1)), (0, .ref (ad 0)), (1, .int a1), (2, .int x2)]) S.1 S.2.1 d_M_peopled_86 hl (k := 3) rfl rfl (by decide) rfl (fun ls hl => ?_)
        refine lv_goto (tgt := 4) S.1 S.2.1 d_M_peopled_89 (by decide) ?_
        have hB := lp_lc ek hi c9
        have hC := clamp_lt (m_pages V)
        rw [show j_M_peopled_h4 (f + 1) V a1 x2 x3 = j_M_peopled_h4 f V a1 x2 (x3 + 1) from by rw [j_M_peopled_h4, if_neg c9, if_neg c19]]
        exact ih (i + 1) a1 x2 (x3 + 1) V _ _ _ (by rw [ek]; exact nI_1 i) (by omega) (by omega) hp hP hS (lv_sub hl [1, 2, 3, 0] rfl)
      · have c19 : (m_ps V x3.toNatClampNeg) = a1 := c19
        rw [if_pos c19] at hp
        refine lv_iconst (v := 1) S.1 S.2.1 d_M_peopled_22 (by decide) ?_
        refine lv_istore (lv' := [(4, .int 1), (0, .ref (ad 0)), (1, .int a1), (2, .int x2), (3, .int x3)]) S.1 S.2.1 d_M_peopled_23 hl (by decide) rfl (fun ls hl => ?_)
        refine lv_iconst (v := 0) S.1 S.2.1 d_M_peopled_25 (by decide) ?_
        refine lv_istore (lv' := [(5, .int 0), (4, .int 1), (0, .ref (ad 0)), (1, .int a1), (2, .int x2), (3, .int x3)]) S.1 S.2.1 d_M_peopled_26 hl (by decide) rfl (fun ls hl => ?_)
        obtain ⟨o2, hp⟩ := hp
        refine w_M_peopled_h28 l D ad cI cZ hE S hK (x3.toNatClampNeg + 1) 0 a1 x2 x3 1 0 V _ _ _ nI_0.symm (by decide) (by omega) o2 hP hS (lv_sub hl [2, 3, 4, 5, 1, 0] rfl) (fun H locs ls hP hS hl => ?_)
        refine lv_iload S.1 S.2.1 d_M_peopled_78 (lv_at hl 4 rfl) ?_
        refine lv_if_eq (tgt := 86) S.1 S.2.1 d_M_peopled_80 (by decide) (fun c80 => ?_) (fun c80 => ?_)
        · have c80 : (j_M_peopled_h28 (x3.toNatClampNeg + 1) V a1 x2 x3 1 0) = 0 := c80
          rw [if_pos c80] at hp
          refine lv_iinc (v := x3 + 1) (lv' := [(3, .int (x3 + 1)), (0, .ref (ad 0)), (1, .int a1), (2, .int x2), (4, .int (j_M_peopled_h28 (x3.toNatClampNeg + 1) V a1 x2 x3 1 0))]) S.1 S.2.1 d_M_peopled_86 hl (k := 3) rfl rfl (by decide) rfl (fun ls hl => ?_)
          refine lv_goto (tgt := 4) S.1 S.2.1 d_M_peopled_89 (by decide) ?_
          have hB := lp_lc ek hi c9
          have hC := clamp_lt (m_pages V)
          rw [show j_M_peopled_h4 (f + 1) V a1 x2 x3 = j_M_peopled_h4 f V a1 x2 (x3 + 1) from by rw [j_M_peopled_h4, if_neg c9, if_pos c19, if_pos c80]]
          exact ih (i + 1) a1 x2 (x3 + 1) V _ _ _ (by rw [ek]; exact nI_1 i) (by omega) (by omega) hp hP hS (lv_sub hl [1, 2, 3, 0] rfl)
        · have c80 : ¬ ((j_M_peopled_h28 (x3.toNatClampNeg + 1) V a1 x2 x3 1 0) = 0) := c80
          rw [if_neg c80] at hp
          refine lv_iinc (v := x2 + 1) (lv' := [(2, .int (x2 + 1)), (0, .ref (ad 0)), (1, .int a1), (3, .int x3), (4, .int (j_M_peopled_h28 (x3.toNatClampNeg + 1) V a1 x2 x3 1 0))]) S.1 S.2.1 d_M_peopled_83 hl (k := 2) rfl rfl (by decide) rfl (fun ls hl => ?_)
          refine lv_iinc (v := x3 + 1) (lv' := [(3, .int (x3 + 1)), (2, .int (x2 + 1)), (0, .ref (ad 0)), (1, .int a1), (4, .int (j_M_peopled_h28 (x3.toNatClampNeg + 1) V a1 x2 x3 1 0))]) S.1 S.2.1 d_M_peopled_86 hl (k := 3) rfl rfl (by decide) rfl (fun ls hl => ?_)
          refine lv_goto (tgt := 4) S.1 S.2.1 d_M_peopled_89 (by decide) ?_
          have hB := lp_lc ek hi c9
          have hC := clamp_lt (m_pages V)
          rw [show j_M_peopled_h4 (f + 1) V a1 x2 x3 = j_M_peopled_h4 f V a1 (x2 + 1) (x3 + 1) from by rw [j_M_peopled_h4, if_neg c9, if_pos c19, if_neg c80]]
          exact ih (i + 1) a1 (x2 + 1) (x3 + 1) V _ _ _ (by rw [ek]; exact nI_1 i) (by omega) (by omega) hp hP hS (lv_sub hl [2, 3, 1, 0] rfl)
/-- PageVaultModel.peopled(I)I -/
def j_M_peopled (V : MS) (a1 : Int32) : Int32 :=
  j_M_peopled_h4 ((m_pages V).toNatClampNeg + 1) V a1 0 0
/-- what it needs -/
def p_M_peopled (V : MS) (a1 : Int32) : Prop :=
  p_M_peopled_h4 ((m_pages V).toNatClampNeg + 1) V a1 0 0
set_option maxHeartbeats 4000000 in
set_option maxRecDepth 100000 in
theorem c_M_peopled (hE : mE ad) (V : MS) (a1 : Int32) (hp : p_M_peopled V a1) : MC l D ad cI cZ y_M_peopled b_M_peopled 6 (some .int) ({ frames := 0, cells := 0, slots := 0, locals := 0 }) [.ref (ad 0), .int a1] V (some (.int (j_M_peopled V a1))) (V) := by
  refine FC_intro (by decide) (Nat.le_of_ble_eq_true rfl) ?_
  intro p e s m below meth c ls S hr hlk hK hP hS hl
  have S : CallFix p m c b_M_peopled 6 s _ TG "PageVaultModel" := S
  have hl : lv_has ls 6 [(0, .ref (ad 0)), (1, .int a1)] := hl
  rw [p_M_peopled] at hp
  refine lv_iconst (v := 0) S.1 S.2.1 d_M_peopled_0 (by decide) ?_
  refine lv_istore_n (lv' := [(2, .int 0), (0, .ref (ad 0)), (1, .int a1)]) S.1 S.2.1 d_M_peopled_1 rfl hl (by decide) rfl (fun ls hl => ?_)
  refine lv_iconst (v := 0) S.1 S.2.1 d_M_peopled_2 (by decide) ?_
  refine lv_istore_n (lv' := [(3, .int 0), (2, .int 0), (0, .ref (ad 0)), (1, .int a1)]) S.1 S.2.1 d_M_peopled_3 rfl hl (by decide) rfl (fun ls hl => ?_)
  rw [show j_M_peopled V a1 = j_M_peopled_h4 ((m_pages V).toNatClampNeg + 1) V a1 0 0 from by rw [j_M_peopled]]
  exact w_M_peopled_h4 l D ad cI cZ hE S hr hlk hK ((m_pages V).toNatClampNeg + 1) 0 a1 0 0 V _ _ _ nI_0.symm (by decide) (by omega) hp hP hS (lv_sub hl [2, 3, 1, 0] rfl)
/-- PageVaultModel.touch(III)I -/
def j_M_touch (V : MS) (a1 : Int32) (a2 : Int32) (a3 : Int32) : Int32 × MS :=
  if a2 < 0 then
    (1, V)
  else
    if a2 < 1073741824 then
      if (j_M_row V a1 a2) = (-1) then
        if (m_ends V a1.toNatClampNeg) ≤ a2 then
          (1, V)
        else
          if a3 = 4 then
            (1, V)
          else
            if (j_M_room V a1 (a2 / 4096)) = 0 then
              (3, V)
            else
              (0, j_M_addEmpty V a1 (a2 / 4096) 11)
      else
        if ((m_pf V ((j_M_row V a1 a2).toNatClampNeg)) &&& 8) = 0 then
          (1, V)
        else
          if ((m_pf V ((j_M_row V a1 a2).toNatClampNeg)) &&& a3) = 0 then
            (1, V)
          else
            if a3 = 2 then
              if (j_M_sharers V (m_pk V ((j_M_row V a1 a2).toNatClampNeg))) ≤ 1 then
                (0, V)
              else
                if (j_M_freeFrames V) = 0 then
                  (3, V)
                else
                  (0, t_kins (t_pk V ((j_M_row V a1 a2).toNatClampNeg) (m_kins V)) ((m_kins V) + 1))
            else
              (0, V)
    else
      (1, V)
/-- what it needs -/
def p_M_touch (V : MS) (a1 : Int32) (a2 : Int32) (a3 : Int32) : Prop :=
  if a2 < 0 then
    True
  else
    if a2 < 1073741824 then
      (p_M_row V a1 a2) ∧ (
        if (j_M_row V a1 a2) = (-1) then
          (vp_in a1 16) ∧ (
            if (m_ends V a1.toNatClampNeg) ≤ a2 then
              True
            else
              if a3 = 4 then
                True
              else
                (p_M_room V a1 (a2 / 4096)) ∧ (
                  if (j_M_room V a1 (a2 / 4096)) = 0 then
                    True
                  else
                    (p_M_addEmpty V a1 (a2 / 4096) 11) ∧ (
                      True)))
        else
          (vp_in (j_M_row V a1 a2) 128) ∧ (
            if ((m_pf V ((j_M_row V a1 a2).toNatClampNeg)) &&& 8) = 0 then
              True
            else
              if ((m_pf V ((j_M_row V a1 a2).toNatClampNeg)) &&& a3) = 0 then
                True
              else
                if a3 = 2 then
                  (p_M_sharers V (m_pk V ((j_M_row V a1 a2).toNatClampNeg))) ∧ (
                    if (j_M_sharers V (m_pk V ((j_M_row V a1 a2).toNatClampNeg))) ≤ 1 then
                      True
                    else
                      (p_M_freeFrames V) ∧ (
                        True))
                else
                  True))
    else
      True
set_option maxHeartbeats 4000000 in
set_option maxRecDepth 100000 in
theorem c_M_touch (hE : mE ad) (V : MS) (a1 : Int32) (a2 : Int32) (a3 : Int32) (hp : p_M_touch V a1 a2 a3) : MC l D ad cI cZ y_M_touch b_M_touch 5 (some .int) ({ frames := 3, cells := 0, slots := 0, locals := 70 }) [.ref (ad 0), .int a1, .int a2, .int a3] V (some (.int (j_M_touch V a1 a2 a3).1)) ((j_M_touch V a1 a2 a3).2) := by
  refine FC_intro (by decide) (Nat.le_of_ble_eq_true rfl) ?_
  intro p e s m below meth c ls S hr hlk hK hP hS hl
  have S : CallFix p m c b_M_touch 5 s _ TG "PageVaultModel" := S
  have hl : lv_has ls 5 [(0, .ref (ad 0)), (1, .int a1), (2, .int a2), (3, .int a3)] := hl
  rw [p_M_touch] at hp
  refine lv_iload_n S.1 S.2.1 d_M_touch_0 rfl (lv_at hl 2 rfl) ?_
  refine lv_if_lt (tgt := 10) S.1 S.2.1 d_M_touch_1 (by decide) (fun c1 => ?_) (fun c1 => ?_)
  · have c1 : a2 < 0 := c1
    rw [if_pos c1] at hp
    refine lv_iconst (v := 1) S.1 S.2.1 d_M_touch_10 (by decide) ?_
    rw [show j_M_touch V a1 a2 a3 = (1, V) from by rw [j_M_touch, if_pos c1]]
    exact m_iret S hr hlk hP hS d_M_touch_11
  · have c1 : ¬ (a2 < 0) := c1
    rw [if_neg c1] at hp
    refine lv_iload_n S.1 S.2.1 d_M_touch_4 rfl (lv_at hl 2 rfl) ?_
    refine lv_ldc (v := 1073741824) S.1 S.2.1 S.2.2.2.1 (S.2.2.2.2 _ tg_90) d_M_touch_5 ?_
    refine lv_icmp_lt (tgt := 12) S.1 S.2.1 d_M_touch_7 (by decide) (fun c7 => ?_) (fun c7 => ?_)
    · have c7 : a2 < 1073741824 := c7
      rw [if_pos c7] at hp
      refine lv_aload_n S.1 S.2.1 d_M_touch_12 rfl (lv_at hl 0 rfl) ?_
      refine lv_iload_n S.1 S.2.1 d_M_touch_13 rfl (lv_at hl 1 rfl) ?_
      refine lv_iload_n S.1 S.2.1 d_M_touch_14 rfl (lv_at hl 2 rfl) ?_
      obtain ⟨o1, hp⟩ := hp
      refine m_callVi (As := [.int a1, .int a2]) (rest := []) S hK ci_M_87 (c_M_row l D ad cI cZ hE V a1 a2 o1) (m_recM hK hP) hP hS ⟨rfl, rfl, Nat.le_of_ble_eq_true rfl, Nat.le_of_ble_eq_true rfl⟩ rfl hl.1 rfl (Nat.le_of_ble_eq_true rfl) d_M_touch_15 (fun H locs hP hS => ?_)
      refine lv_istore (lv' := [(4, .int (j_M_row V a1 a2)), (0, .ref (ad 0)), (1, .int a1), (2, .int a2), (3, .int a3)]) S.1 S.2.1 d_M_touch_18 hl (by decide) rfl (fun ls hl => ?_)
      refine lv_iload S.1 S.2.1 d_M_touch_20 (lv_at hl 0 rfl) ?_
      refine lv_iconst (v := (-1)) S.1 S.2.1 d_M_touch_22 (by decide) ?_
      refine lv_icmp_ne (tgt := 72) S.1 S.2.1 d_M_touch_23 (by decide) (fun c23 => ?_) (fun c23 => ?_)
      · have c23 : ¬ ((j_M_row V a1 a2) = (-1)) := c23
        rw [if_neg c23] at hp
        refine lv_aload_n S.1 S.2.1 d_M_touch_72 rfl (lv_at hl 1 rfl) ?_
        refine m_get_pf S hK hP tg_56 d_M_touch_73 ?_
        refine lv_iload S.1 S.2.1 d_M_touch_76 (lv_at hl 0 rfl) ?_
        obtain ⟨o2, hp⟩ := hp
        refine m_ald_pf S hK hP o2 d_M_touch_78 ?_
        refine lv_bipush (v := 8) S.1 S.2.1 d_M_touch_79 (by decide) ?_
        refine lv_iand S.1 S.2.1 d_M_touch_81 ?_
        refine lv_if_eq (tgt := 97) S.1 S.2.1 d_M_touch_82 (by decide) (fun c82 => ?_) (fun c82 => ?_)
        · have c82 : ((m_pf V ((j_M_row V a1 a2).toNatClampNeg)) &&& 8) = 0 := c82
          rw [if_pos c82] at hp
          refine lv_iconst (v := 1) S.1 S.2.1 d_M_touch_97 (by decide) ?_
          rw [show j_M_touch V a1 a2 a3 = (1, V) from by rw [j_M_touch, if_neg c1, if_pos c7, if_neg c23, if_pos c82]]
          exact m_iret S hr hlk hP hS d_M_touch_98
        · have c82 : ¬ (((m_pf V ((j_M_row V a1 a2).toNatClampNeg)) &&& 8) = 0) := c82
          rw [if_neg c82] at hp
          refine lv_aload_n S.1 S.2.1 d_M_touch_85 rfl (lv_at hl 1 rfl) ?_
          refine m_get_pf S hK hP tg_56 d_M_touch_86 ?_
          refine lv_iload S.1 S.2.1 d_M_touch_89 (lv_at hl 0 rfl) ?_
          refine m_ald_pf S hK hP o2 d_M_touch_91 ?_
          refine lv_iload_n S.1 S.2.1 d_M_touch_92 rfl (lv_at hl 4 rfl) ?_
          refine lv_iand S.1 S.2.1 d_M_touch_93 ?_
          refine lv_if_ne (tgt := 99) S.1 S.2.1 d_M_touch_94 (by decide) (fun c94 => ?_) (fun c94 => ?_)
          · have c94 : ¬ (((m_pf V ((j_M_row V a1 a2).toNatClampNeg)) &&& a3) = 0) := c94
            rw [if_neg c94] at hp
            refine lv_iload_n S.1 S.2.1 d_M_touch_99 rfl (lv_at hl 4 rfl) ?_
            refine lv_iconst (v := 2) S.1 S.2.1 d_M_touch_100 (by decide) ?_
            refine lv_icmp_ne (tgt := 149) S.1 S.2.1 d_M_touch_101 (by decide) (fun c101 => ?_) (fun c101 => ?_)
            · have c101 : ¬ (a3 = 2) := c101
              rw [if_neg c101] at hp
              refine lv_iconst (v := 0) S.1 S.2.1 d_M_touch_149 (by decide) ?_
              rw [show j_M_touch V a1 a2 a3 = (0, V) from by rw [j_M_touch, if_neg c1, if_pos c7, if_neg c23, if_neg c82, if_neg c94, if_neg c101]]
              exact m_iret S hr hlk hP hS d_M_touch_150
            · have c101 : a3 = 2 := c101
              rw [if_pos c101] at hp
              refine lv_aload_n S.1 S.2.1 d_M_touch_104 rfl (lv_at hl 1 rfl) ?_
              refine lv_aload_n S.1 S.2.1 d_M_touch_105 rfl (lv_at hl 1 rfl) ?_
              refine m_get_pk S hK hP tg_57 d_M_touch_106 ?_
              refine lv_iload S.1 S.2.1 d_M_touch_109 (lv_at hl 0 rfl) ?_
              refine m_ald_pk S hK hP o2 d_M_touch_111 ?_
              obtain ⟨o3, hp⟩ := hp
              refine m_callVi (As := [.int (m_pk V ((j_M_row V a1 a2).toNatClampNeg))]) (rest := []) S hK ci_M_98 (c_M_sharers l D ad cI cZ hE V (m_pk V ((j_M_row V a1 a2).toNatClampNeg)) o3) (m_recM hK hP) hP hS ⟨rfl, rfl, Nat.le_of_ble_eq_true rfl, Nat.le_of_ble_eq_true rfl⟩ rfl hl.1 rfl (Nat.le_of_ble_eq_true rfl) d_M_touch_112 (fun H locs hP hS => ?_)
              refine lv_iconst (v := 1) S.1 S.2.1 d_M_touch_115 (by decide) ?_
              refine lv_icmp_le (tgt := 149) S.1 S.2.1 d_M_touch_116 (by decide) (fun c116 => ?_) (fun c116 => ?_)
              · have c116 : (j_M_sharers V (m_pk V ((j_M_row V a1 a2).toNatClampNeg))) ≤ 1 := c116
                rw [if_pos c116] at hp
                refine lv_iconst (v := 0) S.1 S.2.1 d_M_touch_149 (by decide) ?_
                rw [show j_M_touch V a1 a2 a3 = (0, V) from by rw [j_M_touch, if_neg c1, if_pos c7, if_neg c23, if_neg c82, if_neg c94, if_pos c101, if_pos c116]]
                exact m_iret S hr hlk hP hS d_M_touch_150
              · have c116 : ¬ ((j_M_sharers V (m_pk V ((j_M_row V a1 a2).toNatClampNeg))) ≤ 1) := c116
                rw [if_neg c116] at hp
                refine lv_aload_n S.1 S.2.1 d_M_touch_119 rfl (lv_at hl 1 rfl) ?_
                obtain ⟨o4, hp⟩ := hp
                refine m_callVi (As := []) (rest := []) S hK ci_M_67 (c_M_freeFrames l D ad cI cZ hE V o4) (m_recM hK hP) hP hS ⟨rfl, rfl, Nat.le_of_ble_eq_true rfl, Nat.le_of_ble_eq_true rfl⟩ rfl hl.1 rfl (Nat.le_of_ble_eq_true rfl) d_M_touch_120 (fun H locs hP hS => ?_)
                refine lv_if_ne (tgt := 128) S.1 S.2.1 d_M_touch_123 (by decide) (fun c123 => ?_) (fun c123 => ?_)
                · have c123 : ¬ ((j_M_freeFrames V) = 0) := c123
                  refine lv_aload_n S.1 S.2.1 d_M_touch_128 rfl (lv_at hl 1 rfl) ?_
                  refine m_get_pk S hK hP tg_57 d_M_touch_129 ?_
                  refine lv_iload S.1 S.2.1 d_M_touch_132 (lv_at hl 0 rfl) ?_
                  refine lv_aload_n S.1 S.2.1 d_M_touch_134 rfl (lv_at hl 1 rfl) ?_
                  refine m_get_kins S hK hP tg_81 d_M_touch_135 ?_
                  refine m_ast_pk S hE hK hP hS o2 d_M_touch_138 (fun H locs hP hS => ?_)
                  refine lv_aload_n S.1 S.2.1 d_M_touch_139 rfl (lv_at hl 1 rfl) ?_
                  refine lv_dup S.1 S.2.1 d_M_touch_140 rfl ?_
                  refine m_get_kins S hK hP tg_81 d_M_touch_141 ?_
                  refine lv_iconst (v := 1) S.1 S.2.1 d_M_touch_144 (by decide) ?_
                  refine lv_iadd S.1 S.2.1 d_M_touch_145 ?_
                  refine m_put_kins S hE hK hP hS tg_81 d_M_touch_146 (fun H locs hP hS => ?_)
                  refine lv_iconst (v := 0) S.1 S.2.1 d_M_touch_149 (by decide) ?_
                  rw [show j_M_touch V a1 a2 a3 = (0, t_kins (t_pk V ((j_M_row V a1 a2).toNatClampNeg) (m_kins V)) ((m_kins V) + 1)) from by rw [j_M_touch, if_neg c1, if_pos c7, if_neg c23, if_neg c82, if_neg c94, if_pos c101, if_neg c116, if_neg c123]]
                  exact m_iret S hr hlk hP hS d_M_touch_150
                · have c123 : (j_M_freeFrames V) = 0 := c123
                  refine lv_iconst (v := 3) S.1 S.2.1 d_M_touch_126 (by decide) ?_
                  rw [show j_M_touch V a1 a2 a3 = (3, V) from by rw [j_M_touch, if_neg c1, if_pos c7, if_neg c23, if_neg c82, if_neg c94, if_pos c101, if_neg c116, if_pos c123]]
                  exact m_iret S hr hlk hP hS d_M_touch_127
          · have c94 : ((m_pf V ((j_M_row V a1 a2).toNatClampNeg)) &&& a3) = 0 := c94
            rw [if_pos c94] at hp
            refine lv_iconst (v := 1) S.1 S.2.1 d_M_touch_97 (by decide) ?_
            rw [show j_M_touch V a1 a2 a3 = (1, V) from by rw [j_M_touch, if_neg c1, if_pos c7, if_neg c23, if_neg c82, if_pos c94]]
            exact m_iret S hr hlk hP hS d_M_touch_98
      · have c23 : (j_M_row V a1 a2) = (-1) := c23
        rw [if_pos c23] at hp
        refine lv_iload_n S.1 S.2.1 d_M_touch_26 rfl (lv_at hl 3 rfl) ?_
        refine lv_aload_n S.1 S.2.1 d_M_touch_27 rfl (lv_at hl 1 rfl) ?_
        refine m_get_ends S hK hP tg_53 d_M_touch_28 ?_
        refine lv_iload_n S.1 S.2.1 d_M_touch_31 rfl (lv_at hl 2 rfl) ?_
        obtain ⟨o5, hp⟩ := hp
        refine m_ald_ends S hK hP o5 d_M_touch_32 ?_
        refine lv_icmp_ge (tgt := 41) S.1 S.2.1 d_M_touch_33 (by decide) (fun c33 => ?_) (fun c33 => ?_)
        · have c33 : (m_ends V a1.toNatClampNeg) ≤ a2 := c33
          rw [if_pos c33] at hp
          refine lv_iconst (v := 1) S.1 S.2.1 d_M_touch_41 (by decide) ?_
          rw [show j_M_touch V a1 a2 a3 = (1, V) from by rw [j_M_touch, if_neg c1, if_pos c7, if_pos c23, if_pos c33]]
          exact m_iret S hr hlk hP hS d_M_touch_42
        · have c33 : ¬ ((m_ends V a1.toNatClampNeg) ≤ a2) := c33
          rw [if_neg c33] at hp
          refine lv_iload_n S.1 S.2.1 d_M_touch_36 rfl (lv_at hl 4 rfl) ?_
          refine lv_iconst (v := 4) S.1 S.2.1 d_M_touch_37 (by decide) ?_
          refine lv_icmp_ne (tgt := 43) S.1 S.2.1 d_M_touch_38 (by decide) (fun c38 => ?_) (fun c38 => ?_)
          · have c38 : ¬ (a3 = 4) := c38
            rw [if_neg c38] at hp
            refine lv_aload_n S.1 S.2.1 d_M_touch_43 rfl (lv_at hl 1 rfl) ?_
            refine lv_iload_n S.1 S.2.1 d_M_touch_44 rfl (lv_at hl 2 rfl) ?_
            refine lv_iload_n S.1 S.2.1 d_M_touch_45 rfl (lv_at hl 3 rfl) ?_
            refine lv_sipush (v := 4096) S.1 S.2.1 d_M_touch_46 (by decide) ?_
            refine lv_idiv S.1 S.2.1 d_M_touch_49 (by decide) ?_
            obtain ⟨o6, hp⟩ := hp
            refine m_callVi (As := [.int a1, .int (a2 / 4096)]) (rest := []) S hK ci_M_91 (c_M_room l D ad cI cZ hE V a1 (a2 / 4096) o6) (m_recM hK hP) hP hS ⟨rfl, rfl, Nat.le_of_ble_eq_true rfl, Nat.le_of_ble_eq_true rfl⟩ rfl hl.1 rfl (Nat.le_of_ble_eq_true rfl) d_M_touch_50 (fun H locs hP hS => ?_)
            refine lv_if_ne (tgt := 58) S.1 S.2.1 d_M_touch_53 (by decide) (fun c53 => ?_) (fun c53 => ?_)
            · have c53 : ¬ ((j_M_room V a1 (a2 / 4096)) = 0) := c53
              rw [if_neg c53] at hp
              refine lv_aload_n S.1 S.2.1 d_M_touch_58 rfl (lv_at hl 1 rfl) ?_
              refine lv_iload_n S.1 S.2.1 d_M_touch_59 rfl (lv_at hl 2 rfl) ?_
              refine lv_iload_n S.1 S.2.1 d_M_touch_60 rfl (lv_at hl 3 rfl) ?_
              refine lv_sipush (v := 4096) S.1 S.2.1 d_M_touch_61 (by decide) ?_
              refine lv_idiv S.1 S.2.1 d_M_touch_64 (by decide) ?_
              refine lv_bipush (v := 11) S.1 S.2.1 d_M_touch_65 (by decide) ?_
              obtain ⟨o7, hp⟩ := hp
              refine m_callVv (As := [.int a1, .int (a2 / 4096), .int 11]) (rest := []) S hK ci_M_94 (c_M_addEmpty l D ad cI cZ hE V a1 (a2 / 4096) 11 o7) (m_recM hK hP) hP hS ⟨rfl, rfl, Nat.le_of_ble_eq_true rfl, Nat.le_of_ble_eq_true rfl⟩ rfl hl.1 rfl (Nat.le_of_ble_eq_true rfl) d_M_touch_67 (fun H locs hP hS => ?_)
              refine lv_iconst (v := 0) S.1 S.2.1 d_M_touch_70 (by decide) ?_
              rw [show j_M_touch V a1 a2 a3 = (0, j_M_addEmpty V a1 (a2 / 4096) 11) from by rw [j_M_touch, if_neg c1, if_pos c7, if_pos c23, if_neg c33, if_neg c38, if_neg c53]]
              exact m_iret S hr hlk hP hS d_M_touch_71
            · have c53 : (j_M_room V a1 (a2 / 4096)) = 0 := c53
              rw [if_pos c53] at hp
              refine lv_iconst (v := 3) S.1 S.2.1 d_M_touch_56 (by decide) ?_
              rw [show j_M_touch V a1 a2 a3 = (3, V) from by rw [j_M_touch, if_neg c1, if_pos c7, if_pos c23, if_neg c33, if_neg c38, if_pos c53]]
              exact m_iret S hr hlk hP hS d_M_touch_57
          · have c38 : a3 = 4 := c38
            rw [if_pos c38] at hp
            refine lv_iconst (v := 1) S.1 S.2.1 d_M_touch_41 (by decide) ?_
            rw [show j_M_touch V a1 a2 a3 = (1, V) from by rw [j_M_touch, if_neg c1, if_pos c7, if_pos c23, if_neg c33, if_pos c38]]
            exact m_iret S hr hlk hP hS d_M_touch_42
    · have c7 : ¬ (a2 < 1073741824) := c7
      rw [if_neg c7] at hp
      refine lv_iconst (v := 1) S.1 S.2.1 d_M_touch_10 (by decide) ?_
      rw [show j_M_touch V a1 a2 a3 = (1, V) from by rw [j_M_touch, if_neg c1, if_neg c7]]
      exact m_iret S hr hlk hP hS d_M_touch_11
/-- PageVaultModel.aimed(IIII)Z -/
def j_M_aimed (V : MS) (a1 : Int32) (a2 : Int32) (a3 : Int32) (a4 : Int32) : Int32 × MS :=
  if a3 = 1 then
    if (a2 - a2 / a3 * a3) = 0 then
      if (j_M_lives V a1) = 0 then
        (0, t_trap V 1)
      else
        if ((j_M_touch V a1 a2 a4).1) = 0 then
          (1, t_trap ((j_M_touch V a1 a2 a4).2) ((j_M_touch V a1 a2 a4).1))
        else
          (0, t_trap ((j_M_touch V a1 a2 a4).2) ((j_M_touch V a1 a2 a4).1))
    else
      (0, t_trap V 2)
  else
    if a3 = 2 then
      if (a2 - a2 / a3 * a3) = 0 then
        if (j_M_lives V a1) = 0 then
          (0, t_trap V 1)
        else
          if ((j_M_touch V a1 a2 a4).1) = 0 then
            (1, t_trap ((j_M_touch V a1 a2 a4).2) ((j_M_touch V a1 a2 a4).1))
          else
            (0, t_trap ((j_M_touch V a1 a2 a4).2) ((j_M_touch V a1 a2 a4).1))
      else
        (0, t_trap V 2)
    else
      if a3 = 4 then
        if (a2 - a2 / a3 * a3) = 0 then
          if (j_M_lives V a1) = 0 then
            (0, t_trap V 1)
          else
            if ((j_M_touch V a1 a2 a4).1) = 0 then
              (1, t_trap ((j_M_touch V a1 a2 a4).2) ((j_M_touch V a1 a2 a4).1))
            else
              (0, t_trap ((j_M_touch V a1 a2 a4).2) ((j_M_touch V a1 a2 a4).1))
        else
          (0, t_trap V 2)
      else
        (0, t_trap V 2)
/-- what it needs -/
def p_M_aimed (V : MS) (a1 : Int32) (a2 : Int32) (a3 : Int32) (a4 : Int32) : Prop :=
  if a3 = 1 then
    if (a2 - a2 / a3 * a3) = 0 then
      if (j_M_lives V a1) = 0 then
        True
      else
        (p_M_touch V a1 a2 a4) ∧ (
          True)
    else
      True
  else
    if a3 = 2 then
      if (a2 - a2 / a3 * a3) = 0 then
        if (j_M_lives V a1) = 0 then
          True
        else
          (p_M_touch V a1 a2 a4) ∧ (
            True)
      else
        True
    else
      if a3 = 4 then
        if (a2 - a2 / a3 * a3) = 0 then
          if (j_M_lives V a1) = 0 then
            True
          else
            (p_M_touch V a1 a2 a4) ∧ (
              True)
        else
          True
      else
        True
set_option maxHeartbeats 4000000 in
set_option maxRecDepth 100000 in
theorem c_M_aimed (hE : mE ad) (V : MS) (a1 : Int32) (a2 : Int32) (a3 : Int32) (a4 : Int32) (hp : p_M_aimed V a1 a2 a3 a4) : MC l D ad cI cZ y_M_aimed b_M_aimed 5 (some .boolean) ({ frames := 4, cells := 0, slots := 0, locals := 94 }) [.ref (ad 0), .int a1, .int a2, .int a3, .int a4] V (some (.int (j_M_aimed V a1 a2 a3 a4).1)) ((j_M_aimed V a1 a2 a3 a4).2) := by
  refine FC_intro (by decide) (Nat.le_of_ble_eq_true rfl) ?_
  intro p e s m below meth c ls S hr hlk hK hP hS hl
  have S : CallFix p m c b_M_aimed 5 s _ TG "PageVaultModel" := S
  have hl : lv_has ls 5 [(0, .ref (ad 0)), (1, .int a1), (2, .int a2), (3, .int a3), (4, .int a4)] := hl
  rw [p_M_aimed] at hp
  refine lv_iload_n S.1 S.2.1 d_M_aimed_0 rfl (lv_at hl 3 rfl) ?_
  refine lv_iconst (v := 1) S.1 S.2.1 d_M_aimed_1 (by decide) ?_
  refine lv_icmp_eq (tgt := 23) S.1 S.2.1 d_M_aimed_2 (by decide) (fun c2 => ?_) (fun c2 => ?_)
  · have c2 : a3 = 1 := c2
    rw [if_pos c2] at hp
    refine lv_iload_n S.1 S.2.1 d_M_aimed_23 rfl (lv_at hl 2 rfl) ?_
    refine lv_iload_n S.1 S.2.1 d_M_aimed_24 rfl (lv_at hl 3 rfl) ?_
    refine lv_irem S.1 S.2.1 d_M_aimed_25 (by rw [c2]; decide) ?_
    refine lv_if_eq (tgt := 37) S.1 S.2.1 d_M_aimed_26 (by decide) (fun c26 => ?_) (fun c26 => ?_)
    · have c26 : (a2 - a2 / a3 * a3) = 0 := c26
      rw [if_pos c26] at hp
      refine lv_aload_n S.1 S.2.1 d_M_aimed_37 rfl (lv_at hl 0 rfl) ?_
      refine lv_aload_n S.1 S.2.1 d_M_aimed_38 rfl (lv_at hl 0 rfl) ?_
      refine lv_iload_n S.1 S.2.1 d_M_aimed_39 rfl (lv_at hl 1 rfl) ?_
      refine m_callVi (As := [.int a1]) (rest := [.ref (ad 0)]) S hK ci_M_105 (c_M_lives l D ad cI cZ hE V a1) (m_recM hK hP) hP hS ⟨rfl, rfl, Nat.le_of_ble_eq_true rfl, Nat.le_of_ble_eq_true rfl⟩ rfl hl.1 rfl (Nat.le_of_ble_eq_true rfl) d_M_aimed_40 (fun H locs hP hS => ?_)
      refine lv_if_eq (tgt := 57) S.1 S.2.1 d_M_aimed_43 (by decide) (fun c43 => ?_) (fun c43 => ?_)
      · have c43 : (j_M_lives V a1) = 0 := c43
        rw [if_pos c43] at hp
        refine lv_iconst (v := 1) S.1 S.2.1 d_M_aimed_57 (by decide) ?_
        refine m_put_trap S hE hK hP hS tg_111 d_M_aimed_58 (fun H locs hP hS => ?_)
        refine lv_aload_n S.1 S.2.1 d_M_aimed_61 rfl (lv_at hl 0 rfl) ?_
        refine m_get_trap S hK hP tg_111 d_M_aimed_62 ?_
        refine lv_if_ne (tgt := 72) S.1 S.2.1 d_M_aimed_65 (by decide) (fun c65 => ?_) (fun c65 => ?_)
        · have c65 : ¬ ((1 : Int32) = (0 : Int32)) := c65
          refine lv_iconst (v := 0) S.1 S.2.1 d_M_aimed_72 (by decide) ?_
          rw [show j_M_aimed V a1 a2 a3 a4 = (0, t_trap V 1) from by rw [j_M_aimed, if_pos c2, if_pos c26, if_pos c43]]
          exact m_zret (v := 0) S hr hlk rfl hP hS d_M_aimed_73
        · have c65 : (1 : Int32) = (0 : Int32) := c65
          exact absurd c65 (by decide)
      · have c43 : ¬ ((j_M_lives V a1) = 0) := c43
        rw [if_neg c43] at hp
        refine lv_aload_n S.1 S.2.1 d_M_aimed_46 rfl (lv_at hl 0 rfl) ?_
        refine lv_iload_n S.1 S.2.1 d_M_aimed_47 rfl (lv_at hl 1 rfl) ?_
        refine lv_iload_n S.1 S.2.1 d_M_aimed_48 rfl (lv_at hl 2 rfl) ?_
        refine lv_iload S.1 S.2.1 d_M_aimed_49 (lv_at hl 4 rfl) ?_
        obtain ⟨o1, hp⟩ := hp
        refine m_callVi (As := [.int a1, .int a2, .int a4]) (rest := [.ref (ad 0)]) S hK ci_M_108 (c_M_touch l D ad cI cZ hE V a1 a2 a4 o1) (m_recM hK hP) hP hS ⟨rfl, rfl, Nat.le_of_ble_eq_true rfl, Nat.le_of_ble_eq_true rfl⟩ rfl hl.1 rfl (Nat.le_of_ble_eq_true rfl) d_M_aimed_51 (fun H locs hP hS => ?_)
        refine lv_goto (tgt := 58) S.1 S.2.1 d_M_aimed_54 (by decide) ?_
        refine m_put_trap S hE hK hP hS tg_111 d_M_aimed_58 (fun H locs hP hS => ?_)
        refine lv_aload_n S.1 S.2.1 d_M_aimed_61 rfl (lv_at hl 0 rfl) ?_
        refine m_get_trap S hK hP tg_111 d_M_aimed_62 ?_
        refine lv_if_ne (tgt := 72) S.1 S.2.1 d_M_aimed_65 (by decide) (fun c65 => ?_) (fun c65 => ?_)
        · have c65 : ¬ (((j_M_touch V a1 a2 a4).1) = 0) := c65
          refine lv_iconst (v := 0) S.1 S.2.1 d_M_aimed_72 (by decide) ?_
          rw [show j_M_aimed V a1 a2 a3 a4 = (0, t_trap ((j_M_touch V a1 a2 a4).2) ((j_M_touch V a1 a2 a4).1)) from by rw [j_M_aimed, if_pos c2, if_pos c26, if_neg c43, if_neg c65]]
          exact m_zret (v := 0) S hr hlk rfl hP hS d_M_aimed_73
        · have c65 : ((j_M_touch V a1 a2 a4).1) = 0 := c65
          refine lv_iconst (v := 1) S.1 S.2.1 d_M_aimed_68 (by decide) ?_
          refine lv_goto (tgt := 73) S.1 S.2.1 d_M_aimed_69 (by decide) ?_
          rw [show j_M_aimed V a1 a2 a3 a4 = (1, t_trap ((j_M_touch V a1 a2 a4).2) ((j_M_touch V a1 a2 a4).1)) from by rw [j_M_aimed, if_pos c2, if_pos c26, if_neg c43, if_pos c65]]
          exact m_zret (v := 1) S hr hlk rfl hP hS d_M_aimed_73
    · have c26 : ¬ ((a2 - a2 / a3 * a3) = 0) := c26
      rw [if_neg c26] at hp
      refine lv_aload_n S.1 S.2.1 d_M_aimed_29 rfl (lv_at hl 0 rfl) ?_
      refine lv_iconst (v := 2) S.1 S.2.1 d_M_aimed_30 (by decide) ?_
      refine m_put_trap S hE hK hP hS tg_111 d_M_aimed_31 (fun H locs hP hS => ?_)
      refine lv_goto (tgt := 61) S.1 S.2.1 d_M_aimed_34 (by decide) ?_
      refine lv_aload_n S.1 S.2.1 d_M_aimed_61 rfl (lv_at hl 0 rfl) ?_
      refine m_get_trap S hK hP tg_111 d_M_aimed_62 ?_
      refine lv_if_ne (tgt := 72) S.1 S.2.1 d_M_aimed_65 (by decide) (fun c65 => ?_) (fun c65 => ?_)
      · have c65 : ¬ ((2 : Int32) = (0 : Int32)) := c65
        refine lv_iconst (v := 0) S.1 S.2.1 d_M_aimed_72 (by decide) ?_
        rw [show j_M_aimed V a1 a2 a3 a4 = (0, t_trap V 2) from by rw [j_M_aimed, if_pos c2, if_neg c26]]
        exact m_zret (v := 0) S hr hlk rfl hP hS d_M_aimed_73
      · have c65 : (2 : Int32) = (0 : Int32) := c65
        exact absurd c65 (by decide)
  · have c2 : ¬ (a3 = 1) := c2
    rw [if_neg c2] at hp
    refine lv_iload_n S.1 S.2.1 d_M_aimed_5 rfl (lv_at hl 3 rfl) ?_
    refine lv_iconst (v := 2) S.1 S.2.1 d_M_aimed_6 (by decide) ?_
    refine lv_icmp_eq (tgt := 23) S.1 S.2.1 d_M_aimed_7 (by decide) (fun c7 => ?_) (fun c7 => ?_)
    · have c7 : a3 = 2 := c7
      rw [if_pos c7] at hp
      refine lv_iload_n S.1 S.2.1 d_M_aimed_23 rfl (lv_at hl 2 rfl) ?_
      refine lv_iload_n S.1 S.2.1 d_M_aimed_24 rfl (lv_at hl 3 rfl) ?_
      refine lv_irem S.1 S.2.1 d_M_aimed_25 (by rw [c7]; decide) ?_
      refine lv_if_eq (tgt := 37) S.1 S.2.1 d_M_aimed_26 (by decide) (fun c26 => ?_) (fun c26 => ?_)
      · have c26 : (a2 - a2 / a3 * a3) = 0 := c26
        rw [if_pos c26] at hp
        refine lv_aload_n S.1 S.2.1 d_M_aimed_37 rfl (lv_at hl 0 rfl) ?_
        refine lv_aload_n S.1 S.2.1 d_M_aimed_38 rfl (lv_at hl 0 rfl) ?_
        refine lv_iload_n S.1 S.2.1 d_M_aimed_39 rfl (lv_at hl 1 rfl) ?_
        refine m_callVi (As := [.int a1]) (rest := [.ref (ad 0)]) S hK ci_M_105 (c_M_lives l D ad cI cZ hE V a1) (m_recM hK hP) hP hS ⟨rfl, rfl, Nat.le_of_ble_eq_true rfl, Nat.le_of_ble_eq_true rfl⟩ rfl hl.1 rfl (Nat.le_of_ble_eq_true rfl) d_M_aimed_40 (fun H locs hP hS => ?_)
        refine lv_if_eq (tgt := 57) S.1 S.2.1 d_M_aimed_43 (by decide) (fun c43 => ?_) (fun c43 => ?_)
        · have c43 : (j_M_lives V a1) = 0 := c43
          rw [if_pos c43] at hp
          refine lv_iconst (v := 1) S.1 S.2.1 d_M_aimed_57 (by decide) ?_
          refine m_put_trap S hE hK hP hS tg_111 d_M_aimed_58 (fun H locs hP hS => ?_)
          refine lv_aload_n S.1 S.2.1 d_M_aimed_61 rfl (lv_at hl 0 rfl) ?_
          refine m_get_trap S hK hP tg_111 d_M_aimed_62 ?_
          refine lv_if_ne (tgt := 72) S.1 S.2.1 d_M_aimed_65 (by decide) (fun c65 => ?_) (fun c65 => ?_)
          · have c65 : ¬ ((1 : Int32) = (0 : Int32)) := c65
            refine lv_iconst (v := 0) S.1 S.2.1 d_M_aimed_72 (by decide) ?_
            rw [show j_M_aimed V a1 a2 a3 a4 = (0, t_trap V 1) from by rw [j_M_aimed, if_neg c2, if_pos c7, if_pos c26, if_pos c43]]
            exact m_zret (v := 0) S hr hlk rfl hP hS d_M_aimed_73
          · have c65 : (1 : Int32) = (0 : Int32) := c65
            exact absurd c65 (by decide)
        · have c43 : ¬ ((j_M_lives V a1) = 0) := c43
          rw [if_neg c43] at hp
          refine lv_aload_n S.1 S.2.1 d_M_aimed_46 rfl (lv_at hl 0 rfl) ?_
          refine lv_iload_n S.1 S.2.1 d_M_aimed_47 rfl (lv_at hl 1 rfl) ?_
          refine lv_iload_n S.1 S.2.1 d_M_aimed_48 rfl (lv_at hl 2 rfl) ?_
          refine lv_iload S.1 S.2.1 d_M_aimed_49 (lv_at hl 4 rfl) ?_
          obtain ⟨o2, hp⟩ := hp
          refine m_callVi (As := [.int a1, .int a2, .int a4]) (rest := [.ref (ad 0)]) S hK ci_M_108 (c_M_touch l D ad cI cZ hE V a1 a2 a4 o2) (m_recM hK hP) hP hS ⟨rfl, rfl, Nat.le_of_ble_eq_true rfl, Nat.le_of_ble_eq_true rfl⟩ rfl hl.1 rfl (Nat.le_of_ble_eq_true rfl) d_M_aimed_51 (fun H locs hP hS => ?_)
          refine lv_goto (tgt := 58) S.1 S.2.1 d_M_aimed_54 (by decide) ?_
          refine m_put_trap S hE hK hP hS tg_111 d_M_aimed_58 (fun H locs hP hS => ?_)
          refine lv_aload_n S.1 S.2.1 d_M_aimed_61 rfl (lv_at hl 0 rfl) ?_
          refine m_get_trap S hK hP tg_111 d_M_aimed_62 ?_
          refine lv_if_ne (tgt := 72) S.1 S.2.1 d_M_aimed_65 (by decide) (fun c65 => ?_) (fun c65 => ?_)
          · have c65 : ¬ (((j_M_touch V a1 a2 a4).1) = 0) := c65
            refine lv_iconst (v := 0) S.1 S.2.1 d_M_aimed_72 (by decide) ?_
            rw [show j_M_aimed V a1 a2 a3 a4 = (0, t_trap ((j_M_touch V a1 a2 a4).2) ((j_M_touch V a1 a2 a4).1)) from by rw [j_M_aimed, if_neg c2, if_pos c7, if_pos c26, if_neg c43, if_neg c65]]
            exact m_zret (v := 0) S hr hlk rfl hP hS d_M_aimed_73
          · have c65 : ((j_M_touch V a1 a2 a4).1) = 0 := c65
            refine lv_iconst (v := 1) S.1 S.2.1 d_M_aimed_68 (by decide) ?_
            refine lv_goto (tgt := 73) S.1 S.2.1 d_M_aimed_69 (by decide) ?_
            rw [show j_M_aimed V a1 a2 a3 a4 = (1, t_trap ((j_M_touch V a1 a2 a4).2) ((j_M_touch V a1 a2 a4).1)) from by rw [j_M_aimed, if_neg c2, if_pos c7, if_pos c26, if_neg c43, if_pos c65]]
            exact m_zret (v := 1) S hr hlk rfl hP hS d_M_aimed_73
      · have c26 : ¬ ((a2 - a2 / a3 * a3) = 0) := c26
        rw [if_neg c26] at hp
        refine lv_aload_n S.1 S.2.1 d_M_aimed_29 rfl (lv_at hl 0 rfl) ?_
        refine lv_iconst (v := 2) S.1 S.2.1 d_M_aimed_30 (by decide) ?_
        refine m_put_trap S hE hK hP hS tg_111 d_M_aimed_31 (fun H locs hP hS => ?_)
        refine lv_goto (tgt := 61) S.1 S.2.1 d_M_aimed_34 (by decide) ?_
        refine lv_aload_n S.1 S.2.1 d_M_aimed_61 rfl (lv_at hl 0 rfl) ?_
        refine m_get_trap S hK hP tg_111 d_M_aimed_62 ?_
        refine lv_if_ne (tgt := 72) S.1 S.2.1 d_M_aimed_65 (by decide) (fun c65 => ?_) (fun c65 => ?_)
        · have c65 : ¬ ((2 : Int32) = (0 : Int32)) := c65
          refine lv_iconst (v := 0) S.1 S.2.1 d_M_aimed_72 (by decide) ?_
          rw [show j_M_aimed V a1 a2 a3 a4 = (0, t_trap V 2) from by rw [j_M_aimed, if_neg c2, if_pos c7, if_neg c26]]
          exact m_zret (v := 0) S hr hlk rfl hP hS d_M_aimed_73
        · have c65 : (2 : Int32) = (0 : Int32) := c65
          exact absurd c65 (by decide)
    · have c7 : ¬ (a3 = 2) := c7
      rw [if_neg c7] at hp
      refine lv_iload_n S.1 S.2.1 d_M_aimed_10 rfl (lv_at hl 3 rfl) ?_
      refine lv_iconst (v := 4) S.1 S.2.1 d_M_aimed_11 (by decide) ?_
      refine lv_icmp_eq (tgt := 23) S.1 S.2.1 d_M_aimed_12 (by decide) (fun c12 => ?_) (fun c12 => ?_)
      · have c12 : a3 = 4 := c12
        rw [if_pos c12] at hp
        refine lv_iload_n S.1 S.2.1 d_M_aimed_23 rfl (lv_at hl 2 rfl) ?_
        refine lv_iload_n S.1 S.2.1 d_M_aimed_24 rfl (lv_at hl 3 rfl) ?_
        refine lv_irem S.1 S.2.1 d_M_aimed_25 (by rw [c12]; decide) ?_
        refine lv_if_eq (tgt := 37) S.1 S.2.1 d_M_aimed_26 (by decide) (fun c26 => ?_) (fun c26 => ?_)
        · have c26 : (a2 - a2 / a3 * a3) = 0 := c26
          rw [if_pos c26] at hp
          refine lv_aload_n S.1 S.2.1 d_M_aimed_37 rfl (lv_at hl 0 rfl) ?_
          refine lv_aload_n S.1 S.2.1 d_M_aimed_38 rfl (lv_at hl 0 rfl) ?_
          refine lv_iload_n S.1 S.2.1 d_M_aimed_39 rfl (lv_at hl 1 rfl) ?_
          refine m_callVi (As := [.int a1]) (rest := [.ref (ad 0)]) S hK ci_M_105 (c_M_lives l D ad cI cZ hE V a1) (m_recM hK hP) hP hS ⟨rfl, rfl, Nat.le_of_ble_eq_true rfl, Nat.le_of_ble_eq_true rfl⟩ rfl hl.1 rfl (Nat.le_of_ble_eq_true rfl) d_M_aimed_40 (fun H locs hP hS => ?_)
          refine lv_if_eq (tgt := 57) S.1 S.2.1 d_M_aimed_43 (by decide) (fun c43 => ?_) (fun c43 => ?_)
          · have c43 : (j_M_lives V a1) = 0 := c43
            rw [if_pos c43] at hp
            refine lv_iconst (v := 1) S.1 S.2.1 d_M_aimed_57 (by decide) ?_
            refine m_put_trap S hE hK hP hS tg_111 d_M_aimed_58 (fun H locs hP hS => ?_)
            refine lv_aload_n S.1 S.2.1 d_M_aimed_61 rfl (lv_at hl 0 rfl) ?_
            refine m_get_trap S hK hP tg_111 d_M_aimed_62 ?_
            refine lv_if_ne (tgt := 72) S.1 S.2.1 d_M_aimed_65 (by decide) (fun c65 => ?_) (fun c65 => ?_)
            · have c65 : ¬ ((1 : Int32) = (0 : Int32)) := c65
              refine lv_iconst (v := 0) S.1 S.2.1 d_M_aimed_72 (by decide) ?_
              rw [show j_M_aimed V a1 a2 a3 a4 = (0, t_trap V 1) from by rw [j_M_aimed, if_neg c2, if_neg c7, if_pos c12, if_pos c26, if_pos c43]]
              exact m_zret (v := 0) S hr hlk rfl hP hS d_M_aimed_73
            · have c65 : (1 : Int32) = (0 : Int32) := c65
              exact absurd c65 (by decide)
          · have c43 : ¬ ((j_M_lives V a1) = 0) := c43
            rw [if_neg c43] at hp
            refine lv_aload_n S.1 S.2.1 d_M_aimed_46 rfl (lv_at hl 0 rfl) ?_
            refine lv_iload_n S.1 S.2.1 d_M_aimed_47 rfl (lv_at hl 1 rfl) ?_
            refine lv_iload_n S.1 S.2.1 d_M_aimed_48 rfl (lv_at hl 2 rfl) ?_
            refine lv_iload S.1 S.2.1 d_M_aimed_49 (lv_at hl 4 rfl) ?_
            obtain ⟨o3, hp⟩ := hp
            refine m_callVi (As := [.int a1, .int a2, .int a4]) (rest := [.ref (ad 0)]) S hK ci_M_108 (c_M_touch l D ad cI cZ hE V a1 a2 a4 o3) (m_recM hK hP) hP hS ⟨rfl, rfl, Nat.le_of_ble_eq_true rfl, Nat.le_of_ble_eq_true rfl⟩ rfl hl.1 rfl (Nat.le_of_ble_eq_true rfl) d_M_aimed_51 (fun H locs hP hS => ?_)
            refine lv_goto (tgt := 58) S.1 S.2.1 d_M_aimed_54 (by decide) ?_
            refine m_put_trap S hE hK hP hS tg_111 d_M_aimed_58 (fun H locs hP hS => ?_)
            refine lv_aload_n S.1 S.2.1 d_M_aimed_61 rfl (lv_at hl 0 rfl) ?_
            refine m_get_trap S hK hP tg_111 d_M_aimed_62 ?_
            refine lv_if_ne (tgt := 72) S.1 S.2.1 d_M_aimed_65 (by decide) (fun c65 => ?_) (fun c65 => ?_)
            · have c65 : ¬ (((j_M_touch V a1 a2 a4).1) = 0) := c65
              refine lv_iconst (v := 0) S.1 S.2.1 d_M_aimed_72 (by decide) ?_
              rw [show j_M_aimed V a1 a2 a3 a4 = (0, t_trap ((j_M_touch V a1 a2 a4).2) ((j_M_touch V a1 a2 a4).1)) from by rw [j_M_aimed, if_neg c2, if_neg c7, if_pos c12, if_pos c26, if_neg c43, if_neg c65]]
              exact m_zret (v := 0) S hr hlk rfl hP hS d_M_aimed_73
            · have c65 : ((j_M_touch V a1 a2 a4).1) = 0 := c65
              refine lv_iconst (v := 1) S.1 S.2.1 d_M_aimed_68 (by decide) ?_
              refine lv_goto (tgt := 73) S.1 S.2.1 d_M_aimed_69 (by decide) ?_
              rw [show j_M_aimed V a1 a2 a3 a4 = (1, t_trap ((j_M_touch V a1 a2 a4).2) ((j_M_touch V a1 a2 a4).1)) from by rw [j_M_aimed, if_neg c2, if_neg c7, if_pos c12, if_pos c26, if_neg c43, if_pos c65]]
              exact m_zret (v := 1) S hr hlk rfl hP hS d_M_aimed_73
        · have c26 : ¬ ((a2 - a2 / a3 * a3) = 0) := c26
          rw [if_neg c26] at hp
          refine lv_aload_n S.1 S.2.1 d_M_aimed_29 rfl (lv_at hl 0 rfl) ?_
          refine lv_iconst (v := 2) S.1 S.2.1 d_M_aimed_30 (by decide) ?_
          refine m_put_trap S hE hK hP hS tg_111 d_M_aimed_31 (fun H locs hP hS => ?_)
          refine lv_goto (tgt := 61) S.1 S.2.1 d_M_aimed_34 (by decide) ?_
          refine lv_aload_n S.1 S.2.1 d_M_aimed_61 rfl (lv_at hl 0 rfl) ?_
          refine m_get_trap S hK hP tg_111 d_M_aimed_62 ?_
          refine lv_if_ne (tgt := 72) S.1 S.2.1 d_M_aimed_65 (by decide) (fun c65 => ?_) (fun c65 => ?_)
          · have c65 : ¬ ((2 : Int32) = (0 : Int32)) := c65
            refine lv_iconst (v := 0) S.1 S.2.1 d_M_aimed_72 (by decide) ?_
            rw [show j_M_aimed V a1 a2 a3 a4 = (0, t_trap V 2) from by rw [j_M_aimed, if_neg c2, if_neg c7, if_pos c12, if_neg c26]]
            exact m_zret (v := 0) S hr hlk rfl hP hS d_M_aimed_73
          · have c65 : (2 : Int32) = (0 : Int32) := c65
            exact absurd c65 (by decide)
      · have c12 : ¬ (a3 = 4) := c12
        rw [if_neg c12] at hp
        refine lv_aload_n S.1 S.2.1 d_M_aimed_15 rfl (lv_at hl 0 rfl) ?_
        refine lv_iconst (v := 2) S.1 S.2.1 d_M_aimed_16 (by decide) ?_
        refine m_put_trap S hE hK hP hS tg_111 d_M_aimed_17 (fun H locs hP hS => ?_)
        refine lv_goto (tgt := 61) S.1 S.2.1 d_M_aimed_20 (by decide) ?_
        refine lv_aload_n S.1 S.2.1 d_M_aimed_61 rfl (lv_at hl 0 rfl) ?_
        refine m_get_trap S hK hP tg_111 d_M_aimed_62 ?_
        refine lv_if_ne (tgt := 72) S.1 S.2.1 d_M_aimed_65 (by decide) (fun c65 => ?_) (fun c65 => ?_)
        · have c65 : ¬ ((2 : Int32) = (0 : Int32)) := c65
          refine lv_iconst (v := 0) S.1 S.2.1 d_M_aimed_72 (by decide) ?_
          rw [show j_M_aimed V a1 a2 a3 a4 = (0, t_trap V 2) from by rw [j_M_aimed, if_neg c2, if_neg c7, if_neg c12]]
          exact m_zret (v := 0) S hr hlk rfl hP hS d_M_aimed_73
        · have c65 : (2 : Int32) = (0 : Int32) := c65
          exact absurd c65 (by decide)
def j_M_walk_h8 : Nat → MS → Int32 → Int32 → Int32 → Int32 → Int32 → Int32 × MS
  | 0, V, _, _, _, _, _ => (0, V)
  | f + 1, V, a1, a2, a3, a4, x5 =>
      if a3 ≤ x5 then
        (a3, V)
      else
        if (j_M_lives V a1) = 0 then
          (x5, t_trap V 1)
        else
          if ((j_M_touch V a1 (a2 + x5) a4).1) = 0 then
            j_M_walk_h8 f (t_trap ((j_M_touch V a1 (a2 + x5) a4).2) ((j_M_touch V a1 (a2 + x5) a4).1)) a1 a2 a3 a4 (x5 + 1)
          else
            (x5, t_trap ((j_M_touch V a1 (a2 + x5) a4).2) ((j_M_touch V a1 (a2 + x5) a4).1))
def p_M_walk_h8 : Nat → MS → Int32 → Int32 → Int32 → Int32 → Int32 → Prop
  | 0, _, _, _, _, _, _ => True
  | f + 1, V, a1, a2, a3, a4, x5 =>
      if a3 ≤ x5 then
        True
      else
        if (j_M_lives V a1) = 0 then
          True
        else
          (p_M_touch V a1 (a2 + x5) a4) ∧ (
            if ((j_M_touch V a1 (a2 + x5) a4).1) = 0 then
              p_M_walk_h8 f (t_trap ((j_M_touch V a1 (a2 + x5) a4).2) ((j_M_touch V a1 (a2 + x5) a4).1)) a1 a2 a3 a4 (x5 + 1)
            else
              True)
set_option maxHeartbeats 4000000 in
set_option maxRecDepth 100000 in
theorem w_M_walk_h8 (hE : mE ad) {p : Program} {e : Env} {s : State} {m : MethodId} {args : Array Value} {below : List Frame} {meth : Method} {c : Code} (S : CallFix p m c b_M_walk 6 s args TG "PageVaultModel") (hr : meth.sig.returnType = some .int) (hlk : meth.locks = false) (hK : mK D cI cZ s) :
    ∀ (f i : Nat) (a1 a2 a3 a4 x5 : Int32) (V : MS) (H : Heap) (locs : List Loc) (ls : Array Slot), x5 = nI i → i < 2 ^ 31 → a3.toNatClampNeg - i < f → p_M_walk_h8 f V a1 a2 a3 a4 x5 → MP D ad cI cZ (V) H → va_S (iA ad mN) s.heap H locs → lv_has ls 6 [(0, .ref (ad 0)), (1, .int a1), (2, .int a2), (3, .int a3), (4, .int a4), (5, .int x5)] → W p l e ({ frames := 4, cells := 0, slots := 0, locals := 94 }) s m args below meth c H locs 0 0 (MQ below (gPost D ad mN (some (.int (j_M_walk_h8 f V a1 a2 a3 a4 x5).1)) (mc ad cI cZ ((j_M_walk_h8 f V a1 a2 a3 a4 x5).2))) args s 0 0 (iA ad mN)) (F0 m 8 ls []) := by
  intro f
  induction f with
  | zero =>
    intro i a1 a2 a3 a4 x5 V H locs ls ek hi hf hp hP hS hl
    exact absurd hf (Nat.not_lt_zero _)
  | succ f ih =>
    intro i a1 a2 a3 a4 x5 V H locs ls ek hi hf hp hP hS hl
    rw [p_M_walk_h8] at hp
    refine lv_iload S.1 S.2.1 d_M_walk_8 (lv_at hl 5 rfl) ?_
    refine lv_iload_n S.1 S.2.1 d_M_walk_10 rfl (lv_at hl 3 rfl) ?_
    refine lv_icmp_ge (tgt := 57) S.1 S.2.1 d_M_walk_11 (by decide) (fun c11 => ?_) (fun c11 => ?_)
    · have c11 : a3 ≤ x5 := c11
      rw [if_pos c11] at hp
      refine lv_iload_n S.1 S.2.1 d_M_walk_57 rfl (lv_at hl 3 rfl) ?_
      rw [show j_M_walk_h8 (f + 1) V a1 a2 a3 a4 x5 = (a3, V) from by rw [j_M_walk_h8, if_pos c11]]
      exact m_iret S hr hlk hP hS d_M_walk_58
    · have c11 : ¬ (a3 ≤ x5) := c11
      rw [if_neg c11] at hp
      refine lv_aload_n S.1 S.2.1 d_M_walk_14 rfl (lv_at hl 0 rfl) ?_
      refine lv_aload_n S.1 S.2.1 d_M_walk_15 rfl (lv_at hl 0 rfl) ?_
      refine lv_iload_n S.1 S.2.1 d_M_walk_16 rfl (lv_at hl 1 rfl) ?_
      refine m_callVi (As := [.int a1]) (rest := [.ref (ad 0)]) S hK ci_M_105 (c_M_lives l D ad cI cZ hE V a1) (m_recM hK hP) hP hS ⟨rfl, rfl, Nat.le_of_ble_eq_true rfl, Nat.le_of_ble_eq_true rfl⟩ rfl hl.1 rfl (Nat.le_of_ble_eq_true rfl) d_M_walk_17 (fun H locs hP hS => ?_)
      refine lv_if_eq (tgt := 37) S.1 S.2.1 d_M_walk_20 (by decide) (fun c20 => ?_) (fun c20 => ?_)
      · have c20 : (j_M_lives V a1) = 0 := c20
        rw [if_pos c20] at hp
        refine lv_iconst (v := 1) S.1 S.2.1 d_M_walk_37 (by decide) ?_
        refine m_put_trap S hE hK hP hS tg_111 d_M_walk_38 (fun H locs hP hS => ?_)
        refine lv_aload_n S.1 S.2.1 d_M_walk_41 rfl (lv_at hl 0 rfl) ?_
        refine m_get_trap S hK hP tg_111 d_M_walk_42 ?_
        refine lv_if_eq (tgt := 51) S.1 S.2.1 d_M_walk_45 (by decide) (fun c45 => ?_) (fun c45 => ?_)
        · have c45 : (1 : Int32) = (0 : Int32) := c45
          exact absurd c45 (by decide)
        · have c45 : ¬ ((1 : Int32) = (0 : Int32)) := c45
          refine lv_iload S.1 S.2.1 d_M_walk_48 (lv_at hl 5 rfl) ?_
          rw [show j_M_walk_h8 (f + 1) V a1 a2 a3 a4 x5 = (x5, t_trap V 1) from by rw [j_M_walk_h8, if_neg c11, if_pos c20]]
          exact m_iret S hr hlk hP hS d_M_walk_50
      · have c20 : ¬ ((j_M_lives V a1) = 0) := c20
        rw [if_neg c20] at hp
        refine lv_aload_n S.1 S.2.1 d_M_walk_23 rfl (lv_at hl 0 rfl) ?_
        refine lv_iload_n S.1 S.2.1 d_M_walk_24 rfl (lv_at hl 1 rfl) ?_
        refine lv_iload_n S.1 S.2.1 d_M_walk_25 rfl (lv_at hl 2 rfl) ?_
        refine lv_iload S.1 S.2.1 d_M_walk_26 (lv_at hl 5 rfl) ?_
        refine lv_iadd S.1 S.2.1 d_M_walk_28 ?_
        refine lv_iload S.1 S.2.1 d_M_walk_29 (lv_at hl 4 rfl) ?_
        obtain ⟨o1, hp⟩ := hp
        refine m_callVi (As := [.int a1, .int (a2 + x5), .int a4]) (rest := [.ref (ad 0)]) S hK ci_M_108 (c_M_touch l D ad cI cZ hE V a1 (a2 + x5) a4 o1) (m_recM hK hP) hP hS ⟨rfl, rfl, Nat.le_of_ble_eq_true rfl, Nat.le_of_ble_eq_true rfl⟩ rfl hl.1 rfl (Nat.le_of_ble_eq_true rfl) d_M_walk_31 (fun H locs hP hS => ?_)
        refine lv_goto (tgt := 38) S.1 S.2.1 d_M_walk_34 (by decide) ?_
        refine m_put_trap S hE hK hP hS tg_111 d_M_walk_38 (fun H locs hP hS => ?_)
        refine lv_aload_n S.1 S.2.1 d_M_walk_41 rfl (lv_at hl 0 rfl) ?_
        refine m_get_trap S hK hP tg_111 d_M_walk_42 ?_
        refine lv_if_eq (tgt := 51) S.1 S.2.1 d_M_walk_45 (by decide) (fun c45 => ?_) (fun c45 => ?_)
        · have c45 : ((j_M_touch V a1 (a2 + x5) a4).1) = 0 := c45
          rw [if_pos c45] at hp
          refine lv_iinc (v := x5 + 1) (lv' := [(5, .int (x5 + 1)), (0, .ref (ad 0)), (1, .int a1), (2, .int a2), (3, .int a3), (4, .int a4)]) S.1 S.2.1 d_M_walk_51 hl (k := 5) rfl rfl (by decide) rfl (fun ls hl => ?_)
          refine lv_goto (tgt := 8) S.1 S.2.1 d_M_walk_54 (by decide) ?_
          have hB := lp_lc ek hi c11
          have hC := clamp_lt a3
          rw [show j_M_walk_h8 (f + 1) V a1 a2 a3 a4 x5 = j_M_walk_h8 f (t_trap ((j_M_touch V a1 (a2 + x5) a4).2) ((j_M_touch V a1 (a2 + x5) a4).1)) a1 a2 a3 a4 (x5 + 1) from by rw [j_M_walk_h8, if_neg c11, if_neg c20, if_pos c45]]
          exact ih (i + 1) a1 a2 a3 a4 (x5 + 1) (t_trap ((j_M_touch V a1 (a2 + x5) a4).2) ((j_M_touch V a1 (a2 + x5) a4).1)) _ _ _ (by rw [ek]; exact nI_1 i) (by omega) (by omega) hp hP hS (lv_sub hl [1, 2, 3, 4, 5, 0] rfl)
        · have c45 : ¬ (((j_M_touch V a1 (a2 + x5) a4).1) = 0) := c45
          rw [if_neg c45] at hp
          refine lv_iload S.1 S.2.1 d_M_walk_48 (lv_at hl 5 rfl) ?_
          rw [show j_M_walk_h8 (f + 1) V a1 a2 a3 a4 x5 = (x5, t_trap ((j_M_touch V a1 (a2 + x5) a4).2) ((j_M_touch V a1 (a2 + x5) a4).1)) from by rw [j_M_walk_h8, if_neg c11, if_neg c20, if_neg c45]]
          exact m_iret S hr hlk hP hS d_M_walk_50
end MW
