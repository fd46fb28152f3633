section MW
variable (l : Launch) (D : va_G) (ad : Nat → Nat) (cI cZ : ClassId)
/-- PageVaultModel.note(IIIII)V -/
def j_M_note (V : MS) (a1 : Int32) (a2 : Int32) (a3 : Int32) (a4 : Int32) (a5 : Int32) : MS :=
  t_deeds (t_what (t_much (t_where (t_who (t_deed V ((m_deeds V).toNatClampNeg) a1) ((m_deeds V).toNatClampNeg) a2) ((m_deeds V).toNatClampNeg) a3) ((m_deeds V).toNatClampNeg) a4) ((m_deeds V).toNatClampNeg) a5) ((m_deeds V) + 1)
/-- what it needs -/
def p_M_note (V : MS) (a1 : Int32) (a2 : Int32) (a3 : Int32) (a4 : Int32) (a5 : Int32) : Prop :=
  (vp_in (m_deeds V) 1536) ∧ (
    True)
set_option maxHeartbeats 4000000 in
set_option maxRecDepth 100000 in
theorem c_M_note (hE : mE ad) (V : MS) (a1 : Int32) (a2 : Int32) (a3 : Int32) (a4 : Int32) (a5 : Int32) (hp : p_M_note V a1 a2 a3 a4 a5) : MC l D ad cI cZ y_M_note b_M_note 6 none ({ frames := 0, cells := 0, slots := 0, locals := 0 }) [.ref (ad 0), .int a1, .int a2, .int a3, .int a4, .int a5] V none (j_M_note V a1 a2 a3 a4 a5) := by
  refine FC_intro (by decide) (Nat.le_of_ble_eq_true rfl) ?_
  intro p e s m below meth c ls S hr hlk hK hP hS hl
  have S : CallFix p m c b_M_note 6 s _ TG "PageVaultModel" := S
  have hl : lv_has ls 6 [(0, .ref (ad 0)), (1, .int a1), (2, .int a2), (3, .int a3), (4, .int a4), (5, .int a5)] := hl
  rw [p_M_note] at hp
  refine lv_aload_n S.1 S.2.1 d_M_note_0 rfl (lv_at hl 0 rfl) ?_
  refine m_get_deed S hK hP tg_60 d_M_note_1 ?_
  refine lv_aload_n S.1 S.2.1 d_M_note_4 rfl (lv_at hl 0 rfl) ?_
  refine m_get_deeds S hK hP tg_66 d_M_note_5 ?_
  refine lv_iload_n S.1 S.2.1 d_M_note_8 rfl (lv_at hl 1 rfl) ?_
  obtain ⟨o1, hp⟩ := hp
  refine m_ast_deed S hE hK hP hS o1 d_M_note_9 (fun H locs hP hS => ?_)
  refine lv_aload_n S.1 S.2.1 d_M_note_10 rfl (lv_at hl 0 rfl) ?_
  refine m_get_who S hK hP tg_61 d_M_note_11 ?_
  refine lv_aload_n S.1 S.2.1 d_M_note_14 rfl (lv_at hl 0 rfl) ?_
  refine m_get_deeds S hK hP tg_66 d_M_note_15 ?_
  refine lv_iload_n S.1 S.2.1 d_M_note_18 rfl (lv_at hl 2 rfl) ?_
  refine m_ast_who S hE hK hP hS o1 d_M_note_19 (fun H locs hP hS => ?_)
  refine lv_aload_n S.1 S.2.1 d_M_note_20 rfl (lv_at hl 0 rfl) ?_
  refine m_get_where S hK hP tg_62 d_M_note_21 ?_
  refine lv_aload_n S.1 S.2.1 d_M_note_24 rfl (lv_at hl 0 rfl) ?_
  refine m_get_deeds S hK hP tg_66 d_M_note_25 ?_
  refine lv_iload_n S.1 S.2.1 d_M_note_28 rfl (lv_at hl 3 rfl) ?_
  refine m_ast_where S hE hK hP hS o1 d_M_note_29 (fun H locs hP hS => ?_)
  refine lv_aload_n S.1 S.2.1 d_M_note_30 rfl (lv_at hl 0 rfl) ?_
  refine m_get_much S hK hP tg_63 d_M_note_31 ?_
  refine lv_aload_n S.1 S.2.1 d_M_note_34 rfl (lv_at hl 0 rfl) ?_
  refine m_get_deeds S hK hP tg_66 d_M_note_35 ?_
  refine lv_iload S.1 S.2.1 d_M_note_38 (lv_at hl 4 rfl) ?_
  refine m_ast_much S hE hK hP hS o1 d_M_note_40 (fun H locs hP hS => ?_)
  refine lv_aload_n S.1 S.2.1 d_M_note_41 rfl (lv_at hl 0 rfl) ?_
  refine m_get_what S hK hP tg_64 d_M_note_42 ?_
  refine lv_aload_n S.1 S.2.1 d_M_note_45 rfl (lv_at hl 0 rfl) ?_
  refine m_get_deeds S hK hP tg_66 d_M_note_46 ?_
  refine lv_iload S.1 S.2.1 d_M_note_49 (lv_at hl 5 rfl) ?_
  refine m_ast_what S hE hK hP hS o1 d_M_note_51 (fun H locs hP hS => ?_)
  refine lv_aload_n S.1 S.2.1 d_M_note_52 rfl (lv_at hl 0 rfl) ?_
  refine lv_dup S.1 S.2.1 d_M_note_53 rfl ?_
  refine m_get_deeds S hK hP tg_66 d_M_note_54 ?_
  refine lv_iconst (v := 1) S.1 S.2.1 d_M_note_57 (by decide) ?_
  refine lv_iadd S.1 S.2.1 d_M_note_58 ?_
  refine m_put_deeds S hE hK hP hS tg_66 d_M_note_59 (fun H locs hP hS => ?_)
  rw [show j_M_note V a1 a2 a3 a4 a5 = t_deeds (t_what (t_much (t_where (t_who (t_deed V ((m_deeds V).toNatClampNeg) a1) ((m_deeds V).toNatClampNeg) a2) ((m_deeds V).toNatClampNeg) a3) ((m_deeds V).toNatClampNeg) a4) ((m_deeds V).toNatClampNeg) a5) ((m_deeds V) + 1) from by rw [j_M_note]]
  exact m_vret S hr hlk hP hS d_M_note_62
def j_M_byteOf_h39 (V : MS) (x3 : Int32) (x4 : Int32) (x5 : Int32) (x6 : Int32) (x7 : Int32) : Int32 :=
  if x7 < 0 then
    0
  else
    if (m_much V x5.toNatClampNeg) ≤ x7 then
      0
    else
      1
def p_M_byteOf_h39 (V : MS) (x3 : Int32) (x4 : Int32) (x5 : Int32) (x6 : Int32) (x7 : Int32) : Prop :=
  if x7 < 0 then
    True
  else
    (vp_in x5 1536) ∧ (
      True)
set_option maxHeartbeats 4000000 in
set_option maxRecDepth 100000 in
theorem w_M_byteOf_h39 (hE : mE ad) {p : Program} {e : Env} {s : State} {m : MethodId} {args : Array Value} {below : List Frame} {meth : Method} {c : Code} {Q : State → Prop} (S : CallFix p m c b_M_byteOf 9 s args TG "PageVaultModel") (hK : mK D cI cZ s) :
    ∀ (x3 x4 x5 x6 x7 : Int32) (V : MS) (H : Heap) (locs : List Loc) (ls : Array Slot), p_M_byteOf_h39 V x3 x4 x5 x6 x7 → MP D ad cI cZ (V) H → va_S (iA ad mN) s.heap H locs → lv_has ls 9 [(0, .ref (ad 0)), (3, .int x3), (4, .int x4), (5, .int x5), (6, .int x6), (7, .int x7)] → (∀ (H1 : Heap) (locs1 : List Loc) (ls1 : Array Slot), MP D ad cI cZ (V) H1 → va_S (iA ad mN) s.heap H1 locs1 → lv_has ls1 9 [(0, .ref (ad 0)), (3, .int x3), (4, .int x4), (5, .int x5), (6, .int x6), (7, .int x7), (8, .int (j_M_byteOf_h39 V x3 x4 x5 x6 x7))] → W p l e ({ frames := 0, cells := 0, slots := 0, locals := 0 }) s m args below meth c H1 locs1 0 0 Q (F0 m 63 ls1 [])) → W p l e ({ frames := 0, cells := 0, slots := 0, locals := 0 }) s m args below meth c H locs 0 0 Q (F0 m 39 ls []) := by
  intro x3 x4 x5 x6 x7 V H locs ls hp hP hS hl kx
  rw [p_M_byteOf_h39] at hp
  refine lv_iload S.1 S.2.1 d_M_byteOf_39 (lv_at hl 5 rfl) ?_
  refine lv_if_lt (tgt := 60) S.1 S.2.1 d_M_byteOf_41 (by decide) (fun c41 => ?_) (fun c41 => ?_)
  · have c41 : x7 < 0 := c41
    rw [if_pos c41] at hp
    refine lv_iconst (v := 0) S.1 S.2.1 d_M_byteOf_60 (by decide) ?_
    refine lv_istore (lv' := [(8, .int 0), (0, .ref (ad 0)), (3, .int x3), (4, .int x4), (5, .int x5), (6, .int x6), (7, .int x7)]) S.1 S.2.1 d_M_byteOf_61 hl (by decide) rfl (fun ls hl => ?_)
    exact kx _ _ _ hP hS (by rw [show j_M_byteOf_h39 V x3 x4 x5 x6 x7 = 0 from by rw [j_M_byteOf_h39, if_pos c41]]; exact lv_sub hl [1, 2, 3, 4, 5, 6, 0] rfl)
  · have c41 : ¬ (x7 < 0) := c41
    rw [if_neg c41] at hp
    refine lv_iload S.1 S.2.1 d_M_byteOf_44 (lv_at hl 5 rfl) ?_
    refine lv_aload_n S.1 S.2.1 d_M_byteOf_46 rfl (lv_at hl 0 rfl) ?_
    refine m_get_much S hK hP tg_63 d_M_byteOf_47 ?_
    refine lv_iload S.1 S.2.1 d_M_byteOf_50 (lv_at hl 3 rfl) ?_
    obtain ⟨o1, hp⟩ := hp
    refine m_ald_much S hK hP o1 d_M_byteOf_52 ?_
    refine lv_icmp_ge (tgt := 60) S.1 S.2.1 d_M_byteOf_53 (by decide) (fun c53 => ?_) (fun c53 => ?_)
    · have c53 : (m_much V x5.toNatClampNeg) ≤ x7 := c53
      refine lv_iconst (v := 0) S.1 S.2.1 d_M_byteOf_60 (by decide) ?_
      refine lv_istore (lv' := [(8, .int 0), (0, .ref (ad 0)), (3, .int x3), (4, .int x4), (5, .int x5), (6, .int x6), (7, .int x7)]) S.1 S.2.1 d_M_byteOf_61 hl (by decide) rfl (fun ls hl => ?_)
      exact kx _ _ _ hP hS (by rw [show j_M_byteOf_h39 V x3 x4 x5 x6 x7 = 0 from by rw [j_M_byteOf_h39, if_neg c41, if_pos c53]]; exact lv_sub hl [1, 2, 3, 4, 5, 6, 0] rfl)
    · have c53 : ¬ ((m_much V x5.toNatClampNeg) ≤ x7) := c53
      refine lv_iconst (v := 1) S.1 S.2.1 d_M_byteOf_56 (by decide) ?_
      refine lv_goto (tgt := 61) S.1 S.2.1 d_M_byteOf_57 (by decide) ?_
      refine lv_istore (lv' := [(8, .int 1), (0, .ref (ad 0)), (3, .int x3), (4, .int x4), (5, .int x5), (6, .int x6), (7, .int x7)]) S.1 S.2.1 d_M_byteOf_61 hl (by decide) rfl (fun ls hl => ?_)
      exact kx _ _ _ hP hS (by rw [show j_M_byteOf_h39 V x3 x4 x5 x6 x7 = 1 from by rw [j_M_byteOf_h39, if_neg c41, if_neg c53]]; exact lv_sub hl [1, 2, 3, 4, 5, 6, 0] rfl)
def j_M_byteOf_h13 : Nat → MS → Int32 → Int32 → Int32 → Int32
  | 0, V, _, _, _ => 0
  | f + 1, V, x3, x4, x5 =>
      if x5 < 0 then
        0
      else
        if x3 = (-1) then
          if (m_deed V x5.toNatClampNeg) = 6 then
            if (j_M_byteOf_h39 V x3 x4 x5 (m_deed V x5.toNatClampNeg) (x4 - (m_where V x5.toNatClampNeg))) = 0 then
              if (m_deed V x5.toNatClampNeg) = 5 then
                if (m_much V x5.toNatClampNeg) ≤ x4 then
                  j_M_byteOf_h13 f V x3 x4 (x5 + (-1))
                else
                  j_M_byteOf_h13 f V (m_who V x5.toNatClampNeg) ((m_where V x5.toNatClampNeg) + x4) (x5 + (-1))
              else
                j_M_byteOf_h13 f V x3 x4 (x5 + (-1))
            else
              m_what V x5.toNatClampNeg
          else
            if (m_deed V x5.toNatClampNeg) = 5 then
              if (m_much V x5.toNatClampNeg) ≤ x4 then
                j_M_byteOf_h13 f V x3 x4 (x5 + (-1))
              else
                j_M_byteOf_h13 f V (m_who V x5.toNatClampNeg) ((m_where V x5.toNatClampNeg) + x4) (x5 + (-1))
            else
              j_M_byteOf_h13 f V x3 x4 (x5 + (-1))
        else
          if (m_who V x5.toNatClampNeg) = x3 then
            if (m_deed V x5.toNatClampNeg) = 1 then
              if (m_deed V x5.toNatClampNeg) = 2 then
                if (j_M_byteOf_h39 V x3 x4 x5 (m_deed V x5.toNatClampNeg) (x4 - (m_where V x5.toNatClampNeg))) = 0 then
                  if (m_deed V x5.toNatClampNeg) = 3 then
                    if (j_M_byteOf_h39 V x3 x4 x5 (m_deed V x5.toNatClampNeg) (x4 - (m_where V x5.toNatClampNeg))) = 0 then
                      if (m_deed V x5.toNatClampNeg) = 4 then
                        if (j_M_byteOf_h39 V x3 x4 x5 (m_deed V x5.toNatClampNeg) (x4 - (m_where V x5.toNatClampNeg))) = 0 then
                          j_M_byteOf_h13 f V (m_what V x5.toNatClampNeg) x4 (x5 + (-1))
                        else
                          j_M_byteOf_h13 f V (-1) (x4 - (m_where V x5.toNatClampNeg)) (x5 + (-1))
                      else
                        j_M_byteOf_h13 f V (m_what V x5.toNatClampNeg) x4 (x5 + (-1))
                    else
                      (ju (m_what V x5.toNatClampNeg) (8 * (x4 - (m_where V x5.toNatClampNeg)))) &&& 255
                  else
                    if (m_deed V x5.toNatClampNeg) = 4 then
                      if (j_M_byteOf_h39 V x3 x4 x5 (m_deed V x5.toNatClampNeg) (x4 - (m_where V x5.toNatClampNeg))) = 0 then
                        j_M_byteOf_h13 f V (m_what V x5.toNatClampNeg) x4 (x5 + (-1))
                      else
                        j_M_byteOf_h13 f V (-1) (x4 - (m_where V x5.toNatClampNeg)) (x5 + (-1))
                    else
                      j_M_byteOf_h13 f V (m_what V x5.toNatClampNeg) x4 (x5 + (-1))
                else
                  0
              else
                if (m_deed V x5.toNatClampNeg) = 3 then
                  if (j_M_byteOf_h39 V x3 x4 x5 (m_deed V x5.toNatClampNeg) (x4 - (m_where V x5.toNatClampNeg))) = 0 then
                    if (m_deed V x5.toNatClampNeg) = 4 then
                      if (j_M_byteOf_h39 V x3 x4 x5 (m_deed V x5.toNatClampNeg) (x4 - (m_where V x5.toNatClampNeg))) = 0 then
                        j_M_byteOf_h13 f V (m_what V x5.toNatClampNeg) x4 (x5 + (-1))
                      else
                        j_M_byteOf_h13 f V (-1) (x4 - (m_where V x5.toNatClampNeg)) (x5 + (-1))
                    else
                      j_M_byteOf_h13 f V (m_what V x5.toNatClampNeg) x4 (x5 + (-1))
                  else
                    (ju (m_what V x5.toNatClampNeg) (8 * (x4 - (m_where V x5.toNatClampNeg)))) &&& 255
                else
                  if (m_deed V x5.toNatClampNeg) = 4 then
                    if (j_M_byteOf_h39 V x3 x4 x5 (m_deed V x5.toNatClampNeg) (x4 - (m_where V x5.toNatClampNeg))) = 0 then
                      j_M_byteOf_h13 f V (m_what V x5.toNatClampNeg) x4 (x5 + (-1))
                    else
                      j_M_byteOf_h13 f V (-1) (x4 - (m_where V x5.toNatClampNeg)) (x5 + (-1))
                  else
                    j_M_byteOf_h13 f V (m_what V x5.toNatClampNeg) x4 (x5 + (-1))
            else
              if (m_deed V x5.toNatClampNeg) = 2 then
                if (j_M_byteOf_h39 V x3 x4 x5 (m_deed V x5.toNatClampNeg) (x4 - (m_where V x5.toNatClampNeg))) = 0 then
                  if (m_deed V x5.toNatClampNeg) = 3 then
                    if (j_M_byteOf_h39 V x3 x4 x5 (m_deed V x5.toNatClampNeg) (x4 - (m_where V x5.toNatClampNeg))) = 0 then
                      if (m_deed V x5.toNatClampNeg) = 4 then
                        if (j_M_byteOf_h39 V x3 x4 x5 (m_deed V x5.toNatClampNeg) (x4 - (m_where V x5.toNatClampNeg))) = 0 then
                          j_M_byteOf_h13 f V x3 x4 (x5 + (-1))
                        else
                          j_M_byteOf_h13 f V (-1) (x4 - (m_where V x5.toNatClampNeg)) (x5 + (-1))
                      else
                        j_M_byteOf_h13 f V x3 x4 (x5 + (-1))
                    else
                      (ju (m_what V x5.toNatClampNeg) (8 * (x4 - (m_where V x5.toNatClampNeg)))) &&& 255
                  else
                    if (m_deed V x5.toNatClampNeg) = 4 then
                      if (j_M_byteOf_h39 V x3 x4 x5 (m_deed V x5.toNatClampNeg) (x4 - (m_where V x5.toNatClampNeg))) = 0 then
                        j_M_byteOf_h13 f V x3 x4 (x5 + (-1))
                      else
                        j_M_byteOf_h13 f V (-1) (x4 - (m_where V x5.toNatClampNeg)) (x5 + (-1))
                    else
                      j_M_byteOf_h13 f V x3 x4 (x5 + (-1))
                else
                  0
              else
                if (m_deed V x5.toNatClampNeg) = 3 then
                  if (j_M_byteOf_h39 V x3 x4 x5 (m_deed V x5.toNatClampNeg) (x4 - (m_where V x5.toNatClampNeg))) = 0 then
                    if (m_deed V x5.toNatClampNeg) = 4 then
                      if (j_M_byteOf_h39 V x3 x4 x5 (m_deed V x5.toNatClampNeg) (x4 - (m_where V x5.toNatClampNeg))) = 0 then
                        j_M_byteOf_h13 f V x3 x4 (x5 + (-1))
                      else
                        j_M_byteOf_h13 f V (-1) (x4 - (m_where V x5.toNatClampNeg)) (x5 + (-1))
                    else
                      j_M_byteOf_h13 f V x3 x4 (x5 + (-1))
                  else
                    (ju (m_what V x5.toNatClampNeg) (8 * (x4 - (m_where V x5.toNatClampNeg)))) &&& 255
                else
                  if (m_deed V x5.toNatClampNeg) = 4 then
                    if (j_M_byteOf_h39 V x3 x4 x5 (m_deed V x5.toNatClampNeg) (x4 - (m_where V x5.toNatClampNeg))) = 0 then
                      j_M_byteOf_h13 f V x3 x4 (x5 + (-1))
                    else
                      j_M_byteOf_h13 f V (-1) (x4 - (m_where V x5.toNatClampNeg)) (x5 + (-1))
                  else
                    j_M_byteOf_h13 f V x3 x4 (x5 + (-1))
          else
            j_M_byteOf_h13 f V x3 x4 (x5 + (-1))
def p_M_byteOf_h13 : Nat → MS → Int32 → Int32 → Int32 → Prop
  | 0, _, _, _, _ => True
  | f + 1, V, x3, x4, x5 =>
      if x5 < 0 then
        True
      else
        (vp_in x5 1536) ∧ (
          (p_M_byteOf_h39 V x3 x4 x5 (m_deed V x5.toNatClampNeg) (x4 - (m_where V x5.toNatClampNeg))) ∧ (
            if x3 = (-1) then
              if (m_deed V x5.toNatClampNeg) = 6 then
                if (j_M_byteOf_h39 V x3 x4 x5 (m_deed V x5.toNatClampNeg) (x4 - (m_where V x5.toNatClampNeg))) = 0 then
                  if (m_deed V x5.toNatClampNeg) = 5 then
                    if (m_much V x5.toNatClampNeg) ≤ x4 then
                      p_M_byteOf_h13 f V x3 x4 (x5 + (-1))
                    else
                      p_M_byteOf_h13 f V (m_who V x5.toNatClampNeg) ((m_where V x5.toNatClampNeg) + x4) (x5 + (-1))
                  else
                    p_M_byteOf_h13 f V x3 x4 (x5 + (-1))
                else
                  True
              else
                if (m_deed V x5.toNatClampNeg) = 5 then
                  if (m_much V x5.toNatClampNeg) ≤ x4 then
                    p_M_byteOf_h13 f V x3 x4 (x5 + (-1))
                  else
                    p_M_byteOf_h13 f V (m_who V x5.toNatClampNeg) ((m_where V x5.toNatClampNeg) + x4) (x5 + (-1))
                else
                  p_M_byteOf_h13 f V x3 x4 (x5 + (-1))
            else
              if (m_who V x5.toNatClampNeg) = x3 then
                if (m_deed V x5.toNatClampNeg) = 1 then
                  if (m_deed V x5.toNatClampNeg) = 2 then
                    if (j_M_byteOf_h39 V x3 x4 x5 (m_deed V x5.toNatClampNeg) (x4 - (m_where V x5.toNatClampNeg))) = 0 then
                      if (m_deed V x5.toNatClampNeg) = 3 then
                        if (j_M_byteOf_h39 V x3 x4 x5 (m_deed V x5.toNatClampNeg) (x4 - (m_where V x5.toNatClampNeg))) = 0 then
                          if (m_deed V x5.toNatClampNeg) = 4 then
                            if (j_M_byteOf_h39 V x3 x4 x5 (m_deed V x5.toNatClampNeg) (x4 - (m_where V x5.toNatClampNeg))) = 0 then
                              p_M_byteOf_h13 f V (m_what V x5.toNatClampNeg) x4 (x5 + (-1))
                            else
                              p_M_byteOf_h13 f V (-1) (x4 - (m_where V x5.toNatClampNeg)) (x5 + (-1))
                          else
                            p_M_byteOf_h13 f V (m_what V x5.toNatClampNeg) x4 (x5 + (-1))
                        else
                          True
                      else
                        if (m_deed V x5.toNatClampNeg) = 4 then
                          if (j_M_byteOf_h39 V x3 x4 x5 (m_deed V x5.toNatClampNeg) (x4 - (m_where V x5.toNatClampNeg))) = 0 then
                            p_M_byteOf_h13 f V (m_what V x5.toNatClampNeg) x4 (x5 + (-1))
                          else
                            p_M_byteOf_h13 f V (-1) (x4 - (m_where V x5.toNatClampNeg)) (x5 + (-1))
                        else
                          p_M_byteOf_h13 f V (m_what V x5.toNatClampNeg) x4 (x5 + (-1))
                    else
                      True
                  else
                    if (m_deed V x5.toNatClampNeg) = 3 then
                      if (j_M_byteOf_h39 V x3 x4 x5 (m_deed V x5.toNatClampNeg) (x4 - (m_where V x5.toNatClampNeg))) = 0 then
                        if (m_deed V x5.toNatClampNeg) = 4 then
                          if (j_M_byteOf_h39 V x3 x4 x5 (m_deed V x5.toNatClampNeg) (x4 - (m_where V x5.toNatClampNeg))) = 0 then
                            p_M_byteOf_h13 f V (m_what V x5.toNatClampNeg) x4 (x5 + (-1))
                          else
                            p_M_byteOf_h13 f V (-1) (x4 - (m_where V x5.toNatClampNeg)) (x5 + (-1))
                        else
                          p_M_byteOf_h13 f V (m_what V x5.toNatClampNeg) x4 (x5 + (-1))
                      else
                        True
                    else
                      if (m_deed V x5.toNatClampNeg) = 4 then
                        if (j_M_byteOf_h39 V x3 x4 x5 (m_deed V x5.toNatClampNeg) (x4 - (m_where V x5.toNatClampNeg))) = 0 then
                          p_M_byteOf_h13 f V (m_what V x5.toNatClampNeg) x4 (x5 + (-1))
                        else
                          p_M_byteOf_h13 f V (-1) (x4 - (m_where V x5.toNatClampNeg)) (x5 + (-1))
                      else
                        p_M_byteOf_h13 f V (m_what V x5.toNatClampNeg) x4 (x5 + (-1))
                else
                  if (m_deed V x5.toNatClampNeg) = 2 then
                    if (j_M_byteOf_h39 V x3 x4 x5 (m_deed V x5.toNatClampNeg) (x4 - (m_where V x5.toNatClampNeg))) = 0 then
                      if (m_deed V x5.toNatClampNeg) = 3 then
                        if (j_M_byteOf_h39 V x3 x4 x5 (m_deed V x5.toNatClampNeg) (x4 - (m_where V x5.toNatClampNeg))) = 0 then
                          if (m_deed V x5.toNatClampNeg) = 4 then
                            if (j_M_byteOf_h39 V x3 x4 x5 (m_deed V x5.toNatClampNeg) (x4 - (m_where V x5.toNatClampNeg))) = 0 then
                              p_M_byteOf_h13 f V x3 x4 (x5 + (-1))
                            else
                              p_M_byteOf_h13 f V (-1) (x4 - (m_where V x5.toNatClampNeg)) (x5 + (-1))
                          else
                            p_M_byteOf_h13 f V x3 x4 (x5 + (-1))
                        else
                          True
                      else
                        if (m_deed V x5.toNatClampNeg) = 4 then
                          if (j_M_byteOf_h39 V x3 x4 x5 (m_deed V x5.toNatClampNeg) (x4 - (m_where V x5.toNatClampNeg))) = 0 then
                            p_M_byteOf_h13 f V x3 x4 (x5 + (-1))
                          else
                            p_M_byteOf_h13 f V (-1) (x4 - (m_where V x5.toNatClampNeg)) (x5 + (-1))
                        else
                          p_M_byteOf_h13 f V x3 x4 (x5 + (-1))
                    else
                      True
                  else
                    if (m_deed V x5.toNatClampNeg) = 3 then
                      if (j_M_byteOf_h39 V x3 x4 x5 (m_deed V x5.toNatClampNeg) (x4 - (m_where V x5.toNatClampNeg))) = 0 then
                        if (m_deed V x5.toNatClampNeg) = 4 then
                          if (j_M_byteOf_h39 V x3 x4 x5 (m_deed V x5.toNatClampNeg) (x4 - (m_where V x5.toNatClampNeg))) = 0 then
                            p_M_byteOf_h13 f V x3 x4 (x5 + (-1))
                          else
                            p_M_byteOf_h13 f V (-1) (x4 - (m_where V x5.toNatClampNeg)) (x5 + (-1))
                        else
                          p_M_byteOf_h13 f V x3 x4 (x5 + (-1))
                      else
                        True
                    else
                      if (m_deed V x5.toNatClampNeg) = 4 then
                        if (j_M_byteOf_h39 V x3 x4 x5 (m_deed V x5.toNatClampNeg) (x4 - (m_where V x5.toNatClampNeg))) = 0 then
                          p_M_byteOf_h13 f V x3 x4 (x5 + (-1))
                        else
                          p_M_byteOf_h13 f V (-1) (x4 - (m_where V x5.toNatClampNeg)) (x5 + (-1))
                      else
                        p_M_byteOf_h13 f V x3 x4 (x5 + (-1))
              else
                p_M_byteOf_h13 f V x3 x4 (x5 + (-1))))
set_option maxHeartbeats 4000000 in
set_option maxRecDepth 100000 in
theorem w_M_byteOf_h13 (hE : mE ad) {p : Program} {e : Env} {s : State} {m : MethodId} {args : Array Value} {below : List Frame} {meth : Method} {c : Code} (S : CallFix p m c b_M_byteOf 9 s args TG "PageVaultModel") (hr : meth.sig.returnType = some .int) (hlk : meth.locks = false) (hK : mK D cI cZ s) :
    ∀ (f i : Nat) (x3 x4 x5 : Int32) (V : MS) (H : Heap) (locs : List Loc) (ls : Array Slot), x5 + 1 = nI i → i < 2 ^ 31 → i < f → p_M_byteOf_h13 f V x3 x4 x5 → MP D ad cI cZ (V) H → va_S (iA ad mN) s.heap H locs → lv_has ls 9 [(0, .ref (ad 0)), (3, .int x3), (4, .int x4), (5, .int x5)] → W p l e ({ frames := 0, cells := 0, slots := 0, locals := 0 }) s m args below meth c H locs 0 0 (MQ below (gPost D ad mN (some (.int (j_M_byteOf_h13 f V x3 x4 x5))) (mc ad cI cZ (V))) args s 0 0 (iA ad mN)) (F0 m 13 ls []) := by
  intro f
  induction f with
  | zero =>
    intro i x3 x4 x5 V H locs ls ek hi hf hp hP hS hl
    exact absurd hf (Nat.not_lt_zero _)
  | succ f ih =>
    intro i x3 x4 x5 V H locs ls ek hi hf hp hP hS hl
    rw [p_M_byteOf_h13] at hp
    refine lv_iload S.1 S.2.1 d_M_byteOf_13 (lv_at hl 3 rfl) ?_
    refine lv_if_lt (tgt := 219) S.1 S.2.1 d_M_byteOf_15 (by decide) (fun c15 => ?_) (fun c15 => ?_)
    · have c15 : x5 < 0 := c15
      rw [if_pos c15] at hp
      refine lv_iconst (v := 0) S.1 S.2.1 d_M_byteOf_219 (by decide) ?_
      rw [show j_M_byteOf_h13 (f + 1) V x3 x4 x5 = 0 from by rw [j_M_byteOf_h13, if_pos c15]]
      exact m_iret S hr hlk hP hS d_M_byteOf_220
    · have c15 : ¬ (x5 < 0) := c15
      rw [if_neg c15] at hp
      refine lv_aload_n S.1 S.2.1 d_M_byteOf_18 rfl (lv_at hl 0 rfl) ?_
      refine m_get_deed S hK hP tg_60 d_M_byteOf_19 ?_
      refine lv_iload S.1 S.2.1 d_M_byteOf_22 (lv_at hl 3 rfl) ?_
      obtain ⟨o1, hp⟩ := hp
      refine m_ald_deed S hK hP o1 d_M_byteOf_24 ?_
      refine lv_istore (lv' := [(6, .int (m_deed V x5.toNatClampNeg)), (0, .ref (ad 0)), (3, .int x3), (4, .int x4), (5, .int x5)]) S.1 S.2.1 d_M_byteOf_25 hl (by decide) rfl (fun ls hl => ?_)
      refine lv_iload S.1 S.2.1 d_M_byteOf_27 (lv_at hl 3 rfl) ?_
      refine lv_aload_n S.1 S.2.1 d_M_byteOf_29 rfl (lv_at hl 1 rfl) ?_
      refine m_get_where S hK hP tg_62 d_M_byteOf_30 ?_
      refine lv_iload S.1 S.2.1 d_M_byteOf_33 (lv_at hl 4 rfl) ?_
      refine m_ald_where S hK hP o1 d_M_byteOf_35 ?_
      refine lv_isub S.1 S.2.1 d_M_byteOf_36 ?_
      refine lv_istore (lv' := [(7, .int (x4 - (m_where V x5.toNatClampNeg))), (6, .int (m_deed V x5.toNatClampNeg)), (0, .ref (ad 0)), (3, .int x3), (4, .int x4), (5, .int x5)]) S.1 S.2.1 d_M_byteOf_37 hl (by decide) rfl (fun ls hl => ?_)
      obtain ⟨o2, hp⟩ := hp
      refine w_M_byteOf_h39 l D ad cI cZ hE S hK x3 x4 x5 (m_deed V x5.toNatClampNeg) (x4 - (m_where V x5.toNatClampNeg)) V _ _ _ o2 hP hS (lv_sub hl [2, 3, 4, 5, 1, 0] rfl) (fun H locs ls hP hS hl => ?_)
      refine lv_iload_n S.1 S.2.1 d_M_byteOf_63 rfl (lv_at hl 1 rfl) ?_
      refine lv_iconst (v := (-1)) S.1 S.2.1 d_M_byteOf_64 (by decide) ?_
      refine lv_icmp_ne (tgt := 129) S.1 S.2.1 d_M_byteOf_65 (by decide) (fun c65 => ?_) (fun c65 => ?_)
      · have c65 : ¬ (x3 = (-1)) := c65
        rw [if_neg c65] at hp
        refine lv_aload_n S.1 S.2.1 d_M_byteOf_129 rfl (lv_at hl 0 rfl) ?_
        refine m_get_who S hK hP tg_61 d_M_byteOf_130 ?_
        refine lv_iload S.1 S.2.1 d_M_byteOf_133 (lv_at hl 3 rfl) ?_
        refine m_ald_who S hK hP o1 d_M_byteOf_135 ?_
        refine lv_iload_n S.1 S.2.1 d_M_byteOf_136 rfl (lv_at hl 1 rfl) ?_
        refine lv_icmp_ne (tgt := 213) S.1 S.2.1 d_M_byteOf_137 (by decide) (fun c137 => ?_) (fun c137 => ?_)
        · have c137 : ¬ ((m_who V x5.toNatClampNeg) = x3) := c137
          rw [if_neg c137] at hp
          refine lv_iinc (v := x5 + (-1)) (lv' := [(5, .int (x5 + (-1))), (0, .ref (ad 0)), (3, .int x3), (4, .int x4), (6, .int (m_deed V x5.toNatClampNeg)), (7, .int (x4 - (m_where V x5.toNatClampNeg))), (8, .int (j_M_byteOf_h39 V x3 x4 x5 (m_deed V x5.toNatClampNeg) (x4 - (m_where V x5.toNatClampNeg))))]) S.1 S.2.1 d_M_byteOf_213 hl (k := 3) rfl rfl (by decide) rfl (fun ls hl => ?_)
          refine lv_goto (tgt := 13) S.1 S.2.1 d_M_byteOf_216 (by decide) ?_
          obtain ⟨i, rfl⟩ := dn_pos ek hi c15
          rw [show j_M_byteOf_h13 (f + 1) V x3 x4 x5 = j_M_byteOf_h13 f V x3 x4 (x5 + (-1)) from by rw [j_M_byteOf_h13, if_neg c15, if_neg c65, if_neg c137]]
          exact ih i x3 x4 (x5 + (-1)) V _ _ _ (dn_ek ek) (by omega) (by omega) hp hP hS (lv_sub hl [1, 2, 3, 0] rfl)
        · have c137 : (m_who V x5.toNatClampNeg) = x3 := c137
          rw [if_pos c137] at hp
          refine lv_iload S.1 S.2.1 d_M_byteOf_140 (lv_at hl 4 rfl) ?_
          refine lv_iconst (v := 1) S.1 S.2.1 d_M_byteOf_142 (by decide) ?_
          refine lv_icmp_ne (tgt := 154) S.1 S.2.1 d_M_byteOf_143 (by decide) (fun c143 => ?_) (fun c143 => ?_)
          · have c143 : ¬ ((m_deed V x5.toNatClampNeg) = 1) := c143
            rw [if_neg c143] at hp
            refine lv_iload S.1 S.2.1 d_M_byteOf_154 (lv_at hl 4 rfl) ?_
            refine lv_iconst (v := 2) S.1 S.2.1 d_M_byteOf_156 (by decide) ?_
            refine lv_icmp_ne (tgt := 167) S.1 S.2.1 d_M_byteOf_157 (by decide) (fun c157 => ?_) (fun c157 => ?_)
            · have c157 : ¬ ((m_deed V x5.toNatClampNeg) = 2) := c157
              rw [if_neg c157] at hp
              refine lv_iload S.1 S.2.1 d_M_byteOf_167 (lv_at hl 4 rfl) ?_
              refine lv_iconst (v := 3) S.1 S.2.1 d_M_byteOf_169 (by decide) ?_
              refine lv_icmp_ne (tgt := 196) S.1 S.2.1 d_M_byteOf_170 (by decide) (fun c170 => ?_) (fun c170 => ?_)
              · have c170 : ¬ ((m_deed V x5.toNatClampNeg) = 3) := c170
                rw [if_neg c170] at hp
                refine lv_iload S.1 S.2.1 d_M_byteOf_196 (lv_at hl 4 rfl) ?_
                refine lv_iconst (v := 4) S.1 S.2.1 d_M_byteOf_198 (by decide) ?_
                refine lv_icmp_ne (tgt := 213) S.1 S.2.1 d_M_byteOf_199 (by decide) (fun c199 => ?_) (fun c199 => ?_)
                · have c199 : ¬ ((m_deed V x5.toNatClampNeg) = 4) := c199
                  rw [if_neg c199] at hp
                  refine lv_iinc (v := x5 + (-1)) (lv' := [(5, .int (x5 + (-1))), (0, .ref (ad 0)), (3, .int x3), (4, .int x4), (6, .int (m_deed V x5.toNatClampNeg)), (7, .int (x4 - (m_where V x5.toNatClampNeg))), (8, .int (j_M_byteOf_h39 V x3 x4 x5 (m_deed V x5.toNatClampNeg) (x4 - (m_where V x5.toNatClampNeg))))]) S.1 S.2.1 d_M_byteOf_213 hl (k := 3) rfl rfl (by decide) rfl (fun ls hl => ?_)
                  refine lv_goto (tgt := 13) S.1 S.2.1 d_M_byteOf_216 (by decide) ?_
                  obtain ⟨i, rfl⟩ := dn_pos ek hi c15
                  rw [show j_M_byteOf_h13 (f + 1) V x3 x4 x5 = j_M_byteOf_h13 f V x3 x4 (x5 + (-1)) from by rw [j_M_byteOf_h13, if_neg c15, if_neg c65, if_pos c137, if_neg c143, if_neg c157, if_neg c170, if_neg c199]]
                  exact ih i x3 x4 (x5 + (-1)) V _ _ _ (dn_ek ek) (by omega) (by omega) hp hP hS (lv_sub hl [1, 2, 3, 0] rfl)
                · have c199 : (m_deed V x5.toNatClampNeg) = 4 := c199
                  rw [if_pos c199] at hp
                  refine lv_iload S.1 S.2.1 d_M_byteOf_202 (lv_at hl 6 rfl) ?_
                  refine lv_if_eq (tgt := 213) S.1 S.2.1 d_M_byteOf_204 (by decide) (fun c204 => ?_) (fun c204 => ?_)
                  · have c204 : (j_M_byteOf_h39 V x3 x4 x5 (m_deed V x5.toNatClampNeg) (x4 - (m_where V x5.toNatClampNeg))) = 0 := c204
                    rw [if_pos c204] at hp
                    refine lv_iinc (v := x5 + (-1)) (lv' := [(5, .int (x5 + (-1))), (0, .ref (ad 0)), (3, .int x3), (4, .int x4), (6, .int (m_deed V x5.toNatClampNeg)), (7, .int (x4 - (m_where V x5.toNatClampNeg))), (8, .int (j_M_byteOf_h39 V x3 x4 x5 (m_deed V x5.toNatClampNeg) (x4 - (m_where V x5.toNatClampNeg))))]) S.1 S.2.1 d_M_byteOf_213 hl (k := 3) rfl rfl (by decide) rfl (fun ls hl => ?_)
                    refine lv_goto (tgt := 13) S.1 S.2.1 d_M_byteOf_216 (by decide) ?_
                    obtain ⟨i, rfl⟩ := dn_pos ek hi c15
                    rw [show j_M_byteOf_h13 (f + 1) V x3 x4 x5 = j_M_byteOf_h13 f V x3 x4 (x5 + (-1)) from by rw [j_M_byteOf_h13, if_neg c15, if_neg c65, if_pos c137, if_neg c143, if_neg c157, if_neg c170, if_pos c199, if_pos c204]]
                    exact ih i x3 x4 (x5 + (-1)) V _ _ _ (dn_ek ek) (by omega) (by omega) hp hP hS (lv_sub hl [1, 2, 3, 0] rfl)
                  · have c204 : ¬ ((j_M_byteOf_h39 V x3 x4 x5 (m_deed V x5.toNatClampNeg) (x4 - (m_where V x5.toNatClampNeg))) = 0) := c204
                    rw [if_neg c204] at hp
                    refine lv_iconst (v := (-1)) S.1 S.2.1 d_M_byteOf_207 (by decide) ?_
                    refine lv_istore_n (lv' := [(3, .int (-1)), (0, .ref (ad 0)), (4, .int x4), (5, .int x5), (6, .int (m_deed V x5.toNatClampNeg)), (7, .int (x4 - (m_where V x5.toNatClampNeg))), (8, .int (j_M_byteOf_h39 V x3 x4 x5 (m_deed V x5.toNatClampNeg) (x4 - (m_where V x5.toNatClampNeg))))]) S.1 S.2.1 d_M_byteOf_208 rfl hl (by decide) rfl (fun ls hl => ?_)
                    refine lv_iload S.1 S.2.1 d_M_byteOf_209 (lv_at hl 5 rfl) ?_
                    refine lv_istore (lv' := [(4, .int (x4 - (m_where V x5.toNatClampNeg))), (3, .int (-1)), (0, .ref (ad 0)), (5, .int x5), (6, .int (m_deed V x5.toNatClampNeg)), (7, .int (x4 - (m_where V x5.toNatClampNeg))), (8, .int (j_M_byteOf_h39 V x3 x4 x5 (m_deed V x5.toNatClampNeg) (x4 - (m_where V x5.toNatClampNeg))))]) S.1 S.2.1 d_M_byteOf_211 hl (by decide) rfl (fun ls hl => ?_)
                    refine lv_iinc (v := x5 + (-1)) (lv' := [(5, .int (x5 + (-1))), (4, .int (x4 - (m_where V x5.toNatClampNeg))), (3, .int (-1)), (0, .ref (ad 0)), (6, .int (m_deed V x5.toNatClampNeg)), (7, .int (x4 - (m_where V x5.toNatClampNeg))), (8, .int (j_M_byteOf_h39 V x3 x4 x5 (m_deed V x5.toNatClampNeg) (x4 - (m_where V x5.toNatClampNeg))))]) S.1 S.2.1 d_M_byteOf_213 hl (k := 3) rfl rfl (by decide) rfl (fun ls hl => ?_)
                    refine lv_goto (tgt := 13) S.1 S.2.1 d_M_byteOf_216 (by decide) ?_
                    obtain ⟨i, rfl⟩ := dn_pos ek hi c15
                    rw [show j_M_byteOf_h13 (f + 1) V x3 x4 x5 = j_M_byteOf_h13 f V (-1) (x4 - (m_where V x5.toNatClampNeg)) (x5 + (-1)) from by rw [j_M_byteOf_h13, if_neg c15, if_neg c65, if_pos c137, if_neg c143, if_neg c157, if_neg c170, if_pos c199, if_neg c204]]
                    exact ih i (-1) (x4 - (m_where V x5.toNatClampNeg)) (x5 + (-1)) V _ _ _ (dn_ek ek) (by omega) (by omega) hp hP hS (lv_sub hl [3, 2, 1, 0] rfl)
              · have c170 : (m_deed V x5.toNatClampNeg) = 3 := c170
                rw [if_pos c170] at hp
                refine lv_iload S.1 S.2.1 d_M_byteOf_173 (lv_at hl 6 rfl) ?_
                refine lv_if_eq (tgt := 196) S.1 S.2.1 d_M_byteOf_175 (by decide) (fun c175 => ?_) (fun c175 => ?_)
                · have c175 : (j_M_byteOf_h39 V x3 x4 x5 (m_deed V x5.toNatClampNeg) (x4 - (m_where V x5.toNatClampNeg))) = 0 := c175
                  rw [if_pos c175] at hp
                  refine lv_iload S.1 S.2.1 d_M_byteOf_196 (lv_at hl 4 rfl) ?_
                  refine lv_iconst (v := 4) S.1 S.2.1 d_M_byteOf_198 (by decide) ?_
                  refine lv_icmp_ne (tgt := 213) S.1 S.2.1 d_M_byteOf_199 (by decide) (fun c199 => ?_) (fun c199 => ?_)
                  · have c199 : ¬ ((m_deed V x5.toNatClampNeg) = 4) := c199
                    rw [if_neg c199] at hp
                    refine lv_iinc (v := x5 + (-1)) (lv' := [(5, .int (x5 + (-1))), (0, .ref (ad 0)), (3, .int x3), (4, .int x4), (6, .int (m_deed V x5.toNatClampNeg)), (7, .int (x4 - (m_where V x5.toNatClampNeg))), (8, .int (j_M_byteOf_h39 V x3 x4 x5 (m_deed V x5.toNatClampNeg) (x4 - (m_where V x5.toNatClampNeg))))]) S.1 S.2.1 d_M_byteOf_213 hl (k := 3) rfl rfl (by decide) rfl (fun ls hl => ?_)
                    refine lv_goto (tgt := 13) S.1 S.2.1 d_M_byteOf_216 (by decide) ?_
                    obtain ⟨i, rfl⟩ := dn_pos ek hi c15
                    rw [show j_M_byteOf_h13 (f + 1) V x3 x4 x5 = j_M_byteOf_h13 f V x3 x4 (x5 + (-1)) from by rw [j_M_byteOf_h13, if_neg c15, if_neg c65, if_pos c137, if_neg c143, if_neg c157, if_pos c170, if_pos c175, if_neg c199]]
                    exact ih i x3 x4 (x5 + (-1)) V _ _ _ (dn_ek ek) (by omega) (by omega) hp hP hS (lv_sub hl [1, 2, 3, 0] rfl)
                  · have c199 : (m_deed V x5.toNatClampNeg) = 4 := c199
                    rw [if_pos c199] at hp
                    refine lv_iload S.1 S.2.1 d_M_byteOf_202 (lv_at hl 6 rfl) ?_
                    refine lv_if_eq (tgt := 213) S.1 S.2.1 d_M_byteOf_204 (by decide) (fun c204 => ?_) (fun c204 => ?_)
                    · have c204 : (j_M_byteOf_h39 V x3 x4 x5 (m_deed V x5.toNatClampNeg) (x4 - (m_where V x5.toNatClampNeg))) = 0 := c204
                      rw [if_pos c204] at hp
                      refine lv_iinc (v := x5 + (-1)) (lv' := [(5, .int (x5 + (-1))), (0, .ref (ad 0)), (3, .int x3), (4, .int x4), (6, .int (m_deed V x5.toNatClampNeg)), (7, .int (x4 - (m_where V x5.toNatClampNeg))), (8, .int (j_M_byteOf_h39 V x3 x4 x5 (m_deed V x5.toNatClampNeg) (x4 - (m_where V x5.toNatClampNeg))))]) S.1 S.2.1 d_M_byteOf_213 hl (k := 3) rfl rfl (by decide) rfl (fun ls hl => ?_)
                      refine lv_goto (tgt := 13) S.1 S.2.1 d_M_byteOf_216 (by decide) ?_
                      obtain ⟨i, rfl⟩ := dn_pos ek hi c15
                      rw [show j_M_byteOf_h13 (f + 1) V x3 x4 x5 = j_M_byteOf_h13 f V x3 x4 (x5 + (-1)) from by rw [j_M_byteOf_h13, if_neg c15, if_neg c65, if_pos c137, if_neg c143, if_neg c157, if_pos c170, if_pos c175, if_pos c199, if_pos c204]]
                      exact ih i x3 x4 (x5 + (-1)) V _ _ _ (dn_ek ek) (by omega) (by omega) hp hP hS (lv_sub hl [1, 2, 3, 0] rfl)
                    · have c204 : ¬ ((j_M_byteOf_h39 V x3 x4 x5 (m_deed V x5.toNatClampNeg) (x4 - (m_where V x5.toNatClampNeg))) = 0) := c204
                      rw [if_neg c204] at hp
                      refine lv_iconst (v := (-1)) S.1 S.2.1 d_M_byteOf_207 (by decide) ?_
                      refine lv_istore_n (lv' := [(3, .int (-1)), (0, .ref (ad 0)), (4, .int x4), (5, .int x5), (6, .int (m_deed V x5.toNatClampNeg)), (7, .int (x4 - (m_where V x5.toNatClampNeg))), (8, .int (j_M_byteOf_h39 V x3 x4 x5 (m_deed V x5.toNatClampNeg) (x4 - (m_where V x5.toNatClampNeg))))]) S.1 S.2.1 d_M_byteOf_208 rfl hl (by decide) rfl (fun ls hl => ?_)
                      refine lv_iload S.1 S.2.1 d_M_byteOf_209 (lv_at hl 5 rfl) ?_
                      refine lv_istore (lv' := [(4, .int (x4 - (m_where V x5.toNatClampNeg))), (3, .int (-1)), (0, .ref (ad 0)), (5, .int x5), (6, .int (m_deed V x5.toNatClampNeg)), (7, .int (x4 - (m_where V x5.toNatClampNeg))), (8, .int (j_M_byteOf_h39 V x3 x4 x5 (m_deed V x5.toNatClampNeg) (x4 - (m_where V x5.toNatClampNeg))))]) S.1 S.2.1 d_M_byteOf_211 hl (by decide) rfl (fun ls hl => ?_)
                      refine lv_iinc (v := x5 + (-1)) (lv' := [(5, .int (x5 + (-1))), (4, .int (x4 - (m_where V x5.toNatClampNeg))), (3, .int (-1)), (0, .ref (ad 0)), (6, .int (m_deed V x5.toNatClampNeg)), (7, .int (x4 - (m_where V x5.toNatClampNeg))), (8, .int (j_M_byteOf_h39 V x3 x4 x5 (m_deed V x5.toNatClampNeg) (x4 - (m_where V x5.toNatClampNeg))))]) S.1 S.2.1 d_M_byteOf_213 hl (k := 3) rfl rfl (by decide) rfl (fun ls hl => ?_)
                      refine lv_goto (tgt := 13) S.1 S.2.1 d_M_byteOf_216 (by decide) ?_
                      obtain ⟨i, rfl⟩ := dn_pos ek hi c15
                      rw [show j_M_byteOf_h13 (f + 1) V x3 x4 x5 = j_M_byteOf_h13 f V (-1) (x4 - (m_where V x5.toNatClampNeg)) (x5 + (-1)) from by rw [j_M_byteOf_h13, if_neg c15, if_neg c65, if_pos c137, if_neg c143, if_neg c157, if_pos c170, if_pos c175, if_pos c199, if_neg c204]]
                      exact ih i (-1) (x4 - (m_where V x5.toNatClampNeg)) (x5 + (-1)) V _ _ _ (dn_ek ek) (by omega) (by omega) hp hP hS (lv_sub hl [3, 2, 1, 0] rfl)
                · have c175 : ¬ ((j_M_byteOf_h39 V x3 x4 x5 (m_deed V x5.toNatClampNeg) (x4 - (m_where V x5.toNatClampNeg))) = 0) := c175
                  rw [if_neg c175] at hp
                  refine lv_aload_n S.1 S.2.1 d_M_byteOf_178 rfl (lv_at hl 0 rfl) ?_
                  refine m_get_what S hK hP tg_64 d_M_byteOf_179 ?_
                  refine lv_iload S.1 S.2.1 d_M_byteOf_182 (lv_at hl 3 rfl) ?_
                  refine m_ald_what S hK hP o1 d_M_byteOf_184 ?_
                  refine lv_bipush (v := 8) S.1 S.2.1 d_M_byteOf_185 (by decide) ?_
                  refine lv_iload S.1 S.2.1 d_M_byteOf_187 (lv_at hl 5 rfl) ?_
                  refine lv_imul S.1 S.2.1 d_M_byteOf_189 ?_
                  refine lv_iushr (v := ju (m_what V x5.toNatClampNeg) (8 * (x4 - (m_where V x5.toNatClampNeg)))) S.1 S.2.1 d_M_byteOf_190 rfl ?_
                  refine lv_sipush (v := 255) S.1 S.2.1 d_M_byteOf_191 (by decide) ?_
                  refine lv_iand S.1 S.2.1 d_M_byteOf_194 ?_
                  rw [show j_M_byteOf_h13 (f + 1) V x3 x4 x5 = (ju (m_what V x5.toNatClampNeg) (8 * (x4 - (m_where V x5.toNatClampNeg)))) &&& 255 from by rw [j_M_byteOf_h13, if_neg c15, if_neg c65, if_pos c137, if_neg c143, if_neg c157, if_pos c170, if_neg c175]]
                  exact m_iret S hr hlk hP hS d_M_byteOf_195
            · have c157 : (m_deed V x5.toNatClampNeg) = 2 := c157
              rw [if_pos c157] at hp
              refine lv_iload S.1 S.2.1 d_M_byteOf_160 (lv_at hl 6 rfl) ?_
              refine lv_if_eq (tgt := 167) S.1 S.2.1 d_M_byteOf_162 (by decide) (fun c162 => ?_) (fun c162 => ?_)
              · have c162 : (j_M_byteOf_h39 V x3 x4 x5 (m_deed V x5.toNatClampNeg) (x4 - (m_where V x5.toNatClampNeg))) = 0 := c162
                rw [if_pos c162] at hp
                refine lv_iload S.1 S.2.1 d_M_byteOf_167 (lv_at hl 4 rfl) ?_
                refine lv_iconst (v := 3) S.1 S.2.1 d_M_byteOf_169 (by decide) ?_
                refine lv_icmp_ne (tgt := 196) S.1 S.2.1 d_M_byteOf_170 (by decide) (fun c170 => ?_) (fun c170 => ?_)
                · have c170 : ¬ ((m_deed V x5.toNatClampNeg) = 3) := c170
                  rw [if_neg c170] at hp
                  refine lv_iload S.1 S.2.1 d_M_byteOf_196 (lv_at hl 4 rfl) ?_
                  refine lv_iconst (v := 4) S.1 S.2.1 d_M_byteOf_198 (by decide) ?_
                  refine lv_icmp_ne (tgt := 213) S.1 S.2.1 d_M_byteOf_199 (by decide) (fun c199 => ?_) (fun c199 => ?_)
                  · have c199 : ¬ ((m_deed V x5.toNatClampNeg) = 4) := c199
                    rw [if_neg c199] at hp
                    refine lv_iinc (v := x5 + (-1)) (lv' := [(5, .int (x5 + (-1))), (0, .ref (ad 0)), (3, .int x3), (4, .int x4), (6, .int (m_deed V x5.toNatClampNeg)), (7, .int (x4 - (m_where V x5.toNatClampNeg))), (8, .int (j_M_byteOf_h39 V x3 x4 x5 (m_deed V x5.toNatClampNeg) (x4 - (m_where V x5.toNatClampNeg))))]) S.1 S.2.1 d_M_byteOf_213 hl (k := 3) rfl rfl (by decide) rfl (fun ls hl => ?_)
                    refine lv_goto (tgt := 13) S.1 S.2.1 d_M_byteOf_216 (by decide) ?_
                    obtain ⟨i, rfl⟩ := dn_pos ek hi c15
                    rw [show j_M_byteOf_h13 (f + 1) V x3 x4 x5 = j_M_byteOf_h13 f V x3 x4 (x5 + (-1)) from by rw [j_M_byteOf_h13, if_neg c15, if_neg c65, if_pos c137, if_neg c143, if_pos c157, if_pos c162, if_neg c170, if_neg c199]]
                    exact ih i x3 x4 (x5 + (-1)) V _ _ _ (dn_ek ek) (by omega) (by omega) hp hP hS (lv_sub hl [1, 2, 3, 0] rfl)
                  · have c199 : (m_deed V x5.toNatClampNeg) = 4 := c199
                    rw [if_pos c199] at hp
                    refine lv_iload S.1 S.2.1 d_M_byteOf_202 (lv_at hl 6 rfl) ?_
                    refine lv_if_eq (tgt := 213) S.1 S.2.1 d_M_byteOf_204 (by decide) (fun c204 => ?_) (fun c204 => ?_)
                    · have c204 : (j_M_byteOf_h39 V x3 x4 x5 (m_deed V x5.toNatClampNeg) (x4 - (m_where V x5.toNatClampNeg))) = 0 := c204
                      rw [if_pos c204] at hp
                      refine lv_iinc (v := x5 + (-1)) (lv' := [(5, .int (x5 + (-1))), (0, .ref (ad 0)), (3, .int x3), (4, .int x4), (6, .int (m_deed V x5.toNatClampNeg)), (7, .int (x4 - (m_where V x5.toNatClampNeg))), (8, .int (j_M_byteOf_h39 V x3 x4 x5 (m_deed V x5.toNatClampNeg) (x4 - (m_where V x5.toNatClampNeg))))]) S.1 S.2.1 d_M_byteOf_213 hl (k := 3) rfl rfl (by decide) rfl (fun ls hl => ?_)
                      refine lv_goto (tgt := 13) S.1 S.2.1 d_M_byteOf_216 (by decide) ?_
                      obtain ⟨i, rfl⟩ := dn_pos ek hi c15
                      rw [show j_M_byteOf_h13 (f + 1) V x3 x4 x5 = j_M_byteOf_h13 f V x3 x4 (x5 + (-1)) from by rw [j_M_byteOf_h13, if_neg c15, if_neg c65, if_pos c137, if_neg c143, if_pos c157, if_pos c162, if_neg c170, if_pos c199, if_pos c204]]
                      exact ih i x3 x4 (x5 + (-1)) V _ _ _ (dn_ek ek) (by omega) (by omega) hp hP hS (lv_sub hl [1, 2, 3, 0] rfl)
                    · have c204 : ¬ ((j_M_byteOf_h39 V x3 x4 x5 (m_deed V x5.toNatClampNeg) (x4 - (m_where V x5.toNatClampNeg))) = 0) := c204
                      rw [if_neg c204] at hp
                      refine lv_iconst (v := (-1)) S.1 S.2.1 d_M_byteOf_207 (by decide) ?_
                      refine lv_istore_n (lv' := [(3, .int (-1)), (0, .ref (ad 0)), (4, .int x4), (5, .int x5), (6, .int (m_deed V x5.toNatClampNeg)), (7, .int (x4 - (m_where V x5.toNatClampNeg))), (8, .int (j_M_byteOf_h39 V x3 x4 x5 (m_deed V x5.toNatClampNeg) (x4 - (m_where V x5.toNatClampNeg))))]) S.1 S.2.1 d_M_byteOf_208 rfl hl (by decide) rfl (fun ls hl => ?_)
                      refine lv_iload S.1 S.2.1 d_M_byteOf_209 (lv_at hl 5 rfl) ?_
                      refine lv_istore (lv' := [(4, .int (x4 - (m_where V x5.toNatClampNeg))), (3, .int (-1)), (0, .ref (ad 0)), (5, .int x5), (6, .int (m_deed V x5.toNatClampNeg)), (7, .int (x4 - (m_where V x5.toNatClampNeg))), (8, .int (j_M_byteOf_h39 V x3 x4 x5 (m_deed V x5.toNatClampNeg) (x4 - (m_where V x5.toNatClampNeg))))]) S.1 S.2.1 d_M_byteOf_211 hl (by decide) rfl (fun ls hl => ?_)
                      refine lv_iinc (v := x5 + (-1)) (lv' := [(5, .int (x5 + (-1))), (4, .int (x4 - (m_where V x5.toNatClampNeg))), (3, .int (-1)), (0, .ref (ad 0)), (6, .int (m_deed V x5.toNatClampNeg)), (7, .int (x4 - (m_where V x5.toNatClampNeg))), (8, .int (j_M_byteOf_h39 V x3 x4 x5 (m_deed V x5.toNatClampNeg) (x4 - (m_where V x5.toNatClampNeg))))]) S.1 S.2.1 d_M_byteOf_213 hl (k := 3) rfl rfl (by decide) rfl (fun ls hl => ?_)
                      refine lv_goto (tgt := 13) S.1 S.2.1 d_M_byteOf_216 (by decide) ?_
                      obtain ⟨i, rfl⟩ := dn_pos ek hi c15
                      rw [show j_M_byteOf_h13 (f + 1) V x3 x4 x5 = j_M_byteOf_h13 f V (-1) (x4 - (m_where V x5.toNatClampNeg)) (x5 + (-1)) from by rw [j_M_byteOf_h13, if_neg c15, if_neg c65, if_pos c137, if_neg c143, if_pos c157, if_pos c162, if_neg c170, if_pos c199, if_neg c204]]
                      exact ih i (-1) (x4 - (m_where V x5.toNatClampNeg)) (x5 + (-1)) V _ _ _ (dn_ek ek) (by omega) (by omega) hp hP hS (lv_sub hl [3, 2, 1, 0] rfl)
                · have c170 : (m_deed V x5.toNatClampNeg) = 3 := c170
                  rw [if_pos c170] at hp
                  refine lv_iload S.1 S.2.1 d_M_byteOf_173 (lv_at hl 6 rfl) ?_
                  refine lv_if_eq (tgt := 196) S.1 S.2.1 d_M_byteOf_175 (by decide) (fun c175 => ?_) (fun c175 => ?_)
                  · have c175 : (j_M_byteOf_h39 V x3 x4 x5 (m_deed V x5.toNatClampNeg) (x4 - (m_where V x5.toNatClampNeg))) = 0 := c175
                    rw [if_pos c175] at hp
                    refine lv_iload S.1 S.2.1 d_M_byteOf_196 (lv_at hl 4 rfl) ?_
                    refine lv_iconst (v := 4) S.1 S.2.1 d_M_byteOf_198 (by decide) ?_
                    refine lv_icmp_ne (tgt := 213) S.1 S.2.1 d_M_byteOf_199 (by decide) (fun c199 => ?_) (fun c199 => ?_)
                    · have c199 : ¬ ((m_deed V x5.toNatClampNeg) = 4) := c199
                      rw [if_neg c199] at hp
                      refine lv_iinc (v := x5 + (-1)) (lv' := [(5, .int (x5 + (-1))), (0, .ref (ad 0)), (3, .int x3), (4, .int x4), (6, .int (m_deed V x5.toNatClampNeg)), (7, .int (x4 - (m_where V x5.toNatClampNeg))), (8, .int (j_M_byteOf_h39 V x3 x4 x5 (m_deed V x5.toNatClampNeg) (x4 - (m_where V x5.toNatClampNeg))))]) S.1 S.2.1 d_M_byteOf_213 hl (k := 3) rfl rfl (by decide) rfl (fun ls hl => ?_)
                      refine lv_goto (tgt := 13) S.1 S.2.1 d_M_byteOf_216 (by decide) ?_
                      obtain ⟨i, rfl⟩ := dn_pos ek hi c15
                      rw [show j_M_byteOf_h13 (f + 1) V x3 x4 x5 = j_M_byteOf_h13 f V x3 x4 (x5 + (-1)) from by rw [j_M_byteOf_h13, if_neg c15, if_neg c65, if_pos c137, if_neg c143, if_pos c157, if_pos c162, if_pos c170, if_pos c175, if_neg c199]]
                      exact ih i x3 x4 (x5 + (-1)) V _ _ _ (dn_ek ek) (by omega) (by omega) hp hP hS (lv_sub hl [1, 2, 3, 0] rfl)
                    · have c199 : (m_deed V x5.toNatClampNeg) = 4 := c199
                      rw [if_pos c199] at hp
                      refine lv_iload S.1 S.2.1 d_M_byteOf_202 (lv_at hl 6 rfl) ?_
                      refine lv_if_eq (tgt := 213) S.1 S.2.1 d_M_byteOf_204 (by decide) (fun c204 => ?_) (fun c204 => ?_)
                      · have c204 : (j_M_byteOf_h39 V x3 x4 x5 (m_deed V x5.toNatClampNeg) (x4 - (m_where V x5.toNatClampNeg))) = 0 := c204
                        rw [if_pos c204] at hp
                        refine lv_iinc (v := x5 + (-1)) (lv' := [(5, .int (x5 + (-1))), (0, .ref (ad 0)), (3, .int x3), (4, .int x4), (6, .int (m_deed V x5.toNatClampNeg)), (7, .int (x4 - (m_where V x5.toNatClampNeg))), (8, .int (j_M_byteOf_h39 V x3 x4 x5 (m_deed V x5.toNatClampNeg) (x4 - (m_where V x5.toNatClampNeg))))]) S.1 S.2.1 d_M_byteOf_213 hl (k := 3) rfl rfl (by decide) rfl (fun ls hl => ?_)
                        refine lv_goto (tgt := 13) S.1 S.2.1 d_M_byteOf_216 (by decide) ?_
                        obtain ⟨i, rfl⟩ := dn_pos ek hi c15
                        rw [show j_M_byteOf_h13 (f + 1) V x3 x4 x5 = j_M_byteOf_h13 f V x3 x4 (x5 + (-1)) from by rw [j_M_byteOf_h13, if_neg c15, if_neg c65, if_pos c137, if_neg c143, if_pos c157, if_pos c162, if_pos c170, if_pos c175, if_pos c199, if_pos c204]]
                        exact ih i x3 x4 (x5 + (-1)) V _ _ _ (dn_ek ek) (by omega) (by omega) hp hP hS (lv_sub hl [1, 2, 3, 0] rfl)
                      · have c204 : ¬ ((j_M_byteOf_h39 V x3 x4 x5 (m_deed V x5.toNatClampNeg) (x4 - (m_where V x5.toNatClampNeg))) = 0) := c204
                        rw [if_neg c204] at hp
                        refine lv_iconst (v := (-1)) S.1 S.2.1 d_M_byteOf_207 (by decide) ?_
                        refine lv_istore_n (lv' := [(3, .int (-1)), (0, .ref (ad 0)), (4, .int x4), (5, .int x5), (6, .int (m_deed V x5.toNatClampNeg)), (7, .int (x4 - (m_where V x5.toNatClampNeg))), (8, .int (j_M_byteOf_h39 V x3 x4 x5 (m_deed V x5.toNatClampNeg) (x4 - (m_where V x5.toNatClampNeg))))]) S.1 S.2.1 d_M_byteOf_208 rfl hl (by decide) rfl (fun ls hl => ?_)
                        refine lv_iload S.1 S.2.1 d_M_byteOf_209 (lv_at hl 5 rfl) ?_
                        refine lv_istore (lv' := [(4, .int (x4 - (m_where V x5.toNatClampNeg))), (3, .int (-1)), (0, .ref (ad 0)), (5, .int x5), (6, .int (m_deed V x5.toNatClampNeg)), (7, .int (x4 - (m_where V x5.toNatClampNeg))), (8, .int (j_M_byteOf_h39 V x3 x4 x5 (m_deed V x5.toNatClampNeg) (x4 - (m_where V x5.toNatClampNeg))))]) S.1 S.2.1 d_M_byteOf_211 hl (by decide) rfl (fun ls hl => ?_)
                        refine lv_iinc (v := x5 + (-1)) (lv' := [(5, .int (x5 + (-1))), (4, .int (x4 - (m_where V x5.toNatClampNeg))), (3, .int (-1)), (0, .ref (ad 0)), (6, .int (m_deed V x5.toNatClampNeg)), (7, .int (x4 - (m_where V x5.toNatClampNeg))), (8, .int (j_M_byteOf_h39 V x3 x4 x5 (m_deed V x5.toNatClampNeg) (x4 - (m_where V x5.toNatClampNeg))))]) S.1 S.2.1 d_M_byteOf_213 hl (k := 3) rfl rfl (by decide) rfl (fun ls hl => ?_)
                        refine lv_goto (tgt := 13) S.1 S.2.1 d_M_byteOf_216 (by decide) ?_
                        obtain ⟨i, rfl⟩ := dn_pos ek hi c15
                        rw [show j_M_byteOf_h13 (f + 1) V x3 x4 x5 = j_M_byteOf_h13 f V (-1) (x4 - (m_where V x5.toNatClampNeg)) (x5 + (-1)) from by rw [j_M_byteOf_h13, if_neg c15, if_neg c65, if_pos c137, if_neg c143, if_pos c157, if_pos c162, if_pos c170, if_pos c175, if_pos c199, if_neg c204]]
                        exact ih i (-1) (x4 - (m_where V x5.toNatClampNeg)) (x5 + (-1)) V _ _ _ (dn_ek ek) (by omega) (by omega) hp hP hS (lv_sub hl [3, 2, 1, 0] rfl)
                  · have c175 : ¬ ((j_M_byteOf_h39 V x3 x4 x5 (m_deed V x5.toNatClampNeg) (x4 - (m_where V x5.toNatClampNeg))) = 0) := c175
                    rw [if_neg c175] at hp
                    refine lv_aload_n S.1 S.2.1 d_M_byteOf_178 rfl (lv_at hl 0 rfl) ?_
                    refine m_get_what S hK hP tg_64 d_M_byteOf_179 ?_
                    refine lv_iload S.1 S.2.1 d_M_byteOf_182 (lv_at hl 3 rfl) ?_
                    refine m_ald_what S hK hP o1 d_M_byteOf_184 ?_
                    refine lv_bipush (v := 8) S.1 S.2.1 d_M_byteOf_185 (by decide) ?_
                    refine lv_iload S.1 S.2.1 d_M_byteOf_187 (lv_at hl 5 rfl) ?_
                    refine lv_imul S.1 S.2.1 d_M_byteOf_189 ?_
                    refine lv_iushr (v := ju (m_what V x5.toNatClampNeg) (8 * (x4 - (m_where V x5.toNatClampNeg)))) S.1 S.2.1 d_M_byteOf_190 rfl ?_
                    refine lv_sipush (v := 255) S.1 S.2.1 d_M_byteOf_191 (by decide) ?_
                    refine lv_iand S.1 S.2.1 d_M_byteOf_194 ?_
                    rw [show j_M_byteOf_h13 (f + 1) V x3 x4 x5 = (ju (m_what V x5.toNatClampNeg) (8 * (x4 - (m_where V x5.toNatClampNeg)))) &&& 255 from by rw [j_M_byteOf_h13, if_neg c15, if_neg c65, if_pos c137, if_neg c143, if_pos c157, if_pos c162, if_pos c170, if_neg c175]]
                    exact m_iret S hr hlk hP hS d_M_byteOf_195
              · have c162 : ¬ ((j_M_byteOf_h39 V x3 x4 x5 (m_deed V x5.toNatClampNeg) (x4 - (m_where V x5.toNatClampNeg))) = 0) := c162
                rw [if_neg c162] at hp
                refine lv_iconst (v := 0) S.1 S.2.1 d_M_byteOf_165 (by decide) ?_
                rw [show j_M_byteOf_h13 (f + 1) V x3 x4 x5 = 0 from by rw [j_M_byteOf_h13, if_neg c15, if_neg c65, if_pos c137, if_neg c143, if_pos c157, if_neg c162]]
                exact m_iret S hr hlk hP hS d_M_byteOf_166
          · have c143 : (m_deed V x5.toNatClampNeg) = 1 := c143
            rw [if_pos c143] at hp
            refine lv_aload_n S.1 S.2.1 d_M_byteOf_146 rfl (lv_at hl 0 rfl) ?_
            refine m_get_what S hK hP tg_64 d_M_byteOf_147 ?_
            refine lv_iload S.1 S.2.1 d_M_byteOf_150 (lv_at hl 3 rfl) ?_
            refine m_ald_what S hK hP o1 d_M_byteOf_152 ?_
            refine lv_istore_n (lv' := [(3, .int (m_what V x5.toNatClampNeg)), (0, .ref (ad 0)), (4, .int x4), (5, .int x5), (6, .int (m_deed V x5.toNatClampNeg)), (7, .int (x4 - (m_where V x5.toNatClampNeg))), (8, .int (j_M_byteOf_h39 V x3 x4 x5 (m_deed V x5.toNatClampNeg) (x4 - (m_where V x5.toNatClampNeg))))]) S.1 S.2.1 d_M_byteOf_153 rfl hl (by decide) rfl (fun ls hl => ?_)
            refine lv_iload S.1 S.2.1 d_M_byteOf_154 (lv_at hl 4 rfl) ?_
            refine lv_iconst (v := 2) S.1 S.2.1 d_M_byteOf_156 (by decide) ?_
            refine lv_icmp_ne (tgt := 167) S.1 S.2.1 d_M_byteOf_157 (by decide) (fun c157 => ?_) (fun c157 => ?_)
            · have c157 : ¬ ((m_deed V x5.toNatClampNeg) = 2) := c157
              rw [if_neg c157] at hp
              refine lv_iload S.1 S.2.1 d_M_byteOf_167 (lv_at hl 4 rfl) ?_
              refine lv_iconst (v := 3) S.1 S.2.1 d_M_byteOf_169 (by decide) ?_
              refine lv_icmp_ne (tgt := 196) S.1 S.2.1 d_M_byteOf_170 (by decide) (fun c170 => ?_) (fun c170 => ?_)
              · have c170 : ¬ ((m_deed V x5.toNatClampNeg) = 3) := c170
                rw [if_neg c170] at hp
                refine lv_iload S.1 S.2.1 d_M_byteOf_196 (lv_at hl 4 rfl) ?_
                refine lv_iconst (v := 4) S.1 S.2.1 d_M_byteOf_198 (by decide) ?_
                refine lv_icmp_ne (tgt := 213) S.1 S.2.1 d_M_byteOf_199 (by decide) (fun c199 => ?_) (fun c199 => ?_)
                · have c199 : ¬ ((m_deed V x5.toNatClampNeg) = 4) := c199
                  rw [if_neg c199] at hp
                  refine lv_iinc (v := x5 + (-1)) (lv' := [(5, .int (x5 + (-1))), (3, .int (m_what V x5.toNatClampNeg)), (0, .ref (ad 0)), (4, .int x4), (6, .int (m_deed V x5.toNatClampNeg)), (7, .int (x4 - (m_where V x5.toNatClampNeg))), (8, .int (j_M_byteOf_h39 V x3 x4 x5 (m_deed V x5.toNatClampNeg) (x4 - (m_where V x5.toNatClampNeg))))]) S.1 S.2.1 d_M_byteOf_213 hl (k := 3) rfl rfl (by decide) rfl (fun ls hl => ?_)
                  refine lv_goto (tgt := 13) S.1 S.2.1 d_M_byteOf_216 (by decide) ?_
                  obtain ⟨i, rfl⟩ := dn_pos ek hi c15
                  rw [show j_M_byteOf_h13 (f + 1) V x3 x4 x5 = j_M_byteOf_h13 f V (m_what V x5.toNatClampNeg) x4 (x5 + (-1)) from by rw [j_M_byteOf_h13, if_neg c15, if_neg c65, if_pos c137, if_pos c143, if_neg c157, if_neg c170, if_neg c199]]
                  exact ih i (m_what V x5.toNatClampNeg) x4 (x5 + (-1)) V _ _ _ (dn_ek ek) (by omega) (by omega) hp hP hS (lv_sub hl [2, 1, 3, 0] rfl)
                · have c199 : (m_deed V x5.toNatClampNeg) = 4 := c199
                  rw [if_pos c199] at hp
                  refine lv_iload S.1 S.2.1 d_M_byteOf_202 (lv_at hl 6 rfl) ?_
                  refine lv_if_eq (tgt := 213) S.1 S.2.1 d_M_byteOf_204 (by decide) (fun c204 => ?_) (fun c204 => ?_)
                  · have c204 : (j_M_byteOf_h39 V x3 x4 x5 (m_deed V x5.toNatClampNeg) (x4 - (m_where V x5.toNatClampNeg))) = 0 := c204
                    rw [if_pos c204] at hp
                    refine lv_iinc (v := x5 + (-1)) (lv' := [(5, .int (x5 + (-1))), (3, .int (m_what V x5.toNatClampNeg)), (0, .ref (ad 0)), (4, .int x4), (6, .int (m_deed V x5.toNatClampNeg)), (7, .int (x4 - (m_where V x5.toNatClampNeg))), (8, .int (j_M_byteOf_h39 V x3 x4 x5 (m_deed V x5.toNatClampNeg) (x4 - (m_where V x5.toNatClampNeg))))]) S.1 S.2.1 d_M_byteOf_213 hl (k := 3) rfl rfl (by decide) rfl (fun ls hl => ?_)
                    refine lv_goto (tgt := 13) S.1 S.2.1 d_M_byteOf_216 (by decide) ?_
                    obtain ⟨i, rfl⟩ := dn_pos ek hi c15
                    rw [show j_M_byteOf_h13 (f + 1) V x3 x4 x5 = j_M_byteOf_h13 f V (m_what V x5.toNatClampNeg) x4 (x5 + (-1)) from by rw [j_M_byteOf_h13, if_neg c15, if_neg c65, if_pos c137, if_pos c143, if_neg c157, if_neg c170, if_pos c199, if_pos c204]]
                    exact ih i (m_what V x5.toNatClampNeg) x4 (x5 + (-1)) V _ _ _ (dn_ek ek) (by omega) (by omega) hp hP hS (lv_sub hl [2, 1, 3, 0] rfl)
                  · have c204 : ¬ ((j_M_byteOf_h39 V x3 x4 x5 (m_deed V x5.toNatClampNeg) (x4 - (m_where V x5.toNatClampNeg))) = 0) := c204
                    rw [if_neg c204] at hp
                    refine lv_iconst (v := (-1)) S.1 S.2.1 d_M_byteOf_207 (by decide) ?_
                    refine lv_istore_n (lv' := [(3, .int (-1)), (0, .ref (ad 0)), (4, .int x4), (5, .int x5), (6, .int (m_deed V x5.toNatClampNeg)), (7, .int (x4 - (m_where V x5.toNatClampNeg))), (8, .int (j_M_byteOf_h39 V x3 x4 x5 (m_deed V x5.toNatClampNeg) (x4 - (m_where V x5.toNatClampNeg))))]) S.1 S.2.1 d_M_byteOf_208 rfl hl (by decide) rfl (fun ls hl => ?_)
                    refine lv_iload S.1 S.2.1 d_M_byteOf_209 (lv_at hl 5 rfl) ?_
                    refine lv_istore (lv' := [(4, .int (x4 - (m_where V x5.toNatClampNeg))), (3, .int (-1)), (0, .ref (ad 0)), (5, .int x5), (6, .int (m_deed V x5.toNatClampNeg)), (7, .int (x4 - (m_where V x5.toNatClampNeg))), (8, .int (j_M_byteOf_h39 V x3 x4 x5 (m_deed V x5.toNatClampNeg) (x4 - (m_where V x5.toNatClampNeg))))]) S.1 S.2.1 d_M_byteOf_211 hl (by decide) rfl (fun ls hl => ?_)
                    refine lv_iinc (v := x5 + (-1)) (lv' := [(5, .int (x5 + (-1))), (4, .int (x4 - (m_where V x5.toNatClampNeg))), (3, .int (-1)), (0, .ref (ad 0)), (6, .int (m_deed V x5.toNatClampNeg)), (7, .int (x4 - (m_where V x5.toNatClampNeg))), (8, .int (j_M_byteOf_h39 V x3 x4 x5 (m_deed V x5.toNatClampNeg) (x4 - (m_where V x5.toNatClampNeg))))]) S.1 S.2.1 d_M_byteOf_213 hl (k := 3) rfl rfl (by decide) rfl (fun ls hl => ?_)
                    refine lv_goto (tgt := 13) S.1 S.2.1 d_M_byteOf_216 (by decide) ?_
                    obtain ⟨i, rfl⟩ := dn_pos ek hi c15
                    rw [show j_M_byteOf_h13 (f + 1) V x3 x4 x5 = j_M_byteOf_h13 f V (-1) (x4 - (m_where V x5.toNatClampNeg)) (x5 + (-1)) from by rw [j_M_byteOf_h13, if_neg c15, if_neg c65, if_pos c137, if_pos c143, if_neg c157, if_neg c170, if_pos c199, if_neg c204]]
                    exact ih i (-1) (x4 - (m_where V x5.toNatClampNeg)) (x5 + (-1)) V _ _ _ (dn_ek ek) (by omega) (by omega) hp hP hS (lv_sub hl [3, 2, 1, 0] rfl)
              · have c170 : (m_deed V x5.toNatClampNeg) = 3 := c170
                rw [if_pos c170] at hp
                refine lv_iload S.1 S.2.1 d_M_byteOf_173 (lv_at hl 6 rfl) ?_
                refine lv_if_eq (tgt := 196) S.1 S.2.1 d_M_byteOf_175 (by decide) (fun c175 => ?_) (fun c175 => ?_)
                · have c175 : (j_M_byteOf_h39 V x3 x4 x5 (m_deed V x5.toNatClampNeg) (x4 - (m_where V x5.toNatClampNeg))) = 0 := c175
                  rw [if_pos c175] at hp
                  refine lv_iload S.1 S.2.1 d_M_byteOf_196 (lv_at hl 4 rfl) ?_
                  refine lv_iconst (v := 4) S.1 S.2.1 d_M_byteOf_198 (by decide) ?_
                  refine lv_icmp_ne (tgt := 213) S.1 S.2.1 d_M_byteOf_199 (by decide) (fun c199 => ?_) (fun c199 => ?_)
                  · have c199 : ¬ ((m_deed V x5.toNatClampNeg) = 4) := c199
                    rw [if_neg c199] at hp
                    refine lv_iinc (v := x5 + (-1)) (lv' := [(5, .int (x5 + (-1))), (3, .int (m_what V x5.toNatClampNeg)), (0, .ref (ad 0)), (4, .int x4), (6, .int (m_deed V x5.toNatClampNeg)), (7, .int (x4 - (m_where V x5.toNatClampNeg))), (8, .int (j_M_byteOf_h39 V x3 x4 x5 (m_deed V x5.toNatClampNeg) (x4 - (m_where V x5.toNatClampNeg))))]) S.1 S.2.1 d_M_byteOf_213 hl (k := 3) rfl rfl (by decide) rfl (fun ls hl => ?_)
                    refine lv_goto (tgt := 13) S.1 S.2.1 d_M_byteOf_216 (by decide) ?_
                    obtain ⟨i, rfl⟩ := dn_pos ek hi c15
                    rw [show j_M_byteOf_h13 (f + 1) V x3 x4 x5 = j_M_byteOf_h13 f V (m_what V x5.toNatClampNeg) x4 (x5 + (-1)) from by rw [j_M_byteOf_h13, if_neg c15, if_neg c65, if_pos c137, if_pos c143, if_neg c157, if_pos c170, if_pos c175, if_neg c199]]
                    exact ih i (m_what V x5.toNatClampNeg) x4 (x5 + (-1)) V _ _ _ (dn_ek ek) (by omega) (by omega) hp hP hS (lv_sub hl [2, 1, 3, 0] rfl)
                  · have c199 : (m_deed V x5.toNatClampNeg) = 4 := c199
                    rw [if_pos c199] at hp
                    refine lv_iload S.1 S.2.1 d_M_byteOf_202 (lv_at hl 6 rfl) ?_
                    refine lv_if_eq (tgt := 213) S.1 S.2.1 d_M_byteOf_204 (by decide) (fun c204 => ?_) (fun c204 => ?_)
                    · have c204 : (j_M_byteOf_h39 V x3 x4 x5 (m_deed V x5.toNatClampNeg) (x4 - (m_where V x5.toNatClampNeg))) = 0 := c204
                      rw [if_pos c204] at hp
                      refine lv_iinc (v := x5 + (-1)) (lv' := [(5, .int (x5 + (-1))), (3, .int (m_what V x5.toNatClampNeg)), (0, .ref (ad 0)), (4, .int x4), (6, .int (m_deed V x5.toNatClampNeg)), (7, .int (x4 - (m_where V x5.toNatClampNeg))), (8, .int (j_M_byteOf_h39 V x3 x4 x5 (m_deed V x5.toNatClampNeg) (x4 - (m_where V x5.toNatClampNeg))))]) S.1 S.2.1 d_M_byteOf_213 hl (k := 3) rfl rfl (by decide) rfl (fun ls hl => ?_)
                      refine lv_goto (tgt := 13) S.1 S.2.1 d_M_byteOf_216 (by decide) ?_
                      obtain ⟨i, rfl⟩ := dn_pos ek hi c15
                      rw [show j_M_byteOf_h13 (f + 1) V x3 x4 x5 = j_M_byteOf_h13 f V (m_what V x5.toNatClampNeg) x4 (x5 + (-1)) from by rw [j_M_byteOf_h13, if_neg c15, if_neg c65, if_pos c137, if_pos c143, if_neg c157, if_pos c170, if_pos c175, if_pos c199, if_pos c204]]
                      exact ih i (m_what V x5.toNatClampNeg) x4 (x5 + (-1)) V _ _ _ (dn_ek ek) (by omega) (by omega) hp hP hS (lv_sub hl [2, 1, 3, 0] rfl)
                    · have c204 : ¬ ((j_M_byteOf_h39 V x3 x4 x5 (m_deed V x5.toNatClampNeg) (x4 - (m_where V x5.toNatClampNeg))) = 0) := c204
                      rw [if_neg c204] at hp
                      refine lv_iconst (v := (-1)) S.1 S.2.1 d_M_byteOf_207 (by decide) ?_
                      refine lv_istore_n (lv' := [(3, .int (-1)), (0, .ref (ad 0)), (4, .int x4), (5, .int x5), (6, .int (m_deed V x5.toNatClampNeg)), (7, .int (x4 - (m_where V x5.toNatClampNeg))), (8, .int (j_M_byteOf_h39 V x3 x4 x5 (m_deed V x5.toNatClampNeg) (x4 - (m_where V x5.toNatClampNeg))))]) S.1 S.2.1 d_M_byteOf_208 rfl hl (by decide) rfl (fun ls hl => ?_)
                      refine lv_iload S.1 S.2.1 d_M_byteOf_209 (lv_at hl 5 rfl) ?_
                      refine lv_istore (lv' := [(4, .int (x4 - (m_where V x5.toNatClampNeg))), (3, .int (-1)), (0, .ref (ad 0)), (5, .int x5), (6, .int (m_deed V x5.toNatClampNeg)), (7, .int (x4 - (m_where V x5.toNatClampNeg))), (8, .int (j_M_byteOf_h39 V x3 x4 x5 (m_deed V x5.toNatClampNeg) (x4 - (m_where V x5.toNatClampNeg))))]) S.1 S.2.1 d_M_byteOf_211 hl (by decide) rfl (fun ls hl => ?_)
                      refine lv_iinc (v := x5 + (-1)) (lv' := [(5, .int (x5 + (-1))), (4, .int (x4 - (m_where V x5.toNatClampNeg))), (3, .int (-1)), (0, .ref (ad 0)), (6, .int (m_deed V x5.toNatClampNeg)), (7, .int (x4 - (m_where V x5.toNatClampNeg))), (8, .int (j_M_byteOf_h39 V x3 x4 x5 (m_deed V x5.toNatClampNeg) (x4 - (m_where V x5.toNatClampNeg))))]) S.1 S.2.1 d_M_byteOf_213 hl (k := 3) rfl rfl (by decide) rfl (fun ls hl => ?_)
                      refine lv_goto (tgt := 13) S.1 S.2.1 d_M_byteOf_216 (by decide) ?_
                      obtain ⟨i, rfl⟩ := dn_pos ek hi c15
                      rw [show j_M_byteOf_h13 (f + 1) V x3 x4 x5 = j_M_byteOf_h13 f V (-1) (x4 - (m_where V x5.toNatClampNeg)) (x5 + (-1)) from by rw [j_M_byteOf_h13, if_neg c15, if_neg c65, if_pos c137, if_pos c143, if_neg c157, if_pos c170, if_pos c175, if_pos c199, if_neg c204]]
                      exact ih i (-1) (x4 - (m_where V x5.toNatClampNeg)) (x5 + (-1)) V _ _ _ (dn_ek ek) (by omega) (by omega) hp hP hS (lv_sub hl [3, 2, 1, 0] rfl)
                · have c175 : ¬ ((j_M_byteOf_h39 V x3 x4 x5 (m_deed V x5.toNatClampNeg) (x4 - (m_where V x5.toNatClampNeg))) = 0) := c175
                  rw [if_neg c175] at hp
                  refine lv_aload_n S.1 S.2.1 d_M_byteOf_178 rfl (lv_at hl 1 rfl) ?_
                  refine m_get_what S hK hP tg_64 d_M_byteOf_179 ?_
                  refine lv_iload S.1 S.2.1 d_M_byteOf_182 (lv_at hl 3 rfl) ?_
                  refine m_ald_what S hK hP o1 d_M_byteOf_184 ?_
                  refine lv_bipush (v := 8) S.1 S.2.1 d_M_byteOf_185 (by decide) ?_
                  refine lv_iload S.1 S.2.1 d_M_byteOf_187 (lv_at hl 5 rfl) ?_
                  refine lv_imul S.1 S.2.1 d_M_byteOf_189 ?_
                  refine lv_iushr (v := ju (m_what V x5.toNatClampNeg) (8 * (x4 - (m_where V x5.toNatClampNeg)))) S.1 S.2.1 d_M_byteOf_190 rfl ?_
                  refine lv_sipush (v := 255) S.1 S.2.1 d_M_byteOf_191 (by decide) ?_
                  refine lv_iand S.1 S.2.1 d_M_byteOf_194 ?_
                  rw [show j_M_byteOf_h13 (f + 1) V x3 x4 x5 = (ju (m_what V x5.toNatClampNeg) (8 * (x4 - (m_where V x5.toNatClampNeg)))) &&& 255 from by rw [j_M_byteOf_h13, if_neg c15, if_neg c65, if_pos c137, if_pos c143, if_neg c157, if_pos c170, if_neg c175]]
                  exact m_iret S hr hlk hP hS d_M_byteOf_195
            · have c157 : (m_deed V x5.toNatClampNeg) = 2 := c157
              rw [if_pos c157] at hp
              refine lv_iload S.1 S.2.1 d_M_byteOf_160 (lv_at hl 6 rfl) ?_
              refine lv_if_eq (tgt := 167) S.1 S.2.1 d_M_byteOf_162 (by decide) (fun c162 => ?_) (fun c162 => ?_)
              · have c162 : (j_M_byteOf_h39 V x3 x4 x5 (m_deed V x5.toNatClampNeg) (x4 - (m_where V x5.toNatClampNeg))) = 0 := c162
                rw [if_pos c162] at hp
                refine lv_iload S.1 S.2.1 d_M_byteOf_167 (lv_at hl 4 rfl) ?_
                refine lv_iconst (v := 3) S.1 S.2.1 d_M_byteOf_169 (by decide) ?_
                refine lv_icmp_ne (tgt := 196) S.1 S.2.1 d_M_byteOf_170 (by decide) (fun c170 => ?_) (fun c170 => ?_)
                · have c170 : ¬ ((m_deed V x5.toNatClampNeg) = 3) := c170
                  rw [if_neg c170] at hp
                  refine lv_iload S.1 S.2.1 d_M_byteOf_196 (lv_at hl 4 rfl) ?_
                  refine lv_iconst (v := 4) S.1 S.2.1 d_M_byteOf_198 (by decide) ?_
                  refine lv_icmp_ne (tgt := 213) S.1 S.2.1 d_M_byteOf_199 (by decide) (fun c199 => ?_) (fun c199 => ?_)
                  · have c199 : ¬ ((m_deed V x5.toNatClampNeg) = 4) := c199
                    rw [if_neg c199] at hp
                    refine lv_iinc (v := x5 + (-1)) (lv' := [(5, .int (x5 + (-1))), (3, .int (m_what V x5.toNatClampNeg)), (0, .ref (ad 0)), (4, .int x4), (6, .int (m_deed V x5.toNatClampNeg)), (7, .int (x4 - (m_where V x5.toNatClampNeg))), (8, .int (j_M_byteOf_h39 V x3 x4 x5 (m_deed V x5.toNatClampNeg) (x4 - (m_where V x5.toNatClampNeg))))]) S.1 S.2.1 d_M_byteOf_213 hl (k := 3) rfl rfl (by decide) rfl (fun ls hl => ?_)
                    refine lv_goto (tgt := 13) S.1 S.2.1 d_M_byteOf_216 (by decide) ?_
                    obtain ⟨i, rfl⟩ := dn_pos ek hi c15
                    rw [show j_M_byteOf_h13 (f + 1) V x3 x4 x5 = j_M_byteOf_h13 f V (m_what V x5.toNatClampNeg) x4 (x5 + (-1)) from by rw [j_M_byteOf_h13, if_neg c15, if_neg c65, if_pos c137, if_pos c143, if_pos c157, if_pos c162, if_neg c170, if_neg c199]]
                    exact ih i (m_what V x5.toNatClampNeg) x4 (x5 + (-1)) V _ _ _ (dn_ek ek) (by omega) (by omega) hp hP hS (lv_sub hl [2, 1, 3, 0] rfl)
                  · have c199 : (m_deed V x5.toNatClampNeg) = 4 := c199
                    rw [if_pos c199] at hp
                    refine lv_iload S.1 S.2.1 d_M_byteOf_202 (lv_at hl 6 rfl) ?_
                    refine lv_if_eq (tgt := 213) S.1 S.2.1 d_M_byteOf_204 (by decide) (fun c204 => ?_) (fun c204 => ?_)
                    · have c204 : (j_M_byteOf_h39 V x3 x4 x5 (m_deed V x5.toNatClampNeg) (x4 - (m_where V x5.toNatClampNeg))) = 0 := c204
                      rw [if_pos c204] at hp
                      refine lv_iinc (v := x5 + (-1)) (lv' := [(5, .int (x5 + (-1))), (3, .int (m_what V x5.toNatClampNeg)), (0, .ref (ad 0)), (4, .int x4), (6, .int (m_deed V x5.toNatClampNeg)), (7, .int (x4 - (m_where V x5.toNatClampNeg))), (8, .int (j_M_byteOf_h39 V x3 x4 x5 (m_deed V x5.toNatClampNeg) (x4 - (m_where V x5.toNatClampNeg))))]) S.1 S.2.1 d_M_byteOf_213 hl (k := 3) rfl rfl (by decide) rfl (fun ls hl => ?_)
                      refine lv_goto (tgt := 13) S.1 S.2.1 d_M_byteOf_216 (by decide) ?_
                      obtain ⟨i, rfl⟩ := dn_pos ek hi c15
                      rw [show j_M_byteOf_h13 (f + 1) V x3 x4 x5 = j_M_byteOf_h13 f V (m_what V x5.toNatClampNeg) x4 (x5 + (-1)) from by rw [j_M_byteOf_h13, if_neg c15, if_neg c65, if_pos c137, if_pos c143, if_pos c157, if_pos c162, if_neg c170, if_pos c199, if_pos c204]]
                      exact ih i (m_what V x5.toNatClampNeg) x4 (x5 + (-1)) V _ _ _ (dn_ek ek) (by omega) (by omega) hp hP hS (lv_sub hl [2, 1, 3, 0] rfl)
                    · have c204 : ¬ ((j_M_byteOf_h39 V x3 x4 x5 (m_deed V x5.toNatClampNeg) (x4 - (m_where V x5.toNatClampNeg))) = 0) := c204
                      rw [if_neg c204] at hp
                      refine lv_iconst (v := (-1)) S.1 S.2.1 d_M_byteOf_207 (by decide) ?_
                      refine lv_istore_n (lv' := [(3, .int (-1)), (0, .ref (ad 0)), (4, .int x4), (5, .int x5), (6, .int (m_deed V x5.toNatClampNeg)), (7, .int (x4 - (m_where V x5.toNatClampNeg))), (8, .int (j_M_byteOf_h39 V x3 x4 x5 (m_deed V x5.toNatClampNeg) (x4 - (m_where V x5.toNatClampNeg))))]) S.1 S.2.1 d_M_byteOf_208 rfl hl (by decide) rfl (fun ls hl => ?_)
                      refine lv_iload S.1 S.2.1 d_M_byteOf_209 (lv_at hl 5 rfl) ?_
                      refine lv_istore (lv' := [(4, .int (x4 - (m_where V x5.toNatClampNeg))), (3, .int (-1)), (0, .ref (ad 0)), (5, .int x5), (6, .int (m_deed V x5.toNatClampNeg)), (7, .int (x4 - (m_where V x5.toNatClampNeg))), (8, .int (j_M_byteOf_h39 V x3 x4 x5 (m_deed V x5.toNatClampNeg) (x4 - (m_where V x5.toNatClampNeg))))]) S.1 S.2.1 d_M_byteOf_211 hl (by decide) rfl (fun ls hl => ?_)
                      refine lv_iinc (v := x5 + (-1)) (lv' := [(5, .int (x5 + (-1))), (4, .int (x4 - (m_where V x5.toNatClampNeg))), (3, .int (-1)), (0, .ref (ad 0)), (6, .int (m_deed V x5.toNatClampNeg)), (7, .int (x4 - (m_where V x5.toNatClampNeg))), (8, .int (j_M_byteOf_h39 V x3 x4 x5 (m_deed V x5.toNatClampNeg) (x4 - (m_where V x5.toNatClampNeg))))]) S.1 S.2.1 d_M_byteOf_213 hl (k := 3) rfl rfl (by decide) rfl (fun ls hl => ?_)
                      refine lv_goto (tgt := 13) S.1 S.2.1 d_M_byteOf_216 (by decide) ?_
                      obtain ⟨i, rfl⟩ := dn_pos ek hi c15
                      rw [show j_M_byteOf_h13 (f + 1) V x3 x4 x5 = j_M_byteOf_h13 f V (-1) (x4 - (m_where V x5.toNatClampNeg)) (x5 + (-1)) from by rw [j_M_byteOf_h13, if_neg c15, if_neg c65, if_pos c137, if_pos c143, if_pos c157, if_pos c162, if_neg c170, if_pos c199, if_neg c204]]
                      exact ih i (-1) (x4 - (m_where V x5.toNatClampNeg)) (x5 + (-1)) V _ _ _ (dn_ek ek) (by omega) (by omega) hp hP hS (lv_sub hl [3, 2, 1, 0] rfl)
                · have c170 : (m_deed V x5.toNatClampNeg) = 3 := c170
                  rw [if_pos c170] at hp
                  refine lv_iload S.1 S.2.1 d_M_byteOf_173 (lv_at hl 6 rfl) ?_
                  refine lv_if_eq (tgt := 196) S.1 S.2.1 d_M_byteOf_175 (by decide) (fun c175 => ?_) (fun c175 => ?_)
                  · have c175 : (j_M_byteOf_h39 V x3 x4 x5 (m_deed V x5.toNatClampNeg) (x4 - (m_where V x5.toNatClampNeg))) = 0 := c175
                    rw [if_pos c175] at hp
                    refine lv_iload S.1 S.2.1 d_M_byteOf_196 (lv_at hl 4 rfl) ?_
                    refine lv_iconst (v := 4) S.1 S.2.1 d_M_byteOf_198 (by decide) ?_
                    refine lv_icmp_ne (tgt := 213) S.1 S.2.1 d_M_byteOf_199 (by decide) (fun c199 => ?_) (fun c199 => ?_)
                    · have c199 : ¬ ((m_deed V x5.toNatClampNeg) = 4) := c199
                      rw [if_neg c199] at hp
                      refine lv_iinc (v := x5 + (-1)) (lv' := [(5, .int (x5 + (-1))), (3, .int (m_what V x5.toNatClampNeg)), (0, .ref (ad 0)), (4, .int x4), (6, .int (m_deed V x5.toNatClampNeg)), (7, .int (x4 - (m_where V x5.toNatClampNeg))), (8, .int (j_M_byteOf_h39 V x3 x4 x5 (m_deed V x5.toNatClampNeg) (x4 - (m_where V x5.toNatClampNeg))))]) S.1 S.2.1 d_M_byteOf_213 hl (k := 3) rfl rfl (by decide) rfl (fun ls hl => ?_)
                      refine lv_goto (tgt := 13) S.1 S.2.1 d_M_byteOf_216 (by decide) ?_
                      obtain ⟨i, rfl⟩ := dn_pos ek hi c15
                      rw [show j_M_byteOf_h13 (f + 1) V x3 x4 x5 = j_M_byteOf_h13 f V (m_what V x5.toNatClampNeg) x4 (x5 + (-1)) from by rw [j_M_byteOf_h13, if_neg c15, if_neg c65, if_pos c137, if_pos c143, if_pos c157, if_pos c162, if_pos c170, if_pos c175, if_neg c199]]
                      exact ih i (m_what V x5.toNatClampNeg) x4 (x5 + (-1)) V _ _ _ (dn_ek ek) (by omega) (by omega) hp hP hS (lv_sub hl [2, 1, 3, 0] rfl)
                    · have c199 : (m_deed V x5.toNatClampNeg) = 4 := c199
                      rw [if_pos c199] at hp
                      refine lv_iload S.1 S.2.1 d_M_byteOf_202 (lv_at hl 6 rfl) ?_
                      refine lv_if_eq (tgt := 213) S.1 S.2.1 d_M_byteOf_204 (by decide) (fun c204 => ?_) (fun c204 => ?_)
                      · have c204 : (j_M_byteOf_h39 V x3 x4 x5 (m_deed V x5.toNatClampNeg) (x4 - (m_where V x5.toNatClampNeg))) = 0 := c204
                        rw [if_pos c204] at hp
                        refine lv_iinc (v := x5 + (-1)) (lv' := [(5, .int (x5 + (-1))), (3, .int (m_what V x5.toNatClampNeg)), (0, .ref (ad 0)), (4, .int x4), (6, .int (m_deed V x5.toNatClampNeg)), (7, .int (x4 - (m_where V x5.toNatClampNeg))), (8, .int (j_M_byteOf_h39 V x3 x4 x5 (m_deed V x5.toNatClampNeg) (x4 - (m_where V x5.toNatClampNeg))))]) S.1 S.2.1 d_M_byteOf_213 hl (k := 3) rfl rfl (by decide) rfl (fun ls hl => ?_)
                        refine lv_goto (tgt := 13) S.1 S.2.1 d_M_byteOf_216 (by decide) ?_
                        obtain ⟨i, rfl⟩ := dn_pos ek hi c15
                        rw [show j_M_byteOf_h13 (f + 1) V x3 x4 x5 = j_M_byteOf_h13 f V (m_what V x5.toNatClampNeg) x4 (x5 + (-1)) from by rw [j_M_byteOf_h13, if_neg c15, if_neg c65, if_pos c137, if_pos c143, if_pos c157, if_pos c162, if_pos c170, if_pos c175, if_pos c199, if_pos c204]]
                        exact ih i (m_what V x5.toNatClampNeg) x4 (x5 + (-1)) V _ _ _ (dn_ek ek) (by omega) (by omega) hp hP hS (lv_sub hl [2, 1, 3, 0] rfl)
                      · have c204 : ¬ ((j_M_byteOf_h39 V x3 x4 x5 (m_deed V x5.toNatClampNeg) (x4 - (m_where V x5.toNatClampNeg))) = 0) := c204
                        rw [if_neg c204] at hp
                        refine lv_iconst (v := (-1)) S.1 S.2.1 d_M_byteOf_207 (by decide) ?_
                        refine lv_istore_n (lv' := [(3, .int (-1)), (0, .ref (ad 0)), (4, .int x4), (5, .int x5), (6, .int (m_deed V x5.toNatClampNeg)), (7, .int (x4 - (m_where V x5.toNatClampNeg))), (8, .int (j_M_byteOf_h39 V x3 x4 x5 (m_deed V x5.toNatClampNeg) (x4 - (m_where V x5.toNatClampNeg))))]) S.1 S.2.1 d_M_byteOf_208 rfl hl (by decide) rfl (fun ls hl => ?_)
                        refine lv_iload S.1 S.2.1 d_M_byteOf_209 (lv_at hl 5 rfl) ?_
                        refine lv_istore (lv' := [(4, .int (x4 - (m_where V x5.toNatClampNeg))), (3, .int (-1)), (0, .ref (ad 0)), (5, .int x5), (6, .int (m_deed V x5.toNatClampNeg)), (7, .int (x4 - (m_where V x5.toNatClampNeg))), (8, .int (j_M_byteOf_h39 V x3 x4 x5 (m_deed V x5.toNatClampNeg) (x4 - (m_where V x5.toNatClampNeg))))]) S.1 S.2.1 d_M_byteOf_211 hl (by decide) rfl (fun ls hl => ?_)
                        refine lv_iinc (v := x5 + (-1)) (lv' := [(5, .int (x5 + (-1))), (4, .int (x4 - (m_where V x5.toNatClampNeg))), (3, .int (-1)), (0, .ref (ad 0)), (6, .int (m_deed V x5.toNatClampNeg)), (7, .int (x4 - (m_where V x5.toNatClampNeg))), (8, .int (j_M_byteOf_h39 V x3 x4 x5 (m_deed V x5.toNatClampNeg) (x4 - (m_where V x5.toNatClampNeg))))]) S.1 S.2.1 d_M_byteOf_213 hl (k := 3) rfl rfl (by decide) rfl (fun ls hl => ?_)
                        refine lv_goto (tgt := 13) S.1 S.2.1 d_M_byteOf_216 (by decide) ?_
                        obtain ⟨i, rfl⟩ := dn_pos ek hi c15
                        rw [show j_M_byteOf_h13 (f + 1) V x3 x4 x5 = j_M_byteOf_h13 f V (-1) (x4 - (m_where V x5.toNatClampNeg)) (x5 + (-1)) from by rw [j_M_byteOf_h13, if_neg c15, if_neg c65, if_pos c137, if_pos c143, if_pos c157, if_pos c162, if_pos c170, if_pos c175, if_pos c199, if_neg c204]]
                        exact ih i (-1) (x4 - (m_where V x5.toNatClampNeg)) (x5 + (-1)) V _ _ _ (dn_ek ek) (by omega) (by omega) hp hP hS (lv_sub hl [3, 2, 1, 0] rfl)
                  · have c175 : ¬ ((j_M_byteOf_h39 V x3 x4 x5 (m_deed V x5.toNatClampNeg) (x4 - (m_where V x5.toNatClampNeg))) = 0) := c175
                    rw [if_neg c175] at hp
                    refine lv_aload_n S.1 S.2.1 d_M_byteOf_178 rfl (lv_at hl 1 rfl) ?_
                    refine m_get_what S hK hP tg_64 d_M_byteOf_179 ?_
                    refine lv_iload S.1 S.2.1 d_M_byteOf_182 (lv_at hl 3 rfl) ?_
                    refine m_ald_what S hK hP o1 d_M_byteOf_184 ?_
                    refine lv_bipush (v := 8) S.1 S.2.1 d_M_byteOf_185 (by decide) ?_
                    refine lv_iload S.1 S.2.1 d_M_byteOf_187 (lv_at hl 5 rfl) ?_
                    refine lv_imul S.1 S.2.1 d_M_byteOf_189 ?_
                    refine lv_iushr (v := ju (m_what V x5.toNatClampNeg) (8 * (x4 - (m_where V x5.toNatClampNeg)))) S.1 S.2.1 d_M_byteOf_190 rfl ?_
                    refine lv_sipush (v := 255) S.1 S.2.1 d_M_byteOf_191 (by decide) ?_
                    refine lv_iand S.1 S.2.1 d_M_byteOf_194 ?_
                    rw [show j_M_byteOf_h13 (f + 1) V x3 x4 x5 = (ju (m_what V x5.toNatClampNeg) (8 * (x4 - (m_where V x5.toNatClampNeg)))) &&& 255 from by rw [j_M_byteOf_h13, if_neg c15, if_neg c65, if_pos c137, if_pos c143, if_pos c157, if_pos c162, if_pos c170, if_neg c175]]
                    exact m_iret S hr hlk hP hS d_M_byteOf_195
              · have c162 : ¬ ((j_M_byteOf_h39 V x3 x4 x5 (m_deed V x5.toNatClampNeg) (x4 - (m_where V x5.toNatClampNeg))) = 0) := c162
                rw [if_neg c162] at hp
                refine lv_iconst (v := 0) S.1 S.2.1 d_M_byteOf_165 (by decide) ?_
                rw [show j_M_byteOf_h13 (f + 1) V x3 x4 x5 = 0 from by rw [j_M_byteOf_h13, if_neg c15, if_neg c65, if_pos c137, if_pos c143, if_pos c157, if_neg c162]]
                exact m_iret S hr hlk hP hS d_M_byteOf_166
      · have c65 : x3 = (-1) := c65
        rw [if_pos c65] at hp
        refine lv_iload S.1 S.2.1 d_M_byteOf_68 (lv_at hl 4 rfl) ?_
        refine lv_bipush (v := 6) S.1 S.2.1 d_M_byteOf_70 (by decide) ?_
        refine lv_icmp_ne (tgt := 88) S.1 S.2.1 d_M_byteOf_72 (by decide) (fun c72 => ?_) (fun c72 => ?_)
        · have c72 : ¬ ((m_deed V x5.toNatClampNeg) = 6) := c72
          rw [if_neg c72] at hp
          refine lv_iload S.1 S.2.1 d_M_byteOf_88 (lv_at hl 4 rfl) ?_
          refine lv_iconst (v := 5) S.1 S.2.1 d_M_byteOf_90 (by decide) ?_
          refine lv_icmp_ne (tgt := 213) S.1 S.2.1 d_M_byteOf_91 (by decide) (fun c91 => ?_) (fun c91 => ?_)
          · have c91 : ¬ ((m_deed V x5.toNatClampNeg) = 5) := c91
            rw [if_neg c91] at hp
            refine lv_iinc (v := x5 + (-1)) (lv' := [(5, .int (x5 + (-1))), (0, .ref (ad 0)), (3, .int x3), (4, .int x4), (6, .int (m_deed V x5.toNatClampNeg)), (7, .int (x4 - (m_where V x5.toNatClampNeg))), (8, .int (j_M_byteOf_h39 V x3 x4 x5 (m_deed V x5.toNatClampNeg) (x4 - (m_where V x5.toNatClampNeg))))]) S.1 S.2.1 d_M_byteOf_213 hl (k := 3) rfl rfl (by decide) rfl (fun ls hl => ?_)
            refine lv_goto (tgt := 13) S.1 S.2.1 d_M_byteOf_216 (by decide) ?_
            obtain ⟨i, rfl⟩ := dn_pos ek hi c15
            rw [show j_M_byteOf_h13 (f + 1) V x3 x4 x5 = j_M_byteOf_h13 f V x3 x4 (x5 + (-1)) from by rw [j_M_byteOf_h13, if_neg c15, if_pos c65, if_neg c72, if_neg c91]]
            exact ih i x3 x4 (x5 + (-1)) V _ _ _ (dn_ek ek) (by omega) (by omega) hp hP hS (lv_sub hl [1, 2, 3, 0] rfl)
          · have c91 : (m_deed V x5.toNatClampNeg) = 5 := c91
            rw [if_pos c91] at hp
            refine lv_iload S.1 S.2.1 d_M_byteOf_94 (lv_at hl 2 rfl) ?_
            refine lv_aload_n S.1 S.2.1 d_M_byteOf_96 rfl (lv_at hl 0 rfl) ?_
            refine m_get_much S hK hP tg_63 d_M_byteOf_97 ?_
            refine lv_iload S.1 S.2.1 d_M_byteOf_100 (lv_at hl 3 rfl) ?_
            refine m_ald_much S hK hP o1 d_M_byteOf_102 ?_
            refine lv_icmp_ge (tgt := 213) S.1 S.2.1 d_M_byteOf_103 (by decide) (fun c103 => ?_) (fun c103 => ?_)
            · have c103 : (m_much V x5.toNatClampNeg) ≤ x4 := c103
              rw [if_pos c103] at hp
              refine lv_iinc (v := x5 + (-1)) (lv' := [(5, .int (x5 + (-1))), (0, .ref (ad 0)), (3, .int x3), (4, .int x4), (6, .int (m_deed V x5.toNatClampNeg)), (7, .int (x4 - (m_where V x5.toNatClampNeg))), (8, .int (j_M_byteOf_h39 V x3 x4 x5 (m_deed V x5.toNatClampNeg) (x4 - (m_where V x5.toNatClampNeg))))]) S.1 S.2.1 d_M_byteOf_213 hl (k := 3) rfl rfl (by decide) rfl (fun ls hl => ?_)
              refine lv_goto (tgt := 13) S.1 S.2.1 d_M_byteOf_216 (by decide) ?_
              obtain ⟨i, rfl⟩ := dn_pos ek hi c15
              rw [show j_M_byteOf_h13 (f + 1) V x3 x4 x5 = j_M_byteOf_h13 f V x3 x4 (x5 + (-1)) from by rw [j_M_byteOf_h13, if_neg c15, if_pos c65, if_neg c72, if_pos c91, if_pos c103]]
              exact ih i x3 x4 (x5 + (-1)) V _ _ _ (dn_ek ek) (by omega) (by omega) hp hP hS (lv_sub hl [1, 2, 3, 0] rfl)
            · have c103 : ¬ ((m_much V x5.toNatClampNeg) ≤ x4) := c103
              rw [if_neg c103] at hp
              refine lv_aload_n S.1 S.2.1 d_M_byteOf_106 rfl (lv_at hl 0 rfl) ?_
              refine m_get_who S hK hP tg_61 d_M_byteOf_107 ?_
              refine lv_iload S.1 S.2.1 d_M_byteOf_110 (lv_at hl 3 rfl) ?_
              refine m_ald_who S hK hP o1 d_M_byteOf_112 ?_
              refine lv_istore_n (lv' := [(3, .int (m_who V x5.toNatClampNeg)), (0, .ref (ad 0)), (4, .int x4), (5, .int x5), (6, .int (m_deed V x5.toNatClampNeg)), (7, .int (x4 - (m_where V x5.toNatClampNeg))), (8, .int (j_M_byteOf_h39 V x3 x4 x5 (m_deed V x5.toNatClampNeg) (x4 - (m_where V x5.toNatClampNeg))))]) S.1 S.2.1 d_M_byteOf_113 rfl hl (by decide) rfl (fun ls hl => ?_)
              refine lv_aload_n S.1 S.2.1 d_M_byteOf_114 rfl (lv_at hl 1 rfl) ?_
              refine m_get_where S hK hP tg_62 d_M_byteOf_115 ?_
              refine lv_iload S.1 S.2.1 d_M_byteOf_118 (lv_at hl 3 rfl) ?_
              refine m_ald_where S hK hP o1 d_M_byteOf_120 ?_
              refine lv_iload S.1 S.2.1 d_M_byteOf_121 (lv_at hl 2 rfl) ?_
              refine lv_iadd S.1 S.2.1 d_M_byteOf_123 ?_
              refine lv_istore (lv' := [(4, .int ((m_where V x5.toNatClampNeg) + x4)), (3, .int (m_who V x5.toNatClampNeg)), (0, .ref (ad 0)), (5, .int x5), (6, .int (m_deed V x5.toNatClampNeg)), (7, .int (x4 - (m_where V x5.toNatClampNeg))), (8, .int (j_M_byteOf_h39 V x3 x4 x5 (m_deed V x5.toNatClampNeg) (x4 - (m_where V x5.toNatClampNeg))))]) S.1 S.2.1 d_M_byteOf_124 hl (by decide) rfl (fun ls hl => ?_)
              refine lv_goto (tgt := 213) S.1 S.2.1 d_M_byteOf_126 (by decide) ?_
              refine lv_iinc (v := x5 + (-1)) (lv' := [(5, .int (x5 + (-1))), (4, .int ((m_where V x5.toNatClampNeg) + x4)), (3, .int (m_who V x5.toNatClampNeg)), (0, .ref (ad 0)), (6, .int (m_deed V x5.toNatClampNeg)), (7, .int (x4 - (m_where V x5.toNatClampNeg))), (8, .int (j_M_byteOf_h39 V x3 x4 x5 (m_deed V x5.toNatClampNeg) (x4 - (m_where V x5.toNatClampNeg))))]) S.1 S.2.1 d_M_byteOf_213 hl (k := 3) rfl rfl (by decide) rfl (fun ls hl => ?_)
              refine lv_goto (tgt := 13) S.1 S.2.1 d_M_byteOf_216 (by decide) ?_
              obtain ⟨i, rfl⟩ := dn_pos ek hi c15
              rw [show j_M_byteOf_h13 (f + 1) V x3 x4 x5 = j_M_byteOf_h13 f V (m_who V x5.toNatClampNeg) ((m_where V x5.toNatClampNeg) + x4) (x5 + (-1)) from by rw [j_M_byteOf_h13, if_neg c15, if_pos c65, if_neg c72, if_pos c91, if_neg c103]]
              exact ih i (m_who V x5.toNatClampNeg) ((m_where V x5.toNatClampNeg) + x4) (x5 + (-1)) V _ _ _ (dn_ek ek) (by omega) (by omega) hp hP hS (lv_sub hl [3, 2, 1, 0] rfl)
        · have c72 : (m_deed V x5.toNatClampNeg) = 6 := c72
          rw [if_pos c72] at hp
          refine lv_iload S.1 S.2.1 d_M_byteOf_75 (lv_at hl 6 rfl) ?_
          refine lv_if_eq (tgt := 88) S.1 S.2.1 d_M_byteOf_77 (by decide) (fun c77 => ?_) (fun c77 => ?_)
          · have c77 : (j_M_byteOf_h39 V x3 x4 x5 (m_deed V x5.toNatClampNeg) (x4 - (m_where V x5.toNatClampNeg))) = 0 := c77
            rw [if_pos c77] at hp
            refine lv_iload S.1 S.2.1 d_M_byteOf_88 (lv_at hl 4 rfl) ?_
            refine lv_iconst (v := 5) S.1 S.2.1 d_M_byteOf_90 (by decide) ?_
            refine lv_icmp_ne (tgt := 213) S.1 S.2.1 d_M_byteOf_91 (by decide) (fun c91 => ?_) (fun c91 => ?_)
            · have c91 : ¬ ((m_deed V x5.toNatClampNeg) = 5) := c91
              rw [if_neg c91] at hp
              refine lv_iinc (v := x5 + (-1)) (lv' := [(5, .int (x5 + (-1))), (0, .ref (ad 0)), (3, .int x3), (4, .int x4), (6, .int (m_deed V x5.toNatClampNeg)), (7, .int (x4 - (m_where V x5.toNatClampNeg))), (8, .int (j_M_byteOf_h39 V x3 x4 x5 (m_deed V x5.toNatClampNeg) (x4 - (m_where V x5.toNatClampNeg))))]) S.1 S.2.1 d_M_byteOf_213 hl (k := 3) rfl rfl (by decide) rfl (fun ls hl => ?_)
              refine lv_goto (tgt := 13) S.1 S.2.1 d_M_byteOf_216 (by decide) ?_
              obtain ⟨i, rfl⟩ := dn_pos ek hi c15
              rw [show j_M_byteOf_h13 (f + 1) V x3 x4 x5 = j_M_byteOf_h13 f V x3 x4 (x5 + (-1)) from by rw [j_M_byteOf_h13, if_neg c15, if_pos c65, if_pos c72, if_pos c77, if_neg c91]]
              exact ih i x3 x4 (x5 + (-1)) V _ _ _ (dn_ek ek) (by omega) (by omega) hp hP hS (lv_sub hl [1, 2, 3, 0] rfl)
            · have c91 : (m_deed V x5.toNatClampNeg) = 5 := c91
              rw [if_pos c91] at hp
              refine lv_iload S.1 S.2.1 d_M_byteOf_94 (lv_at hl 2 rfl) ?_
              refine lv_aload_n S.1 S.2.1 d_M_byteOf_96 rfl (lv_at hl 0 rfl) ?_
              refine m_get_much S hK hP tg_63 d_M_byteOf_97 ?_
              refine lv_iload S.1 S.2.1 d_M_byteOf_100 (lv_at hl 3 rfl) ?_
              refine m_ald_much S hK hP o1 d_M_byteOf_102 ?_
              refine lv_icmp_ge (tgt := 213) S.1 S.2.1 d_M_byteOf_103 (by decide) (fun c103 => ?_) (fun c103 => ?_)
              · have c103 : (m_much V x5.toNatClampNeg) ≤ x4 := c103
                rw [if_pos c103] at hp
                refine lv_iinc (v := x5 + (-1)) (lv' := [(5, .int (x5 + (-1))), (0, .ref (ad 0)), (3, .int x3), (4, .int x4), (6, .int (m_deed V x5.toNatClampNeg)), (7, .int (x4 - (m_where V x5.toNatClampNeg))), (8, .int (j_M_byteOf_h39 V x3 x4 x5 (m_deed V x5.toNatClampNeg) (x4 - (m_where V x5.toNatClampNeg))))]) S.1 S.2.1 d_M_byteOf_213 hl (k := 3) rfl rfl (by decide) rfl (fun ls hl => ?_)
                refine lv_goto (tgt := 13) S.1 S.2.1 d_M_byteOf_216 (by decide) ?_
                obtain ⟨i, rfl⟩ := dn_pos ek hi c15
                rw [show j_M_byteOf_h13 (f + 1) V x3 x4 x5 = j_M_byteOf_h13 f V x3 x4 (x5 + (-1)) from by rw [j_M_byteOf_h13, if_neg c15, if_pos c65, if_pos c72, if_pos c77, if_pos c91, if_pos c103]]
                exact ih i x3 x4 (x5 + (-1)) V _ _ _ (dn_ek ek) (by omega) (by omega) hp hP hS (lv_sub hl [1, 2, 3, 0] rfl)
              · have c103 : ¬ ((m_much V x5.toNatClampNeg) ≤ x4) := c103
                rw [if_neg c103] at hp
                refine lv_aload_n S.1 S.2.1 d_M_byteOf_106 rfl (lv_at hl 0 rfl) ?_
                refine m_get_who S hK hP tg_61 d_M_byteOf_107 ?_
                refine lv_iload S.1 S.2.1 d_M_byteOf_110 (lv_at hl 3 rfl) ?_
                refine m_ald_who S hK hP o1 d_M_byteOf_112 ?_
                refine lv_istore_n (lv' := [(3, .int (m_who V x5.toNatClampNeg)), (0, .ref (ad 0)), (4, .int x4), (5, .int x5), (6, .int (m_deed V x5.toNatClampNeg)), (7, .int (x4 - (m_where V x5.toNatClampNeg))), (8, .int (j_M_byteOf_h39 V x3 x4 x5 (m_deed V x5.toNatClampNeg) (x4 - (m_where V x5.toNatClampNeg))))]) S.1 S.2.1 d_M_byteOf_113 rfl hl (by decide) rfl (fun ls hl => ?_)
                refine lv_aload_n S.1 S.2.1 d_M_byteOf_114 rfl (lv_at hl 1 rfl) ?_
                refine m_get_where S hK hP tg_62 d_M_byteOf_115 ?_
                refine lv_iload S.1 S.2.1 d_M_byteOf_118 (lv_at hl 3 rfl) ?_
                refine m_ald_where S hK hP o1 d_M_byteOf_120 ?_
                refine lv_iload S.1 S.2.1 d_M_byteOf_121 (lv_at hl 2 rfl) ?_
                refine lv_iadd S.1 S.2.1 d_M_byteOf_123 ?_
                refine lv_istore (lv' := [(4, .int ((m_where V x5.toNatClampNeg) + x4)), (3, .int (m_who V x5.toNatClampNeg)), (0, .ref (ad 0)), (5, .int x5), (6, .int (m_deed V x5.toNatClampNeg)), (7, .int (x4 - (m_where V x5.toNatClampNeg))), (8, .int (j_M_byteOf_h39 V x3 x4 x5 (m_deed V x5.toNatClampNeg) (x4 - (m_where V x5.toNatClampNeg))))]) S.1 S.2.1 d_M_byteOf_124 hl (by decide) rfl (fun ls hl => ?_)
                refine lv_goto (tgt := 213) S.1 S.2.1 d_M_byteOf_126 (by decide) ?_
                refine lv_iinc (v := x5 + (-1)) (lv' := [(5, .int (x5 + (-1))), (4, .int ((m_where V x5.toNatClampNeg) + x4)), (3, .int (m_who V x5.toNatClampNeg)), (0, .ref (ad 0)), (6, .int (m_deed V x5.toNatClampNeg)), (7, .int (x4 - (m_where V x5.toNatClampNeg))), (8, .int (j_M_byteOf_h39 V x3 x4 x5 (m_deed V x5.toNatClampNeg) (x4 - (m_where V x5.toNatClampNeg))))]) S.1 S.2.1 d_M_byteOf_213 hl (k := 3) rfl rfl (by decide) rfl (fun ls hl => ?_)
                refine lv_goto (tgt := 13) S.1 S.2.1 d_M_byteOf_216 (by decide) ?_
                obtain ⟨i, rfl⟩ := dn_pos ek hi c15
                rw [show j_M_byteOf_h13 (f + 1) V x3 x4 x5 = j_M_byteOf_h13 f V (m_who V x5.toNatClampNeg) ((m_where V x5.toNatClampNeg) + x4) (x5 + (-1)) from by rw [j_M_byteOf_h13, if_neg c15, if_pos c65, if_pos c72, if_pos c77, if_pos c91, if_neg c103]]
                exact ih i (m_who V x5.toNatClampNeg) ((m_where V x5.toNatClampNeg) + x4) (x5 + (-1)) V _ _ _ (dn_ek ek) (by omega) (by omega) hp hP hS (lv_sub hl [3, 2, 1, 0] rfl)
          · have c77 : ¬ ((j_M_byteOf_h39 V x3 x4 x5 (m_deed V x5.toNatClampNeg) (x4 - (m_where V x5.toNatClampNeg))) = 0) := c77
            rw [if_neg c77] at hp
            refine lv_aload_n S.1 S.2.1 d_M_byteOf_80 rfl (lv_at hl 0 rfl) ?_
            refine m_get_what S hK hP tg_64 d_M_byteOf_81 ?_
            refine lv_iload S.1 S.2.1 d_M_byteOf_84 (lv_at hl 3 rfl) ?_
            refine m_ald_what S hK hP o1 d_M_byteOf_86 ?_
            rw [show j_M_byteOf_h13 (f + 1) V x3 x4 x5 = m_what V x5.toNatClampNeg from by rw [j_M_byteOf_h13, if_neg c15, if_pos c65, if_pos c72, if_neg c77]]
            exact m_iret S hr hlk hP hS d_M_byteOf_87
end MW
