section MW
variable (l : Launch) (D : va_G) (ad : Nat → Nat) (cI cZ : ClassId)
/-- PageVaultModel.add(IIII)V -/
def j_M_add (V : MS) (a1 : Int32) (a2 : Int32) (a3 : Int32) (a4 : Int32) : MS :=
  if (j_M_hasRegion V a1 (a2 / 1024)) = 0 then
    t_pages (t_pk (t_pf (t_pn (t_ps (t_regions (t_rn (t_rs V ((m_regions V).toNatClampNeg) a1) ((m_regions V).toNatClampNeg) (a2 / 1024)) ((m_regions V) + 1)) ((m_pages V).toNatClampNeg) a1) ((m_pages V).toNatClampNeg) a2) ((m_pages V).toNatClampNeg) a3) ((m_pages V).toNatClampNeg) a4) ((m_pages V) + 1)
  else
    t_pages (t_pk (t_pf (t_pn (t_ps V ((m_pages V).toNatClampNeg) a1) ((m_pages V).toNatClampNeg) a2) ((m_pages V).toNatClampNeg) a3) ((m_pages V).toNatClampNeg) a4) ((m_pages V) + 1)
/-- what it needs -/
def p_M_add (V : MS) (a1 : Int32) (a2 : Int32) (a3 : Int32) (a4 : Int32) : Prop :=
  (p_M_hasRegion V a1 (a2 / 1024)) ∧ (
    if (j_M_hasRegion V a1 (a2 / 1024)) = 0 then
      (vp_in (m_regions V) 32) ∧ (
        (vp_in (m_pages V) 128) ∧ (
          True))
    else
      (vp_in (m_pages V) 128) ∧ (
        True))
set_option maxHeartbeats 4000000 in
set_option maxRecDepth 100000 in
theorem c_M_add (hE : mE ad) (V : MS) (a1 : Int32) (a2 : Int32) (a3 : Int32) (a4 : Int32) (hp : p_M_add V a1 a2 a3 a4) : MC l D ad cI cZ y_M_add b_M_add 5 none ({ frames := 1, cells := 0, slots := 0, locals := 23 }) [.ref (ad 0), .int a1, .int a2, .int a3, .int a4] V none (j_M_add V a1 a2 a3 a4) := by
  refine FC_intro (by decide) (Nat.le_of_ble_eq_true rfl) ?_
  intro p e s m below meth c ls S hr hlk hK hP hS hl
  have S : CallFix p m c b_M_add 5 s _ TG "PageVaultModel" := S
  have hl : lv_has ls 5 [(0, .ref (ad 0)), (1, .int a1), (2, .int a2), (3, .int a3), (4, .int a4)] := hl
  rw [p_M_add] at hp
  refine lv_aload_n S.1 S.2.1 d_M_add_0 rfl (lv_at hl 0 rfl) ?_
  refine lv_iload_n S.1 S.2.1 d_M_add_1 rfl (lv_at hl 1 rfl) ?_
  refine lv_iload_n S.1 S.2.1 d_M_add_2 rfl (lv_at hl 2 rfl) ?_
  refine lv_sipush (v := 1024) S.1 S.2.1 d_M_add_3 (by decide) ?_
  refine lv_idiv S.1 S.2.1 d_M_add_6 (by decide) ?_
  obtain ⟨o1, hp⟩ := hp
  refine m_callVi (As := [.int a1, .int (a2 / 1024)]) (rest := []) S hK ci_M_71 (c_M_hasRegion l D ad cI cZ hE V a1 (a2 / 1024) o1) (m_recM hK hP) hP hS ⟨rfl, rfl, Nat.le_of_ble_eq_true rfl, Nat.le_of_ble_eq_true rfl⟩ rfl hl.1 rfl (Nat.le_of_ble_eq_true rfl) d_M_add_7 (fun H locs hP hS => ?_)
  refine lv_if_ne (tgt := 47) S.1 S.2.1 d_M_add_10 (by decide) (fun c10 => ?_) (fun c10 => ?_)
  · have c10 : ¬ ((j_M_hasRegion V a1 (a2 / 1024)) = 0) := c10
    rw [if_neg c10] at hp
    refine lv_aload_n S.1 S.2.1 d_M_add_47 rfl (lv_at hl 0 rfl) ?_
    refine m_get_ps S hK hP tg_54 d_M_add_48 ?_
    refine lv_aload_n S.1 S.2.1 d_M_add_51 rfl (lv_at hl 0 rfl) ?_
    refine m_get_pages S hK hP tg_67 d_M_add_52 ?_
    refine lv_iload_n S.1 S.2.1 d_M_add_55 rfl (lv_at hl 1 rfl) ?_
    obtain ⟨o2, hp⟩ := hp
    refine m_ast_ps S hE hK hP hS o2 d_M_add_56 (fun H locs hP hS => ?_)
    refine lv_aload_n S.1 S.2.1 d_M_add_57 rfl (lv_at hl 0 rfl) ?_
    refine m_get_pn S hK hP tg_55 d_M_add_58 ?_
    refine lv_aload_n S.1 S.2.1 d_M_add_61 rfl (lv_at hl 0 rfl) ?_
    refine m_get_pages S hK hP tg_67 d_M_add_62 ?_
    refine lv_iload_n S.1 S.2.1 d_M_add_65 rfl (lv_at hl 2 rfl) ?_
    refine m_ast_pn S hE hK hP hS o2 d_M_add_66 (fun H locs hP hS => ?_)
    refine lv_aload_n S.1 S.2.1 d_M_add_67 rfl (lv_at hl 0 rfl) ?_
    refine m_get_pf S hK hP tg_56 d_M_add_68 ?_
    refine lv_aload_n S.1 S.2.1 d_M_add_71 rfl (lv_at hl 0 rfl) ?_
    refine m_get_pages S hK hP tg_67 d_M_add_72 ?_
    refine lv_iload_n S.1 S.2.1 d_M_add_75 rfl (lv_at hl 3 rfl) ?_
    refine m_ast_pf S hE hK hP hS o2 d_M_add_76 (fun H locs hP hS => ?_)
    refine lv_aload_n S.1 S.2.1 d_M_add_77 rfl (lv_at hl 0 rfl) ?_
    refine m_get_pk S hK hP tg_57 d_M_add_78 ?_
    refine lv_aload_n S.1 S.2.1 d_M_add_81 rfl (lv_at hl 0 rfl) ?_
    refine m_get_pages S hK hP tg_67 d_M_add_82 ?_
    refine lv_iload S.1 S.2.1 d_M_add_85 (lv_at hl 4 rfl) ?_
    refine m_ast_pk S hE hK hP hS o2 d_M_add_87 (fun H locs hP hS => ?_)
    refine lv_aload_n S.1 S.2.1 d_M_add_88 rfl (lv_at hl 0 rfl) ?_
    refine lv_dup S.1 S.2.1 d_M_add_89 rfl ?_
    refine m_get_pages S hK hP tg_67 d_M_add_90 ?_
    refine lv_iconst (v := 1) S.1 S.2.1 d_M_add_93 (by decide) ?_
    refine lv_iadd S.1 S.2.1 d_M_add_94 ?_
    refine m_put_pages S hE hK hP hS tg_67 d_M_add_95 (fun H locs hP hS => ?_)
    rw [show j_M_add V a1 a2 a3 a4 = t_pages (t_pk (t_pf (t_pn (t_ps V ((m_pages V).toNatClampNeg) a1) ((m_pages V).toNatClampNeg) a2) ((m_pages V).toNatClampNeg) a3) ((m_pages V).toNatClampNeg) a4) ((m_pages V) + 1) from by rw [j_M_add, if_neg c10]]
    exact m_vret S hr hlk hP hS d_M_add_98
  · have c10 : (j_M_hasRegion V a1 (a2 / 1024)) = 0 := c10
    rw [if_pos c10] at hp
    refine lv_aload_n S.1 S.2.1 d_M_add_13 rfl (lv_at hl 0 rfl) ?_
    refine m_get_rs S hK hP tg_58 d_M_add_14 ?_
    refine lv_aload_n S.1 S.2.1 d_M_add_17 rfl (lv_at hl 0 rfl) ?_
    refine m_get_regions S hK hP tg_72 d_M_add_18 ?_
    refine lv_iload_n S.1 S.2.1 d_M_add_21 rfl (lv_at hl 1 rfl) ?_
    obtain ⟨o3, hp⟩ := hp
    refine m_ast_rs S hE hK hP hS o3 d_M_add_22 (fun H locs hP hS => ?_)
    refine lv_aload_n S.1 S.2.1 d_M_add_23 rfl (lv_at hl 0 rfl) ?_
    refine m_get_rn S hK hP tg_59 d_M_add_24 ?_
    refine lv_aload_n S.1 S.2.1 d_M_add_27 rfl (lv_at hl 0 rfl) ?_
    refine m_get_regions S hK hP tg_72 d_M_add_28 ?_
    refine lv_iload_n S.1 S.2.1 d_M_add_31 rfl (lv_at hl 2 rfl) ?_
    refine lv_sipush (v := 1024) S.1 S.2.1 d_M_add_32 (by decide) ?_
    refine lv_idiv S.1 S.2.1 d_M_add_35 (by decide) ?_
    refine m_ast_rn S hE hK hP hS o3 d_M_add_36 (fun H locs hP hS => ?_)
    refine lv_aload_n S.1 S.2.1 d_M_add_37 rfl (lv_at hl 0 rfl) ?_
    refine lv_dup S.1 S.2.1 d_M_add_38 rfl ?_
    refine m_get_regions S hK hP tg_72 d_M_add_39 ?_
    refine lv_iconst (v := 1) S.1 S.2.1 d_M_add_42 (by decide) ?_
    refine lv_iadd S.1 S.2.1 d_M_add_43 ?_
    refine m_put_regions S hE hK hP hS tg_72 d_M_add_44 (fun H locs hP hS => ?_)
    refine lv_aload_n S.1 S.2.1 d_M_add_47 rfl (lv_at hl 0 rfl) ?_
    refine m_get_ps S hK hP tg_54 d_M_add_48 ?_
    refine lv_aload_n S.1 S.2.1 d_M_add_51 rfl (lv_at hl 0 rfl) ?_
    refine m_get_pages S hK hP tg_67 d_M_add_52 ?_
    refine lv_iload_n S.1 S.2.1 d_M_add_55 rfl (lv_at hl 1 rfl) ?_
    obtain ⟨o4, hp⟩ := hp
    refine m_ast_ps S hE hK hP hS o4 d_M_add_56 (fun H locs hP hS => ?_)
    refine lv_aload_n S.1 S.2.1 d_M_add_57 rfl (lv_at hl 0 rfl) ?_
    refine m_get_pn S hK hP tg_55 d_M_add_58 ?_
    refine lv_aload_n S.1 S.2.1 d_M_add_61 rfl (lv_at hl 0 rfl) ?_
    refine m_get_pages S hK hP tg_67 d_M_add_62 ?_
    refine lv_iload_n S.1 S.2.1 d_M_add_65 rfl (lv_at hl 2 rfl) ?_
    refine m_ast_pn S hE hK hP hS o4 d_M_add_66 (fun H locs hP hS => ?_)
    refine lv_aload_n S.1 S.2.1 d_M_add_67 rfl (lv_at hl 0 rfl) ?_
    refine m_get_pf S hK hP tg_56 d_M_add_68 ?_
    refine lv_aload_n S.1 S.2.1 d_M_add_71 rfl (lv_at hl 0 rfl) ?_
    refine m_get_pages S hK hP tg_67 d_M_add_72 ?_
    refine lv_iload_n S.1 S.2.1 d_M_add_75 rfl (lv_at hl 3 rfl) ?_
    refine m_ast_pf S hE hK hP hS o4 d_M_add_76 (fun H locs hP hS => ?_)
    refine lv_aload_n S.1 S.2.1 d_M_add_77 rfl (lv_at hl 0 rfl) ?_
    refine m_get_pk S hK hP tg_57 d_M_add_78 ?_
    refine lv_aload_n S.1 S.2.1 d_M_add_81 rfl (lv_at hl 0 rfl) ?_
    refine m_get_pages S hK hP tg_67 d_M_add_82 ?_
    refine lv_iload S.1 S.2.1 d_M_add_85 (lv_at hl 4 rfl) ?_
    refine m_ast_pk S hE hK hP hS o4 d_M_add_87 (fun H locs hP hS => ?_)
    refine lv_aload_n S.1 S.2.1 d_M_add_88 rfl (lv_at hl 0 rfl) ?_
    refine lv_dup S.1 S.2.1 d_M_add_89 rfl ?_
    refine m_get_pages S hK hP tg_67 d_M_add_90 ?_
    refine lv_iconst (v := 1) S.1 S.2.1 d_M_add_93 (by decide) ?_
    refine lv_iadd S.1 S.2.1 d_M_add_94 ?_
    refine m_put_pages S hE hK hP hS tg_67 d_M_add_95 (fun H locs hP hS => ?_)
    rw [show j_M_add V a1 a2 a3 a4 = t_pages (t_pk (t_pf (t_pn (t_ps (t_regions (t_rn (t_rs V ((m_regions V).toNatClampNeg) a1) ((m_regions V).toNatClampNeg) (a2 / 1024)) ((m_regions V) + 1)) ((m_pages V).toNatClampNeg) a1) ((m_pages V).toNatClampNeg) a2) ((m_pages V).toNatClampNeg) a3) ((m_pages V).toNatClampNeg) a4) ((m_pages V) + 1) from by rw [j_M_add, if_pos c10]]
    exact m_vret S hr hlk hP hS d_M_add_98
/-- PageVaultModel.addEmpty(III)V -/
def j_M_addEmpty (V : MS) (a1 : Int32) (a2 : Int32) (a3 : Int32) : MS :=
  j_M_note (t_kins (j_M_add V a1 a2 a3 (m_kins V)) ((m_kins (j_M_add V a1 a2 a3 (m_kins V))) + 1)) 2 a1 (a2 * 4096) 4096 0
/-- what it needs -/
def p_M_addEmpty (V : MS) (a1 : Int32) (a2 : Int32) (a3 : Int32) : Prop :=
  (p_M_add V a1 a2 a3 (m_kins V)) ∧ (
    (p_M_note (t_kins (j_M_add V a1 a2 a3 (m_kins V)) ((m_kins (j_M_add V a1 a2 a3 (m_kins V))) + 1)) 2 a1 (a2 * 4096) 4096 0) ∧ (
      True))
set_option maxHeartbeats 4000000 in
set_option maxRecDepth 100000 in
theorem c_M_addEmpty (hE : mE ad) (V : MS) (a1 : Int32) (a2 : Int32) (a3 : Int32) (hp : p_M_addEmpty V a1 a2 a3) : MC l D ad cI cZ y_M_addEmpty b_M_addEmpty 4 none ({ frames := 2, cells := 0, slots := 0, locals := 47 }) [.ref (ad 0), .int a1, .int a2, .int a3] V none (j_M_addEmpty V a1 a2 a3) := by
  refine FC_intro (by decide) (Nat.le_of_ble_eq_true rfl) ?_
  intro p e s m below meth c ls S hr hlk hK hP hS hl
  have S : CallFix p m c b_M_addEmpty 4 s _ TG "PageVaultModel" := S
  have hl : lv_has ls 4 [(0, .ref (ad 0)), (1, .int a1), (2, .int a2), (3, .int a3)] := hl
  rw [p_M_addEmpty] at hp
  refine lv_aload_n S.1 S.2.1 d_M_addEmpty_0 rfl (lv_at hl 0 rfl) ?_
  refine lv_iload_n S.1 S.2.1 d_M_addEmpty_1 rfl (lv_at hl 1 rfl) ?_
  refine lv_iload_n S.1 S.2.1 d_M_addEmpty_2 rfl (lv_at hl 2 rfl) ?_
  refine lv_iload_n S.1 S.2.1 d_M_addEmpty_3 rfl (lv_at hl 3 rfl) ?_
  refine lv_aload_n S.1 S.2.1 d_M_addEmpty_4 rfl (lv_at hl 0 rfl) ?_
  refine m_get_kins S hK hP tg_81 d_M_addEmpty_5 ?_
  obtain ⟨o1, hp⟩ := hp
  refine m_callVv (As := [.int a1, .int a2, .int a3, .int (m_kins V)]) (rest := []) S hK ci_M_78 (c_M_add l D ad cI cZ hE V a1 a2 a3 (m_kins V) o1) (m_recM hK hP) hP hS ⟨rfl, rfl, Nat.le_of_ble_eq_true rfl, Nat.le_of_ble_eq_true rfl⟩ rfl hl.1 rfl (Nat.le_of_ble_eq_true rfl) d_M_addEmpty_8 (fun H locs hP hS => ?_)
  refine lv_aload_n S.1 S.2.1 d_M_addEmpty_11 rfl (lv_at hl 0 rfl) ?_
  refine lv_dup S.1 S.2.1 d_M_addEmpty_12 rfl ?_
  refine m_get_kins S hK hP tg_81 d_M_addEmpty_13 ?_
  refine lv_iconst (v := 1) S.1 S.2.1 d_M_addEmpty_16 (by decide) ?_
  refine lv_iadd S.1 S.2.1 d_M_addEmpty_17 ?_
  refine m_put_kins S hE hK hP hS tg_81 d_M_addEmpty_18 (fun H locs hP hS => ?_)
  refine lv_aload_n S.1 S.2.1 d_M_addEmpty_21 rfl (lv_at hl 0 rfl) ?_
  refine lv_iconst (v := 2) S.1 S.2.1 d_M_addEmpty_22 (by decide) ?_
  refine lv_iload_n S.1 S.2.1 d_M_addEmpty_23 rfl (lv_at hl 1 rfl) ?_
  refine lv_iload_n S.1 S.2.1 d_M_addEmpty_24 rfl (lv_at hl 2 rfl) ?_
  refine lv_sipush (v := 4096) S.1 S.2.1 d_M_addEmpty_25 (by decide) ?_
  refine lv_imul S.1 S.2.1 d_M_addEmpty_28 ?_
  refine lv_sipush (v := 4096) S.1 S.2.1 d_M_addEmpty_29 (by decide) ?_
  refine lv_iconst (v := 0) S.1 S.2.1 d_M_addEmpty_32 (by decide) ?_
  obtain ⟨o2, hp⟩ := hp
  refine m_callVv (As := [.int 2, .int a1, .int (a2 * 4096), .int 4096, .int 0]) (rest := []) S hK ci_M_82 (c_M_note l D ad cI cZ hE (t_kins (j_M_add V a1 a2 a3 (m_kins V)) ((m_kins (j_M_add V a1 a2 a3 (m_kins V))) + 1)) 2 a1 (a2 * 4096) 4096 0 o2) (m_recM hK hP) hP hS ⟨rfl, rfl, Nat.le_of_ble_eq_true rfl, Nat.le_of_ble_eq_true rfl⟩ rfl hl.1 rfl (Nat.le_of_ble_eq_true rfl) d_M_addEmpty_33 (fun H locs hP hS => ?_)
  rw [show j_M_addEmpty V a1 a2 a3 = j_M_note (t_kins (j_M_add V a1 a2 a3 (m_kins V)) ((m_kins (j_M_add V a1 a2 a3 (m_kins V))) + 1)) 2 a1 (a2 * 4096) 4096 0 from by rw [j_M_addEmpty]]
  exact m_vret S hr hlk hP hS d_M_addEmpty_36
def j_M_removePages_h5 : Nat → MS → Int32 → Int32 → Int32 → Int32 → MS
  | 0, V, _, _, _, _ => V
  | f + 1, V, a1, a2, x3, x4 =>
      if (m_pages V) ≤ x4 then
        t_pages V x3
      else
        if (m_ps V x4.toNatClampNeg) = a1 then
          if a2 ≤ ((m_pn V x4.toNatClampNeg) * 4096) then
            j_M_removePages_h5 f V a1 a2 x3 (x4 + 1)
          else
            j_M_removePages_h5 f (t_pk (t_pf (t_pn (t_ps V x3.toNatClampNeg (m_ps V x4.toNatClampNeg)) x3.toNatClampNeg (m_pn V x4.toNatClampNeg)) x3.toNatClampNeg (m_pf V x4.toNatClampNeg)) x3.toNatClampNeg (m_pk V x4.toNatClampNeg)) a1 a2 (x3 + 1) (x4 + 1)
        else
          j_M_removePages_h5 f (t_pk (t_pf (t_pn (t_ps V x3.toNatClampNeg (m_ps V x4.toNatClampNeg)) x3.toNatClampNeg (m_pn V x4.toNatClampNeg)) x3.toNatClampNeg (m_pf V x4.toNatClampNeg)) x3.toNatClampNeg (m_pk V x4.toNatClampNeg)) a1 a2 (x3 + 1) (x4 + 1)
def p_M_removePages_h5 : Nat → MS → Int32 → Int32 → Int32 → Int32 → Prop
  | 0, _, _, _, _, _ => True
  | f + 1, V, a1, a2, x3, x4 =>
      if (m_pages V) ≤ x4 then
        True
      else
        (vp_in x4 128) ∧ (
          if (m_ps V x4.toNatClampNeg) = a1 then
            if a2 ≤ ((m_pn V x4.toNatClampNeg) * 4096) then
              p_M_removePages_h5 f V a1 a2 x3 (x4 + 1)
            else
              (vp_in x3 128) ∧ (
                p_M_removePages_h5 f (t_pk (t_pf (t_pn (t_ps V x3.toNatClampNeg (m_ps V x4.toNatClampNeg)) x3.toNatClampNeg (m_pn V x4.toNatClampNeg)) x3.toNatClampNeg (m_pf V x4.toNatClampNeg)) x3.toNatClampNeg (m_pk V x4.toNatClampNeg)) a1 a2 (x3 + 1) (x4 + 1))
          else
            (vp_in x3 128) ∧ (
              p_M_removePages_h5 f (t_pk (t_pf (t_pn (t_ps V x3.toNatClampNeg (m_ps V x4.toNatClampNeg)) x3.toNatClampNeg (m_pn V x4.toNatClampNeg)) x3.toNatClampNeg (m_pf V x4.toNatClampNeg)) x3.toNatClampNeg (m_pk V x4.toNatClampNeg)) a1 a2 (x3 + 1) (x4 + 1)))
set_option maxHeartbeats 4000000 in
set_option maxRecDepth 100000 in
theorem w_M_removePages_h5 (hE : mE ad) {p : Program} {e : Env} {s : State} {m : MethodId} {args : Array Value} {below : List Frame} {meth : Method} {c : Code} (S : CallFix p m c b_M_removePages 5 s args TG "PageVaultModel") (hr : meth.sig.returnType = none) (hlk : meth.locks = false) (hK : mK D cI cZ s) :
    ∀ (f i : Nat) (a1 a2 x3 x4 : Int32) (V : MS) (H : Heap) (locs : List Loc) (ls : Array Slot), x4 = nI i → i < 2 ^ 31 → (m_pages V).toNatClampNeg - i < f → p_M_removePages_h5 f V a1 a2 x3 x4 → MP D ad cI cZ (V) H → va_S (iA ad mN) s.heap H locs → lv_has ls 5 [(0, .ref (ad 0)), (1, .int a1), (2, .int a2), (3, .int x3), (4, .int x4)] → W p l e ({ frames := 0, cells := 0, slots := 0, locals := 0 }) s m args below meth c H locs 0 0 (MQ below (gPost D ad mN none (mc ad cI cZ (j_M_removePages_h5 f V a1 a2 x3 x4))) args s 0 0 (iA ad mN)) (F0 m 5 ls []) := by
  intro f
  induction f with
  | zero =>
    intro i a1 a2 x3 x4 V H locs ls ek hi hf hp hP hS hl
    exact absurd hf (Nat.not_lt_zero _)
  | succ f ih =>
    intro i a1 a2 x3 x4 V H locs ls ek hi hf hp hP hS hl
    rw [p_M_removePages_h5] at hp
    refine lv_iload S.1 S.2.1 d_M_removePages_5 (lv_at hl 4 rfl) ?_
    refine lv_aload_n S.1 S.2.1 d_M_removePages_7 rfl (lv_at hl 0 rfl) ?_
    refine m_get_pages S hK hP tg_67 d_M_removePages_8 ?_
    refine lv_icmp_ge (tgt := 101) S.1 S.2.1 d_M_removePages_11 (by decide) (fun c11 => ?_) (fun c11 => ?_)
    · have c11 : (m_pages V) ≤ x4 := c11
      rw [if_pos c11] at hp
      refine lv_aload_n S.1 S.2.1 d_M_removePages_101 rfl (lv_at hl 0 rfl) ?_
      refine lv_iload_n S.1 S.2.1 d_M_removePages_102 rfl (lv_at hl 3 rfl) ?_
      refine m_put_pages S hE hK hP hS tg_67 d_M_removePages_103 (fun H locs hP hS => ?_)
      rw [show j_M_removePages_h5 (f + 1) V a1 a2 x3 x4 = t_pages V x3 from by rw [j_M_removePages_h5, if_pos c11]]
      exact m_vret S hr hlk hP hS d_M_removePages_106
    · have c11 : ¬ ((m_pages V) ≤ x4) := c11
      rw [if_neg c11] at hp
      refine lv_aload_n S.1 S.2.1 d_M_removePages_14 rfl (lv_at hl 0 rfl) ?_
      refine m_get_ps S hK hP tg_54 d_M_removePages_15 ?_
      refine lv_iload S.1 S.2.1 d_M_removePages_18 (lv_at hl 4 rfl) ?_
      obtain ⟨o1, hp⟩ := hp
      refine m_ald_ps S hK hP o1 d_M_removePages_20 ?_
      refine lv_iload_n S.1 S.2.1 d_M_removePages_21 rfl (lv_at hl 1 rfl) ?_
      refine lv_icmp_ne (tgt := 40) S.1 S.2.1 d_M_removePages_22 (by decide) (fun c22 => ?_) (fun c22 => ?_)
      · have c22 : ¬ ((m_ps V x4.toNatClampNeg) = a1) := c22
        rw [if_neg c22] at hp
        refine lv_aload_n S.1 S.2.1 d_M_removePages_40 rfl (lv_at hl 0 rfl) ?_
        refine m_get_ps S hK hP tg_54 d_M_removePages_41 ?_
        refine lv_iload_n S.1 S.2.1 d_M_removePages_44 rfl (lv_at hl 3 rfl) ?_
        refine lv_aload_n S.1 S.2.1 d_M_removePages_45 rfl (lv_at hl 0 rfl) ?_
        refine m_get_ps S hK hP tg_54 d_M_removePages_46 ?_
        refine lv_iload S.1 S.2.1 d_M_removePages_49 (lv_at hl 4 rfl) ?_
        refine m_ald_ps S hK hP o1 d_M_removePages_51 ?_
        obtain ⟨o2, hp⟩ := hp
        refine m_ast_ps S hE hK hP hS o2 d_M_removePages_52 (fun H locs hP hS => ?_)
        refine lv_aload_n S.1 S.2.1 d_M_removePages_53 rfl (lv_at hl 0 rfl) ?_
        refine m_get_pn S hK hP tg_55 d_M_removePages_54 ?_
        refine lv_iload_n S.1 S.2.1 d_M_removePages_57 rfl (lv_at hl 3 rfl) ?_
        refine lv_aload_n S.1 S.2.1 d_M_removePages_58 rfl (lv_at hl 0 rfl) ?_
        refine m_get_pn S hK hP tg_55 d_M_removePages_59 ?_
        refine lv_iload S.1 S.2.1 d_M_removePages_62 (lv_at hl 4 rfl) ?_
        refine m_ald_pn S hK hP o1 d_M_removePages_64 ?_
        refine m_ast_pn S hE hK hP hS o2 d_M_removePages_65 (fun H locs hP hS => ?_)
        refine lv_aload_n S.1 S.2.1 d_M_removePages_66 rfl (lv_at hl 0 rfl) ?_
        refine m_get_pf S hK hP tg_56 d_M_removePages_67 ?_
        refine lv_iload_n S.1 S.2.1 d_M_removePages_70 rfl (lv_at hl 3 rfl) ?_
        refine lv_aload_n S.1 S.2.1 d_M_removePages_71 rfl (lv_at hl 0 rfl) ?_
        refine m_get_pf S hK hP tg_56 d_M_removePages_72 ?_
        refine lv_iload S.1 S.2.1 d_M_removePages_75 (lv_at hl 4 rfl) ?_
        refine m_ald_pf S hK hP o1 d_M_removePages_77 ?_
        refine m_ast_pf S hE hK hP hS o2 d_M_removePages_78 (fun H locs hP hS => ?_)
        refine lv_aload_n S.1 S.2.1 d_M_removePages_79 rfl (lv_at hl 0 rfl) ?_
        refine m_get_pk S hK hP tg_57 d_M_removePages_80 ?_
        refine lv_iload_n S.1 S.2.1 d_M_removePages_83 rfl (lv_at hl 3 rfl) ?_
        refine lv_aload_n S.1 S.2.1 d_M_removePages_84 rfl (lv_at hl 0 rfl) ?_
        refine m_get_pk S hK hP tg_57 d_M_removePages_85 ?_
        refine lv_iload S.1 S.2.1 d_M_removePages_88 (lv_at hl 4 rfl) ?_
        refine m_ald_pk S hK hP o1 d_M_removePages_90 ?_
        refine m_ast_pk S hE hK hP hS o2 d_M_removePages_91 (fun H locs hP hS => ?_)
        refine lv_iinc (v := x3 + 1) (lv' := [(3, .int (x3 + 1)), (0, .ref (ad 0)), (1, .int a1), (2, .int a2), (4, .int x4)]) S.1 S.2.1 d_M_removePages_92 hl (k := 3) rfl rfl (by decide) rfl (fun ls hl => ?_)
        refine lv_iinc (v := x4 + 1) (lv' := [(4, .int (x4 + 1)), (3, .int (x3 + 1)), (0, .ref (ad 0)), (1, .int a1), (2, .int a2)]) S.1 S.2.1 d_M_removePages_95 hl (k := 4) rfl rfl (by decide) rfl (fun ls hl => ?_)
        refine lv_goto (tgt := 5) S.1 S.2.1 d_M_removePages_98 (by decide) ?_
        have hB := lp_lc ek hi c11
        have hC := clamp_lt (m_pages V)
        rw [show j_M_removePages_h5 (f + 1) V a1 a2 x3 x4 = j_M_removePages_h5 f (t_pk (t_pf (t_pn (t_ps V x3.toNatClampNeg (m_ps V x4.toNatClampNeg)) x3.toNatClampNeg (m_pn V x4.toNatClampNeg)) x3.toNatClampNeg (m_pf V x4.toNatClampNeg)) x3.toNatClampNeg (m_pk V x4.toNatClampNeg)) a1 a2 (x3 + 1) (x4 + 1) from by rw [j_M_removePages_h5, if_neg c11, if_neg c22]]
        exact ih (i + 1) a1 a2 (x3 + 1) (x4 + 1) (t_pk (t_pf (t_pn (t_ps V x3.toNatClampNeg (m_ps V x4.toNatClampNeg)) x3.toNatClampNeg (m_pn V x4.toNatClampNeg)) x3.toNatClampNeg (m_pf V x4.toNatClampNeg)) x3.toNatClampNeg (m_pk V x4.toNatClampNeg)) _ _ _ (by rw [ek]; exact nI_1 i) (by omega) (by show (m_pages V).toNatClampNeg - (i + 1) < f; omega) hp hP hS (lv_sub hl [2, 3, 4, 1, 0] rfl)
      · have c22 : (m_ps V x4.toNatClampNeg) = a1 := c22
        rw [if_pos c22] at hp
        refine lv_aload_n S.1 S.2.1 d_M_removePages_25 rfl (lv_at hl 0 rfl) ?_
        refine m_get_pn S hK hP tg_55 d_M_removePages_26 ?_
        refine lv_iload S.1 S.2.1 d_M_removePages_29 (lv_at hl 4 rfl) ?_
        refine m_ald_pn S hK hP o1 d_M_removePages_31 ?_
        refine lv_sipush (v := 4096) S.1 S.2.1 d_M_removePages_32 (by decide) ?_
        refine lv_imul S.1 S.2.1 d_M_removePages_35 ?_
        refine lv_iload_n S.1 S.2.1 d_M_removePages_36 rfl (lv_at hl 2 rfl) ?_
        refine lv_icmp_ge (tgt := 95) S.1 S.2.1 d_M_removePages_37 (by decide) (fun c37 => ?_) (fun c37 => ?_)
        · have c37 : a2 ≤ ((m_pn V x4.toNatClampNeg) * 4096) := c37
          rw [if_pos c37] at hp
          refine lv_iinc (v := x4 + 1) (lv' := [(4, .int (x4 + 1)), (0, .ref (ad 0)), (1, .int a1), (2, .int a2), (3, .int x3)]) S.1 S.2.1 d_M_removePages_95 hl (k := 4) rfl rfl (by decide) rfl (fun ls hl => ?_)
          refine lv_goto (tgt := 5) S.1 S.2.1 d_M_removePages_98 (by decide) ?_
          have hB := lp_lc ek hi c11
          have hC := clamp_lt (m_pages V)
          rw [show j_M_removePages_h5 (f + 1) V a1 a2 x3 x4 = j_M_removePages_h5 f V a1 a2 x3 (x4 + 1) from by rw [j_M_removePages_h5, if_neg c11, if_pos c22, if_pos c37]]
          exact ih (i + 1) a1 a2 x3 (x4 + 1) V _ _ _ (by rw [ek]; exact nI_1 i) (by omega) (by omega) hp hP hS (lv_sub hl [1, 2, 3, 4, 0] rfl)
        · have c37 : ¬ (a2 ≤ ((m_pn V x4.toNatClampNeg) * 4096)) := c37
          rw [if_neg c37] at hp
          refine lv_aload_n S.1 S.2.1 d_M_removePages_40 rfl (lv_at hl 0 rfl) ?_
          refine m_get_ps S hK hP tg_54 d_M_removePages_41 ?_
          refine lv_iload_n S.1 S.2.1 d_M_removePages_44 rfl (lv_at hl 3 rfl) ?_
          refine lv_aload_n S.1 S.2.1 d_M_removePages_45 rfl (lv_at hl 0 rfl) ?_
          refine m_get_ps S hK hP tg_54 d_M_removePages_46 ?_
          refine lv_iload S.1 S.2.1 d_M_removePages_49 (lv_at hl 4 rfl) ?_
          refine m_ald_ps S hK hP o1 d_M_removePages_51 ?_
          obtain ⟨o3, hp⟩ := hp
          refine m_ast_ps S hE hK hP hS o3 d_M_removePages_52 (fun H locs hP hS => ?_)
          refine lv_aload_n S.1 S.2.1 d_M_removePages_53 rfl (lv_at hl 0 rfl) ?_
          refine m_get_pn S hK hP tg_55 d_M_removePages_54 ?_
          refine lv_iload_n S.1 S.2.1 d_M_removePages_57 rfl (lv_at hl 3 rfl) ?_
          refine lv_aload_n S.1 S.2.1 d_M_removePages_58 rfl (lv_at hl 0 rfl) ?_
          refine m_get_pn S hK hP tg_55 d_M_removePages_59 ?_
          refine lv_iload S.1 S.2.1 d_M_removePages_62 (lv_at hl 4 rfl) ?_
          refine m_ald_pn S hK hP o1 d_M_removePages_64 ?_
          refine m_ast_pn S hE hK hP hS o3 d_M_removePages_65 (fun H locs hP hS => ?_)
          refine lv_aload_n S.1 S.2.1 d_M_removePages_66 rfl (lv_at hl 0 rfl) ?_
          refine m_get_pf S hK hP tg_56 d_M_removePages_67 ?_
          refine lv_iload_n S.1 S.2.1 d_M_removePages_70 rfl (lv_at hl 3 rfl) ?_
          refine lv_aload_n S.1 S.2.1 d_M_removePages_71 rfl (lv_at hl 0 rfl) ?_
          refine m_get_pf S hK hP tg_56 d_M_removePages_72 ?_
          refine lv_iload S.1 S.2.1 d_M_removePages_75 (lv_at hl 4 rfl) ?_
          refine m_ald_pf S hK hP o1 d_M_removePages_77 ?_
          refine m_ast_pf S hE hK hP hS o3 d_M_removePages_78 (fun H locs hP hS => ?_)
          refine lv_aload_n S.1 S.2.1 d_M_removePages_79 rfl (lv_at hl 0 rfl) ?_
          refine m_get_pk S hK hP tg_57 d_M_removePages_80 ?_
          refine lv_iload_n S.1 S.2.1 d_M_removePages_83 rfl (lv_at hl 3 rfl) ?_
          refine lv_aload_n S.1 S.2.1 d_M_removePages_84 rfl (lv_at hl 0 rfl) ?_
          refine m_get_pk S hK hP tg_57 d_M_removePages_85 ?_
          refine lv_iload S.1 S.2.1 d_M_removePages_88 (lv_at hl 4 rfl) ?_
          refine m_ald_pk S hK hP o1 d_M_removePages_90 ?_
          refine m_ast_pk S hE hK hP hS o3 d_M_removePages_91 (fun H locs hP hS => ?_)
          refine lv_iinc (v := x3 + 1) (lv' := [(3, .int (x3 + 1)), (0, .ref (ad 0)), (1, .int a1), (2, .int a2), (4, .int x4)]) S.1 S.2.1 d_M_removePages_92 hl (k := 3) rfl rfl (by decide) rfl (fun ls hl => ?_)
          refine lv_iinc (v := x4 + 1) (lv' := [(4, .int (x4 + 1)), (3, .int (x3 + 1)), (0, .ref (ad 0)), (1, .int a1), (2, .int a2)]) S.1 S.2.1 d_M_removePages_95 hl (k := 4) rfl rfl (by decide) rfl (fun ls hl => ?_)
          refine lv_goto (tgt := 5) S.1 S.2.1 d_M_removePages_98 (by decide) ?_
          have hB := lp_lc ek hi c11
          have hC := clamp_lt (m_pages V)
          rw [show j_M_removePages_h5 (f + 1) V a1 a2 x3 x4 = j_M_removePages_h5 f (t_pk (t_pf (t_pn (t_ps V x3.toNatClampNeg (m_ps V x4.toNatClampNeg)) x3.toNatClampNeg (m_pn V x4.toNatClampNeg)) x3.toNatClampNeg (m_pf V x4.toNatClampNeg)) x3.toNatClampNeg (m_pk V x4.toNatClampNeg)) a1 a2 (x3 + 1) (x4 + 1) from by rw [j_M_removePages_h5, if_neg c11, if_pos c22, if_neg c37]]
          exact ih (i + 1) a1 a2 (x3 + 1) (x4 + 1) (t_pk (t_pf (t_pn (t_ps V x3.toNatClampNeg (m_ps V x4.toNatClampNeg)) x3.toNatClampNeg (m_pn V x4.toNatClampNeg)) x3.toNatClampNeg (m_pf V x4.toNatClampNeg)) x3.toNatClampNeg (m_pk V x4.toNatClampNeg)) _ _ _ (by rw [ek]; exact nI_1 i) (by omega) (by show (m_pages V).toNatClampNeg - (i + 1) < f; omega) hp hP hS (lv_sub hl [2, 3, 4, 1, 0] rfl)
/-- PageVaultModel.removePages(II)V -/
def j_M_removePages (V : MS) (a1 : Int32) (a2 : Int32) : MS :=
  j_M_removePages_h5 ((m_pages V).toNatClampNeg + 1) V a1 a2 0 0
/-- what it needs -/
def p_M_removePages (V : MS) (a1 : Int32) (a2 : Int32) : Prop :=
  p_M_removePages_h5 ((m_pages V).toNatClampNeg + 1) V a1 a2 0 0
set_option maxHeartbeats 4000000 in
set_option maxRecDepth 100000 in
theorem c_M_removePages (hE : mE ad) (V : MS) (a1 : Int32) (a2 : Int32) (hp : p_M_removePages V a1 a2) : MC l D ad cI cZ y_M_removePages b_M_removePages 5 none ({ frames := 0, cells := 0, slots := 0, locals := 0 }) [.ref (ad 0), .int a1, .int a2] V none (j_M_removePages V a1 a2) := by
  refine FC_intro (by decide) (Nat.le_of_ble_eq_true rfl) ?_
  intro p e s m below meth c ls S hr hlk hK hP hS hl
  have S : CallFix p m c b_M_removePages 5 s _ TG "PageVaultModel" := S
  have hl : lv_has ls 5 [(0, .ref (ad 0)), (1, .int a1), (2, .int a2)] := hl
  rw [p_M_removePages] at hp
  refine lv_iconst (v := 0) S.1 S.2.1 d_M_removePages_0 (by decide) ?_
  refine lv_istore_n (lv' := [(3, .int 0), (0, .ref (ad 0)), (1, .int a1), (2, .int a2)]) S.1 S.2.1 d_M_removePages_1 rfl hl (by decide) rfl (fun ls hl => ?_)
  refine lv_iconst (v := 0) S.1 S.2.1 d_M_removePages_2 (by decide) ?_
  refine lv_istore (lv' := [(4, .int 0), (3, .int 0), (0, .ref (ad 0)), (1, .int a1), (2, .int a2)]) S.1 S.2.1 d_M_removePages_3 hl (by decide) rfl (fun ls hl => ?_)
  rw [show j_M_removePages V a1 a2 = j_M_removePages_h5 ((m_pages V).toNatClampNeg + 1) V a1 a2 0 0 from by rw [j_M_removePages]]
  exact w_M_removePages_h5 l D ad cI cZ hE S hr hlk hK ((m_pages V).toNatClampNeg + 1) 0 a1 a2 0 0 V _ _ _ nI_0.symm (by decide) (by omega) hp hP hS (lv_sub hl [2, 3, 4, 1, 0] rfl)
def j_M_removeRegions_h4 : Nat → MS → Int32 → Int32 → Int32 → MS
  | 0, V, _, _, _ => V
  | f + 1, V, a1, x2, x3 =>
      if (m_regions V) ≤ x3 then
        t_regions V x2
      else
        if (m_rs V x3.toNatClampNeg) = a1 then
          j_M_removeRegions_h4 f V a1 x2 (x3 + 1)
        else
          j_M_removeRegions_h4 f (t_rn (t_rs V x2.toNatClampNeg (m_rs V x3.toNatClampNeg)) x2.toNatClampNeg (m_rn V x3.toNatClampNeg)) a1 (x2 + 1) (x3 + 1)
def p_M_removeRegions_h4 : Nat → MS → Int32 → Int32 → Int32 → Prop
  | 0, _, _, _, _ => True
  | f + 1, V, a1, x2, x3 =>
      if (m_regions V) ≤ x3 then
        True
      else
        (vp_in x3 32) ∧ (
          if (m_rs V x3.toNatClampNeg) = a1 then
            p_M_removeRegions_h4 f V a1 x2 (x3 + 1)
          else
            (vp_in x2 32) ∧ (
              p_M_removeRegions_h4 f (t_rn (t_rs V x2.toNatClampNeg (m_rs V x3.toNatClampNeg)) x2.toNatClampNeg (m_rn V x3.toNatClampNeg)) a1 (x2 + 1) (x3 + 1)))
set_option maxHeartbeats 4000000 in
set_option maxRecDepth 100000 in
theorem w_M_removeRegions_h4 (hE : mE ad) {p : Program} {e : Env} {s : State} {m : MethodId} {args : Array Value} {below : List Frame} {meth : Method} {c : Code} (S : CallFix p m c b_M_removeRegions 4 s args TG "PageVaultModel") (hr : meth.sig.returnType = none) (hlk : meth.locks = false) (hK : mK D cI cZ s) :
    ∀ (f i : Nat) (a1 x2 x3 : Int32) (V : MS) (H : Heap) (locs : List Loc) (ls : Array Slot), x3 = nI i → i < 2 ^ 31 → (m_regions V).toNatClampNeg - i < f → p_M_removeRegions_h4 f V a1 x2 x3 → MP D ad cI cZ (V) H → va_S (iA ad mN) s.heap H locs → lv_has ls 4 [(0, .ref (ad 0)), (1, .int a1), (2, .int x2), (3, .int x3)] → W p l e ({ frames := 0, cells := 0, slots := 0, locals := 0 }) s m args below meth c H locs 0 0 (MQ below (gPost D ad mN none (mc ad cI cZ (j_M_removeRegions_h4 f V a1 x2 x3))) args s 0 0 (iA ad mN)) (F0 m 4 ls []) := by
  intro f
  induction f with
  | zero =>
    intro i a1 x2 x3 V H locs ls ek hi hf hp hP hS hl
    exact absurd hf (Nat.not_lt_zero _)
  | succ f ih =>
    intro i a1 x2 x3 V H locs ls ek hi hf hp hP hS hl
    rw [p_M_removeRegions_h4] at hp
    refine lv_iload_n S.1 S.2.1 d_M_removeRegions_4 rfl (lv_at hl 3 rfl) ?_
    refine lv_aload_n S.1 S.2.1 d_M_removeRegions_5 rfl (lv_at hl 0 rfl) ?_
    refine m_get_regions S hK hP tg_72 d_M_removeRegions_6 ?_
    refine lv_icmp_ge (tgt := 55) S.1 S.2.1 d_M_removeRegions_9 (by decide) (fun c9 => ?_) (fun c9 => ?_)
    · have c9 : (m_regions V) ≤ x3 := c9
      rw [if_pos c9] at hp
      refine lv_aload_n S.1 S.2.1 d_M_removeRegions_55 rfl (lv_at hl 0 rfl) ?_
      refine lv_iload_n S.1 S.2.1 d_M_removeRegions_56 rfl (lv_at hl 2 rfl) ?_
      refine m_put_regions S hE hK hP hS tg_72 d_M_removeRegions_57 (fun H locs hP hS => ?_)
      rw [show j_M_removeRegions_h4 (f + 1) V a1 x2 x3 = t_regions V x2 from by rw [j_M_removeRegions_h4, if_pos c9]]
      exact m_vret S hr hlk hP hS d_M_removeRegions_60
    · have c9 : ¬ ((m_regions V) ≤ x3) := c9
      rw [if_neg c9] at hp
      refine lv_aload_n S.1 S.2.1 d_M_removeRegions_12 rfl (lv_at hl 0 rfl) ?_
      refine m_get_rs S hK hP tg_58 d_M_removeRegions_13 ?_
      refine lv_iload_n S.1 S.2.1 d_M_removeRegions_16 rfl (lv_at hl 3 rfl) ?_
      obtain ⟨o1, hp⟩ := hp
      refine m_ald_rs S hK hP o1 d_M_removeRegions_17 ?_
      refine lv_iload_n S.1 S.2.1 d_M_removeRegions_18 rfl (lv_at hl 1 rfl) ?_
      refine lv_icmp_eq (tgt := 49) S.1 S.2.1 d_M_removeRegions_19 (by decide) (fun c19 => ?_) (fun c19 => ?_)
      · have c19 : (m_rs V x3.toNatClampNeg) = a1 := c19
        rw [if_pos c19] at hp
        refine lv_iinc (v := x3 + 1) (lv' := [(3, .int (x3 + 1)), (0, .ref (ad 0)), (1, .int a1), (2, .int x2)]) S.1 S.2.1 d_M_removeRegions_49 hl (k := 3) rfl rfl (by decide) rfl (fun ls hl => ?_)
        refine lv_goto (tgt := 4) S.1 S.2.1 d_M_removeRegions_52 (by decide) ?_
        have hB := lp_lc ek hi c9
        have hC := clamp_lt (m_regions V)
        rw [show j_M_removeRegions_h4 (f + 1) V a1 x2 x3 = j_M_removeRegions_h4 f V a1 x2 (x3 + 1) from by rw [j_M_removeRegions_h4, if_neg c9, if_pos c19]]
        exact ih (i + 1) a1 x2 (x3 + 1) V _ _ _ (by rw [ek]; exact nI_1 i) (by omega) (by omega) hp hP hS (lv_sub hl [1, 2, 3, 0] rfl)
      · have c19 : ¬ ((m_rs V x3.toNatClampNeg) = a1) := c19
        rw [if_neg c19] at hp
        refine lv_aload_n S.1 S.2.1 d_M_removeRegions_22 rfl (lv_at hl 0 rfl) ?_
        refine m_get_rs S hK hP tg_58 d_M_removeRegions_23 ?_
        refine lv_iload_n S.1 S.2.1 d_M_removeRegions_26 rfl (lv_at hl 2 rfl) ?_
        refine lv_aload_n S.1 S.2.1 d_M_removeRegions_27 rfl (lv_at hl 0 rfl) ?_
        refine m_get_rs S hK hP tg_58 d_M_removeRegions_28 ?_
        refine lv_iload_n S.1 S.2.1 d_M_removeRegions_31 rfl (lv_at hl 3 rfl) ?_
        refine m_ald_rs S hK hP o1 d_M_removeRegions_32 ?_
        obtain ⟨o2, hp⟩ := hp
        refine m_ast_rs S hE hK hP hS o2 d_M_removeRegions_33 (fun H locs hP hS => ?_)
        refine lv_aload_n S.1 S.2.1 d_M_removeRegions_34 rfl (lv_at hl 0 rfl) ?_
        refine m_get_rn S hK hP tg_59 d_M_removeRegions_35 ?_
        refine lv_iload_n S.1 S.2.1 d_M_removeRegions_38 rfl (lv_at hl 2 rfl) ?_
        refine lv_aload_n S.1 S.2.1 d_M_removeRegions_39 rfl (lv_at hl 0 rfl) ?_
        refine m_get_rn S hK hP tg_59 d_M_removeRegions_40 ?_
        refine lv_iload_n S.1 S.2.1 d_M_removeRegions_43 rfl (lv_at hl 3 rfl) ?_
        refine m_ald_rn S hK hP o1 d_M_removeRegions_44 ?_
        refine m_ast_rn S hE hK hP hS o2 d_M_removeRegions_45 (fun H locs hP hS => ?_)
        refine lv_iinc (v := x2 + 1) (lv' := [(2, .int (x2 + 1)), (0, .ref (ad 0)), (1, .int a1), (3, .int x3)]) S.1 S.2.1 d_M_removeRegions_46 hl (k := 2) rfl rfl (by decide) rfl (fun ls hl => ?_)
        refine lv_iinc (v := x3 + 1) (lv' := [(3, .int (x3 + 1)), (2, .int (x2 + 1)), (0, .ref (ad 0)), (1, .int a1)]) S.1 S.2.1 d_M_removeRegions_49 hl (k := 3) rfl rfl (by decide) rfl (fun ls hl => ?_)
        refine lv_goto (tgt := 4) S.1 S.2.1 d_M_removeRegions_52 (by decide) ?_
        have hB := lp_lc ek hi c9
        have hC := clamp_lt (m_regions V)
        rw [show j_M_removeRegions_h4 (f + 1) V a1 x2 x3 = j_M_removeRegions_h4 f (t_rn (t_rs V x2.toNatClampNeg (m_rs V x3.toNatClampNeg)) x2.toNatClampNeg (m_rn V x3.toNatClampNeg)) a1 (x2 + 1) (x3 + 1) from by rw [j_M_removeRegions_h4, if_neg c9, if_neg c19]]
        exact ih (i + 1) a1 (x2 + 1) (x3 + 1) (t_rn (t_rs V x2.toNatClampNeg (m_rs V x3.toNatClampNeg)) x2.toNatClampNeg (m_rn V x3.toNatClampNeg)) _ _ _ (by rw [ek]; exact nI_1 i) (by omega) (by show (m_regions V).toNatClampNeg - (i + 1) < f; omega) hp hP hS (lv_sub hl [2, 3, 1, 0] rfl)
/-- PageVaultModel.removeRegions(I)V -/
def j_M_removeRegions (V : MS) (a1 : Int32) : MS :=
  j_M_removeRegions_h4 ((m_regions V).toNatClampNeg + 1) V a1 0 0
/-- what it needs -/
def p_M_removeRegions (V : MS) (a1 : Int32) : Prop :=
  p_M_removeRegions_h4 ((m_regions V).toNatClampNeg + 1) V a1 0 0
set_option maxHeartbeats 4000000 in
set_option maxRecDepth 100000 in
theorem c_M_removeRegions (hE : mE ad) (V : MS) (a1 : Int32) (hp : p_M_removeRegions V a1) : MC l D ad cI cZ y_M_removeRegions b_M_removeRegions 4 none ({ frames := 0, cells := 0, slots := 0, locals := 0 }) [.ref (ad 0), .int a1] V none (j_M_removeRegions V a1) := by
  refine FC_intro (by decide) (Nat.le_of_ble_eq_true rfl) ?_
  intro p e s m below meth c ls S hr hlk hK hP hS hl
  have S : CallFix p m c b_M_removeRegions 4 s _ TG "PageVaultModel" := S
  have hl : lv_has ls 4 [(0, .ref (ad 0)), (1, .int a1)] := hl
  rw [p_M_removeRegions] at hp
  refine lv_iconst (v := 0) S.1 S.2.1 d_M_removeRegions_0 (by decide) ?_
  refine lv_istore_n (lv' := [(2, .int 0), (0, .ref (ad 0)), (1, .int a1)]) S.1 S.2.1 d_M_removeRegions_1 rfl hl (by decide) rfl (fun ls hl => ?_)
  refine lv_iconst (v := 0) S.1 S.2.1 d_M_removeRegions_2 (by decide) ?_
  refine lv_istore_n (lv' := [(3, .int 0), (2, .int 0), (0, .ref (ad 0)), (1, .int a1)]) S.1 S.2.1 d_M_removeRegions_3 rfl hl (by decide) rfl (fun ls hl => ?_)
  rw [show j_M_removeRegions V a1 = j_M_removeRegions_h4 ((m_regions V).toNatClampNeg + 1) V a1 0 0 from by rw [j_M_removeRegions]]
  exact w_M_removeRegions_h4 l D ad cI cZ hE S hr hlk hK ((m_regions V).toNatClampNeg + 1) 0 a1 0 0 V _ _ _ nI_0.symm (by decide) (by omega) hp hP hS (lv_sub hl [2, 3, 1, 0] rfl)
def j_M_unused_h2 : Nat → MS → Int32 → Int32
  | 0, V, _ => 0
  | f + 1, V, x1 =>
      if 16 ≤ x1 then
        (-1)
      else
        if (m_alive V x1.toNatClampNeg) = 0 then
          x1
        else
          j_M_unused_h2 f V (x1 + 1)
set_option maxHeartbeats 4000000 in
set_option maxRecDepth 100000 in
theorem w_M_unused_h2 (hE : mE ad) {p : Program} {e : Env} {s : State} {m : MethodId} {args : Array Value} {below : List Frame} {meth : Method} {c : Code} (S : CallFix p m c b_M_unused 2 s args TG "PageVaultModel") (hr : meth.sig.returnType = some .int) (hlk : meth.locks = false) (hK : mK D cI cZ s) :
    ∀ (f i : Nat) (x1 : Int32) (V : MS) (H : Heap) (locs : List Loc) (ls : Array Slot), x1 = nI i → i < 2 ^ 31 → 16 - i < f → MP D ad cI cZ (V) H → va_S (iA ad mN) s.heap H locs → lv_has ls 2 [(0, .ref (ad 0)), (1, .int x1)] → W p l e ({ frames := 0, cells := 0, slots := 0, locals := 0 }) s m args below meth c H locs 0 0 (MQ below (gPost D ad mN (some (.int (j_M_unused_h2 f V x1))) (mc ad cI cZ (V))) args s 0 0 (iA ad mN)) (F0 m 2 ls []) := by
  intro f
  induction f with
  | zero =>
    intro i x1 V H locs ls ek hi hf hP hS hl
    exact absurd hf (Nat.not_lt_zero _)
  | succ f ih =>
    intro i x1 V H locs ls ek hi hf hP hS hl
    refine lv_iload_n S.1 S.2.1 d_M_unused_2 rfl (lv_at hl 1 rfl) ?_
    refine lv_bipush (v := 16) S.1 S.2.1 d_M_unused_3 (by decide) ?_
    refine lv_icmp_ge (tgt := 25) S.1 S.2.1 d_M_unused_5 (by decide) (fun c5 => ?_) (fun c5 => ?_)
    · have c5 : 16 ≤ x1 := c5
      refine lv_iconst (v := (-1)) S.1 S.2.1 d_M_unused_25 (by decide) ?_
      rw [show j_M_unused_h2 (f + 1) V x1 = (-1) from by rw [j_M_unused_h2, if_pos c5]]
      exact m_iret S hr hlk hP hS d_M_unused_26
    · have c5 : ¬ (16 ≤ x1) := c5
      refine lv_aload_n S.1 S.2.1 d_M_unused_8 rfl (lv_at hl 0 rfl) ?_
      refine m_get_alive S hK hP tg_52 d_M_unused_9 ?_
      refine lv_iload_n S.1 S.2.1 d_M_unused_12 rfl (lv_at hl 1 rfl) ?_
      refine m_ald_alive S hK hP (vin_c (B := 16) (by decide) (by decide) (lp_nn ek hi) c5) d_M_unused_13 ?_
      refine lv_if_ne (tgt := 19) S.1 S.2.1 d_M_unused_14 (by decide) (fun c14 => ?_) (fun c14 => ?_)
      · have c14 : ¬ ((m_alive V x1.toNatClampNeg) = 0) := c14
        refine lv_iinc (v := x1 + 1) (lv' := [(1, .int (x1 + 1)), (0, .ref (ad 0))]) S.1 S.2.1 d_M_unused_19 hl (k := 1) rfl rfl (by decide) rfl (fun ls hl => ?_)
        refine lv_goto (tgt := 2) S.1 S.2.1 d_M_unused_22 (by decide) ?_
        have hB := lp_lc ek hi c5
        have hC := clamp_lt 16
        have hD : (16 : Int32).toNatClampNeg = 16 := by decide
        rw [show j_M_unused_h2 (f + 1) V x1 = j_M_unused_h2 f V (x1 + 1) from by rw [j_M_unused_h2, if_neg c5, if_neg c14]]
        exact ih (i + 1) (x1 + 1) V _ _ _ (by rw [ek]; exact nI_1 i) (by omega) (by omega) hP hS (lv_sub hl [1, 0] rfl)
      · have c14 : (m_alive V x1.toNatClampNeg) = 0 := c14
        refine lv_iload_n S.1 S.2.1 d_M_unused_17 rfl (lv_at hl 1 rfl) ?_
        rw [show j_M_unused_h2 (f + 1) V x1 = x1 from by rw [j_M_unused_h2, if_neg c5, if_pos c14]]
        exact m_iret S hr hlk hP hS d_M_unused_18
/-- PageVaultModel.unused()I -/
def j_M_unused (V : MS) : Int32 :=
  j_M_unused_h2 17 V 0
theorem unused_h {V : MS} : ∀ (f i : Nat) (x : Int32), x = nI i → i < 2 ^ 31 → 16 - i < f → ¬ j_M_unused_h2 f V x = -1 → vp_in (j_M_unused_h2 f V x) 16 := by
  intro f
  induction f with
  | zero => intro i x _ _ h; exact absurd h (Nat.not_lt_zero _)
  | succ f ih =>
    intro i x ek hi hf h
    rw [j_M_unused_h2] at h ⊢
    by_cases c1 : 16 ≤ x
    · rw [if_pos c1] at h
      exact absurd rfl h
    · rw [if_neg c1] at h ⊢
      have hB := lp_lt (B := 16) (by decide) (by decide) ek hi c1
      by_cases c2 : m_alive V x.toNatClampNeg = 0
      · rw [if_pos c2] at h ⊢
        exact vin_c (by decide) (by decide) (lp_nn ek hi) c1
      · rw [if_neg c2] at h ⊢
        exact ih (i + 1) (x + 1) (by rw [ek]; exact nI_1 i) (by omega) (by omega) h
theorem unused_in {V : MS} (h : ¬ j_M_unused V = -1) : vp_in (j_M_unused V) 16 := by
  unfold j_M_unused at h ⊢
  exact unused_h 17 0 0 nI_0.symm (by decide) (by decide) h
set_option maxHeartbeats 4000000 in
set_option maxRecDepth 100000 in
theorem c_M_unused (hE : mE ad) (V : MS)  : MC l D ad cI cZ y_M_unused b_M_unused 2 (some .int) ({ frames := 0, cells := 0, slots := 0, locals := 0 }) [.ref (ad 0)] V (some (.int (j_M_unused V))) (V) := by
  refine FC_intro (by decide) (Nat.le_of_ble_eq_true rfl) ?_
  intro p e s m below meth c ls S hr hlk hK hP hS hl
  have S : CallFix p m c b_M_unused 2 s _ TG "PageVaultModel" := S
  have hl : lv_has ls 2 [(0, .ref (ad 0))] := hl
  refine lv_iconst (v := 0) S.1 S.2.1 d_M_unused_0 (by decide) ?_
  refine lv_istore_n (lv' := [(1, .int 0), (0, .ref (ad 0))]) S.1 S.2.1 d_M_unused_1 rfl hl (by decide) rfl (fun ls hl => ?_)
  rw [show j_M_unused V = j_M_unused_h2 17 V 0 from by rw [j_M_unused]]
  exact w_M_unused_h2 l D ad cI cZ hE S hr hlk hK 17 0 0 V _ _ _ nI_0.symm (by decide) (by decide) hP hS (lv_sub hl [1, 0] rfl)
def j_M_peopled_h28 : Nat → MS → Int32 → Int32 → Int32 → Int32 → Int32 → Int32
  | 0, V, _, _, _, _, _ => 0
  | f + 1, V, a1, x2, x3, x4, x5 =>
      if x3 ≤ x5 then
        x4
      else
        if (m_ps V x5.toNatClampNeg) = a1 then
          if ((m_pn V x5.toNatClampNeg) / 1024) = ((m_pn V x3.toNatClampNeg) / 1024) then
            j_M_peopled_h28 f V a1 x2 x3 0 (x5 + 1)
          else
            j_M_peopled_h28 f V a1 x2 x3 x4 (x5 + 1)
        else
          j_M_peopled_h28 f V a1 x2 x3 x4 (x5 + 1)
def p_M_peopled_h28 : Nat → MS → Int32 → Int32 → Int32 → Int32 → Int32 → Prop
  | 0, _, _, _, _, _, _ => True
  | f + 1, V, a1, x2, x3, x4, x5 =>
      if x3 ≤ x5 then
        True
      else
        (vp_in x5 128) ∧ (
          if (m_ps V x5.toNatClampNeg) = a1 then
            (vp_in x3 128) ∧ (
              if ((m_pn V x5.toNatClampNeg) / 1024) = ((m_pn V x3.toNatClampNeg) / 1024) then
                p_M_peopled_h28 f V a1 x2 x3 0 (x5 + 1)
              else
                p_M_peopled_h28 f V a1 x2 x3 x4 (x5 + 1))
          else
            p_M_peopled_h28 f V a1 x2 x3 x4 (x5 + 1))
set_option maxHeartbeats 4000000 in
set_option maxRecDepth 100000 in
theorem w_M_peopled_h28 (hE : mE ad) {p : Program} {e : Env} {s : State} {m : MethodId} {args : Array Value} {below : List Frame} {meth : Method} {c : Code} {Q : State → Prop} (S : CallFix p m c b_M_peopled 6 s args TG "PageVaultModel") (hK : mK D cI cZ s) :
    ∀ (f i : Nat) (a1 x2 x3 x4 x5 : Int32) (V : MS) (H : Heap) (locs : List Loc) (ls : Array Slot), x5 = nI i → i < 2 ^ 31 → x3.toNatClampNeg - i < f → p_M_peopled_h28 f V a1 x2 x3 x4 x5 → MP D ad cI cZ (V) H → va_S (iA ad mN) s.heap H locs → lv_has ls 6 [(0, .ref (ad 0)), (1, .int a1), (2, .int x2), (3, .int x3), (4, .int x4), (5, .int x5)] → (∀ (H1 : Heap) (locs1 : List Loc) (ls1 : Array Slot), MP D ad cI cZ (V) H1 → va_S (iA ad mN) s.heap H1 locs1 → lv_has ls1 6 [(0, .ref (ad 0)), (1, .int a1), (2, .int x2), (3, .int x3), (4, .int (j_M_peopled_h28 f V a1 x2 x3 x4 x5))] → W p l e ({ frames := 0, cells := 0, slots := 0, locals := 0 }) s m args below meth c H1 locs1 0 0 Q (F0 m 78 ls1 [])) → W p l e ({ frames := 0, cells := 0, slots := 0, locals := 0 }) s m args below meth c H locs 0 0 Q (F0 m 28 ls []) := by
  intro f
  induction f with
  | zero =>
    intro i a1 x2 x3 x4 x5 V H locs ls ek hi hf hp hP hS hl kx
    exact absurd hf (Nat.not_lt_zero _)
  | succ f ih =>
    intro i a1 x2 x3 x4 x5 V H locs ls ek hi hf hp hP hS hl kx
    rw [p_M_peopled_h28] at hp
    refine lv_iload S.1 S.2.1 d_M_peopled_28 (lv_at hl 5 rfl) ?_
    refine lv_iload_n S.1 S.2.1 d_M_peopled_30 rfl (lv_at hl 3 rfl) ?_
    refine lv_icmp_ge (tgt := 78) S.1 S.2.1 d_M_peopled_31 (by decide) (fun c31 => ?_) (fun c31 => ?_)
    · have c31 : x3 ≤ x5 := c31
      rw [if_pos c31] at hp
      exact kx _ _ _ hP hS (by rw [show j_M_peopled_h28 (f + 1) V a1 x2 x3 x4 x5 = x4 from by rw [j_M_peopled_h28, if_pos c31]]; exact lv_sub hl [0, 1, 2, 3, 4] rfl)
    · have c31 : ¬ (x3 ≤ x5) := c31
      rw [if_neg c31] at hp
      refine lv_aload_n S.1 S.2.1 d_M_peopled_34 rfl (lv_at hl 0 rfl) ?_
      refine m_get_ps S hK hP tg_54 d_M_peopled_35 ?_
      refine lv_iload S.1 S.2.1 d_M_peopled_38 (lv_at hl 5 rfl) ?_
      obtain ⟨o1, hp⟩ := hp
      refine m_ald_ps S hK hP o1 d_M_peopled_40 ?_
      refine lv_iload_n S.1 S.2.1 d_M_peopled_41 rfl (lv_at hl 1 rfl) ?_
      refine lv_icmp_ne (tgt := 72) S.1 S.2.1 d_M_peopled_42 (by decide) (fun c42 => ?_) (fun c42 => ?_)
      · have c42 : ¬ ((m_ps V x5.toNatClampNeg) = a1) := c42
        rw [if_neg c42] at hp
        refine lv_iinc (v := x5 + 1) (lv' := [(5, .int (x5 + 1)), (0, .ref (ad 0)), (1, .int a1), (2, .int x2), (3, .int x3), (4, .int x4)]) S.1 S.2.1 d_M_peopled_72 hl (k := 5) rfl rfl (by decide) rfl (fun ls hl => ?_)
        refine lv_goto (tgt := 28) S.1 S.2.1 d_M_peopled_75 (by decide) ?_
        have hB := lp_lc ek hi c31
        have hC := clamp_lt x3
        refine ih (i + 1) a1 x2 x3 x4 (x5 + 1) V _ _ _ (by rw [ek]; exact nI_1 i) (by omega) (by omega) hp hP hS (lv_sub hl [1, 2, 3, 4, 5, 0] rfl) (fun H1 locs1 ls1 q1 q2 q3 => kx H1 locs1 ls1 q1 q2 (by rw [show j_M_peopled_h28 (f + 1) V a1 x2 x3 x4 x5 = j_M_peopled_h28 f V a1 x2 x3 x4 (x5 + 1) from by rw [j_M_peopled_h28, if_neg c31, if_neg c42]]; exact q3))
      · have c42 : (m_ps V x5.toNatClampNeg) = a1 := c42
        rw [if_pos c42] at hp
        refine lv_aload_n S.1 S.2.1 d_M_peopled_45 rfl (lv_at hl 0 rfl) ?_
        refine m_get_pn S hK hP tg_55 d_M_peopled_46 ?_
        refine lv_iload S.1 S.2.1 d_M_peopled_49 (lv_at hl 5 rfl) ?_
        refine m_ald_pn S hK hP o1 d_M_peopled_51 ?_
        refine lv_sipush (v := 1024) S.1 S.2.1 d_M_peopled_52 (by decide) ?_
        refine lv_idiv S.1 S.2.1 d_M_peopled_55 (by decide) ?_
        refine lv_aload_n S.1 S.2.1 d_M_peopled_56 rfl (lv_at hl 0 rfl) ?_
        refine m_get_pn S hK hP tg_55 d_M_peopled_57 ?_
        refine lv_iload_n S.1 S.2.1 d_M_peopled_60 rfl (lv_at hl 3 rfl) ?_
        obtain ⟨o2, hp⟩ := hp
        refine m_ald_pn S hK hP o2 d_M_peopled_61 ?_
        refine lv_sipush (v := 1024) S.1 S.2.1 d_M_peopled_62 (by decide) ?_
        refine lv_idiv S.1 S.2.1 d_M_peopled_65 (by decide) ?_
        refine lv_icmp_ne (tgt := 72) S.1 S.2.1 d_M_peopled_66 (by decide) (fun c66 => ?_) (fun c66 => ?_)
        · have c66 : ¬ (((m_pn V x5.toNatClampNeg) / 1024) = ((m_pn V x3.toNatClampNeg) / 1024)) := c66
          rw [if_neg c66] at hp
          refine lv_iinc (v := x5 + 1) (lv' := [(5, .int (x5 + 1)), (0, .ref (ad 0)), (1, .int a1), (2, .int x2), (3, .int x3), (4, .int x4)]) S.1 S.2.1 d_M_peopled_72 hl (k := 5) rfl rfl (by decide) rfl (fun ls hl => ?_)
          refine lv_goto (tgt := 28) S.1 S.2.1 d_M_peopled_75 (by decide) ?_
          have hB := lp_lc ek hi c31
          have hC := clamp_lt x3
          refine ih (i + 1) a1 x2 x3 x4 (x5 + 1) V _ _ _ (by rw [ek]; exact nI_1 i) (by omega) (by omega) hp hP hS (lv_sub hl [1, 2, 3, 4, 5, 0] rfl) (fun H1 locs1 ls1 q1 q2 q3 => kx H1 locs1 ls1 q1 q2 (by rw [show j_M_peopled_h28 (f + 1) V a1 x2 x3 x4 x5 = j_M_peopled_h28 f V a1 x2 x3 x4 (x5 + 1) from by rw [j_M_peopled_h28, if_neg c31, if_pos c42, if_neg c66]]; exact q3))
        · have c66 : ((m_pn V x5.toNatClampNeg) / 1024) = ((m_pn V x3.toNatClampNeg) / 1024) := c66
          rw [if_pos c66] at hp
          refine lv_iconst (v := 0) S.1 S.2.1 d_M_peopled_69 (by decide) ?_
          refine lv_istore (lv' := [(4, .int 0), (0, .ref (ad 0)), (1, .int a1), (2, .int x2), (3, .int x3), (5, .int x5)]) S.1 S.2.1 d_M_peopled_70 hl (by decide) rfl (fun ls hl => ?_)
          refine lv_iinc (v := x5 + 1) (lv' := [(5, .int (x5 + 1)), (4, .int 0), (0, .ref (ad 0)), (1, .int a1), (2, .int x2), (3, .int x3)]) S.1 S.2.1 d_M_peopled_72 hl (k := 5) rfl rfl (by decide) rfl (fun ls hl => ?_)
          refine lv_goto (tgt := 28) S.1 S.2.1 d_M_peopled_75 (by decide) ?_
          have hB := lp_lc ek hi c31
          have hC := clamp_lt x3
          refine ih (i + 1) a1 x2 x3 0 (x5 + 1) V _ _ _ (by rw [ek]; exact nI_1 i) (by omega) (by omega) hp hP hS (lv_sub hl [2, 3, 4, 5, 1, 0] rfl) (fun H1 locs1 ls1 q1 q2 q3 => kx H1 locs1 ls1 q1 q2 (by rw [show j_M_peopled_h28 (f + 1) V a1 x2 x3 x4 x5 = j_M_peopled_h28 f V a1 x2 x3 0 (x5 + 1) from by rw [j_M_peopled_h28, if_neg c31, if_pos c42, if_pos c66]]; exact q3))
end MW
