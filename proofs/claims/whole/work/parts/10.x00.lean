section XW
variable (l : Launch) (D : va_G) (ad : Nat → Nat) (n : Nat) (cI cS cQ : ClassId)
/-- PageVault$Space.isOpen()Z -/
def j_S_isOpen (V : VS) (k : Nat) : Int32 :=
  if (v_root V k) = (-1) then
    0
  else
    1
set_option maxHeartbeats 4000000 in
set_option maxRecDepth 100000 in
theorem c_S_isOpen (hE : xE ad n) (V : VS) (k : Nat) (hk : k < 16) : XC l D ad n cI cS cQ y_S_isOpen b_S_isOpen 1 (some .boolean) ({ frames := 0, cells := 0, slots := 0, locals := 0 }) [.ref (ad (6 + k))] V (some (.int (j_S_isOpen V k))) (V) := by
  refine FC_intro (by decide) (Nat.le_of_ble_eq_true rfl) ?_
  intro p e s m below meth c ls S hr hlk hK hP hS hl
  have S : CallFix p m c b_S_isOpen 1 s _ TG "PageVault$Space" := S
  have hl : lv_has ls 1 [(0, .ref (ad (6 + k)))] := hl
  refine lv_aload_n S.1 S.2.1 d_S_isOpen_0 rfl (lv_at hl 0 rfl) ?_
  refine x_get_root S hK hP hk tg_48 d_S_isOpen_1 ?_
  refine lv_iconst (v := (-1)) S.1 S.2.1 d_S_isOpen_4 (by decide) ?_
  refine lv_icmp_eq (tgt := 12) S.1 S.2.1 d_S_isOpen_5 (by decide) (fun c5 => ?_) (fun c5 => ?_)
  · refine lv_iconst (v := 0) S.1 S.2.1 d_S_isOpen_12 (by decide) ?_
    rw [show j_S_isOpen V k = 0 from by rw [j_S_isOpen, if_pos c5]]
    exact x_zret (v := 0) S hr hlk rfl hP hS d_S_isOpen_13
  · refine lv_iconst (v := 1) S.1 S.2.1 d_S_isOpen_8 (by decide) ?_
    refine lv_goto (tgt := 13) S.1 S.2.1 d_S_isOpen_9 (by decide) ?_
    rw [show j_S_isOpen V k = 1 from by rw [j_S_isOpen, if_neg c5]]
    exact x_zret (v := 1) S hr hlk rfl hP hS d_S_isOpen_13
def j_V_leastUnused_h2 : Nat → VS → Int32 → Int32
  | 0, V, _ => 0
  | f + 1, V, x1 =>
      if 16 ≤ x1 then
        (-1)
      else
        if (j_S_isOpen V x1.toNatClampNeg) = 0 then
          x1
        else
          j_V_leastUnused_h2 f V (x1 + 1)
set_option maxHeartbeats 4000000 in
set_option maxRecDepth 100000 in
theorem w_V_leastUnused_h2 (hE : xE ad n) {p : Program} {e : Env} {s : State} {m : MethodId} {args : Array Value} {below : List Frame} {meth : Method} {c : Code} (S : CallFix p m c b_V_leastUnused 2 s args TG "PageVault") (hr : meth.sig.returnType = some .int) (hlk : meth.locks = false) (hK : xK D cI cS cQ s) :
    ∀ (f i : Nat) (x1 : Int32) (V : VS) (H : Heap) (locs : List Loc) (ls : Array Slot), x1 = nI i → i < 2 ^ 31 → 16 - i < f → XP D ad n cI cS cQ V H → va_S (iA ad (xN n)) s.heap H locs → lv_has ls 2 [(0, .ref (ad 0)), (1, .int x1)] → W p l e ({ frames := 1, cells := 0, slots := 0, locals := 20 }) s m args below meth c H locs 0 0 (MQ below (gPost D ad (xN n) (some (.int (j_V_leastUnused_h2 f V x1))) (xc ad n cI cS cQ (V))) args s 0 0 (iA ad (xN n))) (F0 m 2 ls []) := by
  intro f
  induction f with
  | zero =>
    intro i x1 V H locs ls ek hi hf hP hS hl
    exact absurd hf (Nat.not_lt_zero _)
  | succ f ih =>
    intro i x1 V H locs ls ek hi hf hP hS hl
    refine lv_iload_n S.1 S.2.1 d_V_leastUnused_2 rfl (lv_at hl 1 rfl) ?_
    refine lv_bipush (v := 16) S.1 S.2.1 d_V_leastUnused_3 (by decide) ?_
    refine lv_icmp_ge (tgt := 28) S.1 S.2.1 d_V_leastUnused_5 (by decide) (fun c5 => ?_) (fun c5 => ?_)
    · refine lv_iconst (v := (-1)) S.1 S.2.1 d_V_leastUnused_28 (by decide) ?_
      rw [show j_V_leastUnused_h2 (f + 1) V x1 = (-1) from by rw [j_V_leastUnused_h2, if_pos c5]]
      exact x_iret S hr hlk hP hS d_V_leastUnused_29
    · refine lv_aload_n S.1 S.2.1 d_V_leastUnused_8 rfl (lv_at hl 0 rfl) ?_
      refine x_get_spaces S hK hP tg_50 d_V_leastUnused_9 ?_
      refine lv_iload_n S.1 S.2.1 d_V_leastUnused_12 rfl (lv_at hl 1 rfl) ?_
      refine x_ald_spaces S hK hP (vin_c (B := 16) (by decide) (by decide) (lp_nn ek hi) c5) d_V_leastUnused_13 ?_
      refine x_callVi (As := []) (rest := []) S hK ci_V_131 (c_S_isOpen l D ad n cI cS cQ hE V x1.toNatClampNeg (vin_lt (vin_c (B := 16) (by decide) (by decide) (lp_nn ek hi) c5))) (x_recS hK hP (vin_lt (vin_c (B := 16) (by decide) (by decide) (lp_nn ek hi) c5))) hP hS ⟨rfl, rfl, Nat.le_of_ble_eq_true rfl, Nat.le_of_ble_eq_true rfl⟩ rfl hl.1 rfl (Nat.le_of_ble_eq_true rfl) d_V_leastUnused_14 (fun H locs hP hS => ?_)
      refine lv_if_ne (tgt := 22) S.1 S.2.1 d_V_leastUnused_17 (by decide) (fun c17 => ?_) (fun c17 => ?_)
      · refine lv_iinc (v := x1 + 1) (lv' := [(1, .int (x1 + 1)), (0, .ref (ad 0))]) S.1 S.2.1 d_V_leastUnused_22 hl (k := 1) rfl rfl (by decide) rfl (fun ls hl => ?_)
        refine lv_goto (tgt := 2) S.1 S.2.1 d_V_leastUnused_25 (by decide) ?_
        have hn9 := hE.2
        have hB := lp_lt (B := 16) (by decide) (by decide) ek hi c5
        rw [show j_V_leastUnused_h2 (f + 1) V x1 = j_V_leastUnused_h2 f V (x1 + 1) from by rw [j_V_leastUnused_h2, if_neg c5, if_neg c17]]
        exact ih (i + 1)  (x1 + 1) V _ _ _ (by rw [ek]; exact nI_1 i) (by omega) (by omega) hP hS (lv_sub hl [1, 0] rfl)
      · refine lv_iload_n S.1 S.2.1 d_V_leastUnused_20 rfl (lv_at hl 1 rfl) ?_
        rw [show j_V_leastUnused_h2 (f + 1) V x1 = x1 from by rw [j_V_leastUnused_h2, if_neg c5, if_pos c17]]
        exact x_iret S hr hlk hP hS d_V_leastUnused_21
/-- PageVault.leastUnused()I -/
def j_V_leastUnused (V : VS) : Int32 :=
  j_V_leastUnused_h2 17 V 0
theorem lu_h {V : VS} : ∀ (f i : Nat) (x : Int32), x = nI i → i < 2 ^ 31 → 16 - i < f → ¬ j_V_leastUnused_h2 f V x = -1 → vp_in (j_V_leastUnused_h2 f V x) 16 := by
  intro f
  induction f with
  | zero => intro i x _ _ h; exact absurd h (Nat.not_lt_zero _)
  | succ f ih =>
    intro i x ek hi hf h
    rw [j_V_leastUnused_h2] at h ⊢
    by_cases c1 : 16 ≤ x
    · rw [if_pos c1] at h
      exact absurd rfl h
    · rw [if_neg c1] at h ⊢
      have hB := lp_lt (B := 16) (by decide) (by decide) ek hi c1
      by_cases c2 : j_S_isOpen V x.toNatClampNeg = 0
      · rw [if_pos c2] at h ⊢
        exact vin_c (by decide) (by decide) (lp_nn ek hi) c1
      · rw [if_neg c2] at h ⊢
        exact ih (i + 1) (x + 1) (by rw [ek]; exact nI_1 i) (by omega) (by omega) h
theorem lu_in {V : VS} (h : ¬ j_V_leastUnused V = -1) : vp_in (j_V_leastUnused V) 16 := by
  unfold j_V_leastUnused at h ⊢
  exact lu_h 17 0 0 nI_0.symm (by decide) (by decide) h
set_option maxHeartbeats 4000000 in
set_option maxRecDepth 100000 in
theorem c_V_leastUnused (hE : xE ad n) (V : VS)  : XC l D ad n cI cS cQ y_V_leastUnused b_V_leastUnused 2 (some .int) ({ frames := 1, cells := 0, slots := 0, locals := 20 }) [.ref (ad 0)] V (some (.int (j_V_leastUnused V))) (V) := by
  refine FC_intro (by decide) (Nat.le_of_ble_eq_true rfl) ?_
  intro p e s m below meth c ls S hr hlk hK hP hS hl
  have S : CallFix p m c b_V_leastUnused 2 s _ TG "PageVault" := S
  have hl : lv_has ls 2 [(0, .ref (ad 0))] := hl
  refine lv_iconst (v := 0) S.1 S.2.1 d_V_leastUnused_0 (by decide) ?_
  refine lv_istore_n (lv' := [(1, .int 0), (0, .ref (ad 0))]) S.1 S.2.1 d_V_leastUnused_1 rfl hl (by decide) rfl (fun ls hl => ?_)
  rw [show j_V_leastUnused V = j_V_leastUnused_h2 17 V 0 from by rw [j_V_leastUnused]]
  exact w_V_leastUnused_h2 l D ad n cI cS cQ hE S hr hlk hK 17 0 0 V _ _ _ nI_0.symm (by decide) (by decide) hP hS (lv_sub hl [1, 0] rfl)
/-- PageVault$Frames.spare()I -/
def j_F_spare (V : VS) : Int32 :=
  v_spare V
set_option maxHeartbeats 4000000 in
set_option maxRecDepth 100000 in
theorem c_F_spare (hE : xE ad n) (V : VS)  : XC l D ad n cI cS cQ y_F_spare b_F_spare 1 (some .int) ({ frames := 0, cells := 0, slots := 0, locals := 0 }) [.ref (ad 1)] V (some (.int (j_F_spare V))) (V) := by
  refine FC_intro (by decide) (Nat.le_of_ble_eq_true rfl) ?_
  intro p e s m below meth c ls S hr hlk hK hP hS hl
  have S : CallFix p m c b_F_spare 1 s _ TG "PageVault$Frames" := S
  have hl : lv_has ls 1 [(0, .ref (ad 1))] := hl
  refine lv_aload_n S.1 S.2.1 d_F_spare_0 rfl (lv_at hl 0 rfl) ?_
  refine x_get_spare S hK hP tg_46 d_F_spare_1 ?_
  rw [show j_F_spare V = v_spare V from by rw [j_F_spare]]
  exact x_iret S hr hlk hP hS d_F_spare_4
def j_F_take_h2 (n : Nat) : Nat → VS → Int32 → Int32 × VS
  | 0, V, _ => (0, V)
  | f + 1, V, x1 =>
      if (nI n) ≤ x1 then
        ((-1), V)
      else
        if (v_hold V x1.toNatClampNeg) = 0 then
          (x1, s_row (s_spare (s_hold V x1.toNatClampNeg 1) ((v_spare (s_hold V x1.toNatClampNeg 1)) - 1)) x1.toNatClampNeg (fun _ => 0))
        else
          j_F_take_h2 n f V (x1 + 1)
set_option maxHeartbeats 4000000 in
set_option maxRecDepth 100000 in
theorem w_F_take_h2 (hE : xE ad n) {p : Program} {e : Env} {s : State} {m : MethodId} {args : Array Value} {below : List Frame} {meth : Method} {c : Code} (S : CallFix p m c b_F_take 2 s args TG "PageVault$Frames") (hr : meth.sig.returnType = some .int) (hlk : meth.locks = false) (hK : xK D cI cS cQ s) :
    ∀ (f i : Nat) (x1 : Int32) (V : VS) (H : Heap) (locs : List Loc) (ls : Array Slot), x1 = nI i → i < 2 ^ 31 → n - i < f → XP D ad n cI cS cQ V H → va_S (iA ad (xN n)) s.heap H locs → lv_has ls 2 [(0, .ref (ad 1)), (1, .int x1)] → W p l e ({ frames := 1, cells := 0, slots := 0, locals := 40 }) s m args below meth c H locs 0 0 (MQ below (gPost D ad (xN n) (some (.int (j_F_take_h2 n f V x1).1)) (xc ad n cI cS cQ ((j_F_take_h2 n f V x1).2))) args s 0 0 (iA ad (xN n))) (F0 m 2 ls []) := by
  intro f
  induction f with
  | zero =>
    intro i x1 V H locs ls ek hi hf hP hS hl
    exact absurd hf (Nat.not_lt_zero _)
  | succ f ih =>
    intro i x1 V H locs ls ek hi hf hP hS hl
    refine lv_iload_n S.1 S.2.1 d_F_take_2 rfl (lv_at hl 1 rfl) ?_
    refine lv_aload_n S.1 S.2.1 d_F_take_3 rfl (lv_at hl 0 rfl) ?_
    refine x_get_holders S hK hP tg_45 d_F_take_4 ?_
    refine x_len_holders S hK hP d_F_take_7 ?_
    refine lv_icmp_ge (tgt := 55) S.1 S.2.1 d_F_take_8 (by decide) (fun c8 => ?_) (fun c8 => ?_)
    · refine lv_iconst (v := (-1)) S.1 S.2.1 d_F_take_55 (by decide) ?_
      rw [show j_F_take_h2 n (f + 1) V x1 = ((-1), V) from by rw [j_F_take_h2, if_pos c8]]
      exact x_iret S hr hlk hP hS d_F_take_56
    · refine lv_aload_n S.1 S.2.1 d_F_take_11 rfl (lv_at hl 0 rfl) ?_
      refine x_get_holders S hK hP tg_45 d_F_take_12 ?_
      refine lv_iload_n S.1 S.2.1 d_F_take_15 rfl (lv_at hl 1 rfl) ?_
      refine x_ald_holders S hK hP (vin_c rfl hE.n (lp_nn ek hi) c8) d_F_take_16 ?_
      refine lv_if_ne (tgt := 49) S.1 S.2.1 d_F_take_17 (by decide) (fun c17 => ?_) (fun c17 => ?_)
      · refine lv_iinc (v := x1 + 1) (lv' := [(1, .int (x1 + 1)), (0, .ref (ad 1))]) S.1 S.2.1 d_F_take_49 hl (k := 1) rfl rfl (by decide) rfl (fun ls hl => ?_)
        refine lv_goto (tgt := 2) S.1 S.2.1 d_F_take_52 (by decide) ?_
        have hn9 := hE.2
        have hB := lp_lt (B := n) rfl hE.n ek hi c8
        rw [show j_F_take_h2 n (f + 1) V x1 = j_F_take_h2 n f V (x1 + 1) from by rw [j_F_take_h2, if_neg c8, if_neg c17]]
        exact ih (i + 1)  (x1 + 1) V _ _ _ (by rw [ek]; exact nI_1 i) (by omega) (by omega) hP hS (lv_sub hl [1, 0] rfl)
      · refine lv_aload_n S.1 S.2.1 d_F_take_20 rfl (lv_at hl 0 rfl) ?_
        refine x_get_holders S hK hP tg_45 d_F_take_21 ?_
        refine lv_iload_n S.1 S.2.1 d_F_take_24 rfl (lv_at hl 1 rfl) ?_
        refine lv_iconst (v := 1) S.1 S.2.1 d_F_take_25 (by decide) ?_
        refine x_ast_holders S hE hK hP hS (vin_c rfl hE.n (lp_nn ek hi) c8) d_F_take_26 (fun H locs hP hS => ?_)
        refine lv_aload_n S.1 S.2.1 d_F_take_27 rfl (lv_at hl 0 rfl) ?_
        refine lv_dup S.1 S.2.1 d_F_take_28 rfl ?_
        refine x_get_spare S hK hP tg_46 d_F_take_29 ?_
        refine lv_iconst (v := 1) S.1 S.2.1 d_F_take_32 (by decide) ?_
        refine lv_isub S.1 S.2.1 d_F_take_33 ?_
        refine x_put_spare S hE hK hP hS tg_46 d_F_take_34 (fun H locs hP hS => ?_)
        refine lv_aload_n S.1 S.2.1 d_F_take_37 rfl (lv_at hl 0 rfl) ?_
        refine x_get_words S hK hP tg_44 d_F_take_38 ?_
        refine lv_iload_n S.1 S.2.1 d_F_take_41 rfl (lv_at hl 1 rfl) ?_
        refine x_ald_words S hK hP (vin_c rfl hE.n (lp_nn ek hi) c8) d_F_take_42 ?_
        refine lv_iconst (v := 0) S.1 S.2.1 d_F_take_43 (by decide) ?_
        refine x_callSv (As := [.ref (ad (22 + x1.toNatClampNeg)), .int 0]) (rest := []) S hK ci_F_24 (c_A_fill l D ad n cI cS cQ hE (s_spare (s_hold V x1.toNatClampNeg 1) ((v_spare (s_hold V x1.toNatClampNeg 1)) - 1)) x1.toNatClampNeg (vin_lt (vin_c rfl hE.n (lp_nn ek hi) c8)) 0) hP hS ⟨rfl, rfl, Nat.le_of_ble_eq_true rfl, Nat.le_of_ble_eq_true rfl⟩ rfl hl.1 rfl (Nat.le_of_ble_eq_true rfl) d_F_take_44 (fun H locs hP hS => ?_)
        refine lv_iload_n S.1 S.2.1 d_F_take_47 rfl (lv_at hl 1 rfl) ?_
        rw [show j_F_take_h2 n (f + 1) V x1 = (x1, s_row (s_spare (s_hold V x1.toNatClampNeg 1) ((v_spare (s_hold V x1.toNatClampNeg 1)) - 1)) x1.toNatClampNeg (fun _ => 0)) from by rw [j_F_take_h2, if_neg c8, if_pos c17]]
        exact x_iret S hr hlk hP hS d_F_take_48
/-- PageVault$Frames.take()I -/
def j_F_take (n : Nat) (V : VS) : Int32 × VS :=
  j_F_take_h2 n (n + 1) V 0
set_option maxHeartbeats 4000000 in
set_option maxRecDepth 100000 in
theorem c_F_take (hE : xE ad n) (V : VS)  : XC l D ad n cI cS cQ y_F_take b_F_take 2 (some .int) ({ frames := 1, cells := 0, slots := 0, locals := 40 }) [.ref (ad 1)] V (some (.int (j_F_take n V).1)) ((j_F_take n V).2) := by
  refine FC_intro (by decide) (Nat.le_of_ble_eq_true rfl) ?_
  intro p e s m below meth c ls S hr hlk hK hP hS hl
  have S : CallFix p m c b_F_take 2 s _ TG "PageVault$Frames" := S
  have hl : lv_has ls 2 [(0, .ref (ad 1))] := hl
  refine lv_iconst (v := 0) S.1 S.2.1 d_F_take_0 (by decide) ?_
  refine lv_istore_n (lv' := [(1, .int 0), (0, .ref (ad 1))]) S.1 S.2.1 d_F_take_1 rfl hl (by decide) rfl (fun ls hl => ?_)
  rw [show j_F_take n V = j_F_take_h2 n (n + 1) V 0 from by rw [j_F_take]]
  exact w_F_take_h2 l D ad n cI cS cQ hE S hr hlk hK (n + 1) 0 0 V _ _ _ nI_0.symm (by decide) (by omega) hP hS (lv_sub hl [1, 0] rfl)
/-- PageVault$Space.open(I)V -/
def j_S_open (n : Nat) (V : VS) (k : Nat) (a1 : Int32) : VS :=
  s_len (s_root ((j_F_take n V).2) k ((j_F_take n V).1)) k a1
set_option maxHeartbeats 4000000 in
set_option maxRecDepth 100000 in
theorem c_S_open (hE : xE ad n) (V : VS) (k : Nat) (hk : k < 16) (a1 : Int32) : XC l D ad n cI cS cQ y_S_open b_S_open 2 none ({ frames := 2, cells := 0, slots := 0, locals := 61 }) [.ref (ad (6 + k)), .int a1] V none (j_S_open n V k a1) := by
  refine FC_intro (by decide) (Nat.le_of_ble_eq_true rfl) ?_
  intro p e s m below meth c ls S hr hlk hK hP hS hl
  have S : CallFix p m c b_S_open 2 s _ TG "PageVault$Space" := S
  have hl : lv_has ls 2 [(0, .ref (ad (6 + k))), (1, .int a1)] := hl
  refine lv_aload_n S.1 S.2.1 d_S_open_0 rfl (lv_at hl 0 rfl) ?_
  refine lv_aload_n S.1 S.2.1 d_S_open_1 rfl (lv_at hl 0 rfl) ?_
  refine x_get_sframes S hK hP hk tg_47 d_S_open_2 ?_
  refine x_callVi (As := []) (rest := [.ref (ad (6 + k))]) S hK ci_S_22 (c_F_take l D ad n cI cS cQ hE V) (x_recF hK hP) hP hS ⟨rfl, rfl, Nat.le_of_ble_eq_true rfl, Nat.le_of_ble_eq_true rfl⟩ rfl hl.1 rfl (Nat.le_of_ble_eq_true rfl) d_S_open_5 (fun H locs hP hS => ?_)
  refine x_put_root S hE hK hP hS hk tg_48 d_S_open_8 (fun H locs hP hS => ?_)
  refine lv_aload_n S.1 S.2.1 d_S_open_11 rfl (lv_at hl 0 rfl) ?_
  refine lv_iload_n S.1 S.2.1 d_S_open_12 rfl (lv_at hl 1 rfl) ?_
  refine x_put_length S hE hK hP hS hk tg_173 d_S_open_13 (fun H locs hP hS => ?_)
  rw [show j_S_open n V k a1 = s_len (s_root ((j_F_take n V).2) k ((j_F_take n V).1)) k a1 from by rw [j_S_open]]
  exact x_vret S hr hlk hP hS d_S_open_16
/-- PageVault.make()I -/
def j_V_make (n : Nat) (V : VS) : Int32 × VS :=
  if (j_V_leastUnused V) = (-1) then
    ((-1), V)
  else
    if 1 ≤ (j_F_spare V) then
      (j_V_leastUnused V, j_S_open n V ((j_V_leastUnused V).toNatClampNeg) 0)
    else
      ((-1), V)
set_option maxHeartbeats 4000000 in
set_option maxRecDepth 100000 in
theorem c_V_make (hE : xE ad n) (V : VS)  : XC l D ad n cI cS cQ y_V_make b_V_make 2 (some .int) ({ frames := 3, cells := 0, slots := 0, locals := 82 }) [.ref (ad 0)] V (some (.int (j_V_make n V).1)) ((j_V_make n V).2) := by
  refine FC_intro (by decide) (Nat.le_of_ble_eq_true rfl) ?_
  intro p e s m below meth c ls S hr hlk hK hP hS hl
  have S : CallFix p m c b_V_make 2 s _ TG "PageVault" := S
  have hl : lv_has ls 2 [(0, .ref (ad 0))] := hl
  refine lv_aload_n S.1 S.2.1 d_V_make_0 rfl (lv_at hl 0 rfl) ?_
  refine x_callVi (As := []) (rest := []) S hK ci_V_40 (c_V_leastUnused l D ad n cI cS cQ hE V) (x_recV hK hP) hP hS ⟨rfl, rfl, Nat.le_of_ble_eq_true rfl, Nat.le_of_ble_eq_true rfl⟩ rfl hl.1 rfl (Nat.le_of_ble_eq_true rfl) d_V_make_1 (fun H locs hP hS => ?_)
  refine lv_istore_n (lv' := [(1, .int (j_V_leastUnused V)), (0, .ref (ad 0))]) S.1 S.2.1 d_V_make_4 rfl hl (by decide) rfl (fun ls hl => ?_)
  refine lv_iload_n S.1 S.2.1 d_V_make_5 rfl (lv_at hl 0 rfl) ?_
  refine lv_iconst (v := (-1)) S.1 S.2.1 d_V_make_6 (by decide) ?_
  refine lv_icmp_eq (tgt := 21) S.1 S.2.1 d_V_make_7 (by decide) (fun c7 => ?_) (fun c7 => ?_)
  · refine lv_iconst (v := (-1)) S.1 S.2.1 d_V_make_21 (by decide) ?_
    rw [show j_V_make n V = ((-1), V) from by rw [j_V_make, if_pos c7]]
    exact x_iret S hr hlk hP hS d_V_make_22
  · refine lv_aload_n S.1 S.2.1 d_V_make_10 rfl (lv_at hl 1 rfl) ?_
    refine x_get_frames S hK hP tg_49 d_V_make_11 ?_
    refine x_callVi (As := []) (rest := []) S hK ci_V_44 (c_F_spare l D ad n cI cS cQ hE V) (x_recF hK hP) hP hS ⟨rfl, rfl, Nat.le_of_ble_eq_true rfl, Nat.le_of_ble_eq_true rfl⟩ rfl hl.1 rfl (Nat.le_of_ble_eq_true rfl) d_V_make_14 (fun H locs hP hS => ?_)
    refine lv_iconst (v := 1) S.1 S.2.1 d_V_make_17 (by decide) ?_
    refine lv_icmp_ge (tgt := 23) S.1 S.2.1 d_V_make_18 (by decide) (fun c18 => ?_) (fun c18 => ?_)
    · refine lv_aload_n S.1 S.2.1 d_V_make_23 rfl (lv_at hl 1 rfl) ?_
      refine x_get_spaces S hK hP tg_50 d_V_make_24 ?_
      refine lv_iload_n S.1 S.2.1 d_V_make_27 rfl (lv_at hl 0 rfl) ?_
      refine x_ald_spaces S hK hP (lu_in c7) d_V_make_28 ?_
      refine lv_iconst (v := 0) S.1 S.2.1 d_V_make_29 (by decide) ?_
      refine x_callVv (As := [.int 0]) (rest := []) S hK ci_V_47 (c_S_open l D ad n cI cS cQ hE V ((j_V_leastUnused V).toNatClampNeg) (vin_lt (lu_in c7)) 0) (x_recS hK hP (vin_lt (lu_in c7))) hP hS ⟨rfl, rfl, Nat.le_of_ble_eq_true rfl, Nat.le_of_ble_eq_true rfl⟩ rfl hl.1 rfl (Nat.le_of_ble_eq_true rfl) d_V_make_30 (fun H locs hP hS => ?_)
      refine lv_iload_n S.1 S.2.1 d_V_make_33 rfl (lv_at hl 0 rfl) ?_
      rw [show j_V_make n V = (j_V_leastUnused V, j_S_open n V ((j_V_leastUnused V).toNatClampNeg) 0) from by rw [j_V_make, if_neg c7, if_pos c18]]
      exact x_iret S hr hlk hP hS d_V_make_34
    · refine lv_iconst (v := (-1)) S.1 S.2.1 d_V_make_21 (by decide) ?_
      rw [show j_V_make n V = ((-1), V) from by rw [j_V_make, if_neg c7, if_neg c18]]
      exact x_iret S hr hlk hP hS d_V_make_22
/-- PageVault.find(I)LPageVault$Space; -/
def j_V_find (V : VS) (a1 : Int32) : Option Nat :=
  if a1 < 0 then
    none
  else
    if 16 ≤ a1 then
      none
    else
      if (j_S_isOpen V a1.toNatClampNeg) = 0 then
        none
      else
        some a1.toNatClampNeg
theorem find_lt {V : VS} {x : Int32} {k : Nat} (h : j_V_find V x = some k) : k < 16 := by
  unfold j_V_find at h
  by_cases c1 : x < 0
  · rw [if_pos c1] at h
    cases h
  · rw [if_neg c1] at h
    by_cases c2 : 16 ≤ x
    · rw [if_pos c2] at h
      cases h
    · rw [if_neg c2] at h
      by_cases c3 : j_S_isOpen V x.toNatClampNeg = 0
      · rw [if_pos c3] at h
        cases h
      · rw [if_neg c3] at h
        cases h
        exact vin_lt (vin_c (B := 16) (by decide) (by decide) c1 c2)
set_option maxHeartbeats 4000000 in
set_option maxRecDepth 100000 in
theorem c_V_find (hE : xE ad n) (V : VS) (a1 : Int32) : XC l D ad n cI cS cQ y_V_find b_V_find 2 (some (.object "PageVault$Space")) ({ frames := 1, cells := 0, slots := 0, locals := 20 }) [.ref (ad 0), .int a1] V (some (xo ad (j_V_find V a1))) (V) := by
  refine FC_intro (by decide) (Nat.le_of_ble_eq_true rfl) ?_
  intro p e s m below meth c ls S hr hlk hK hP hS hl
  have S : CallFix p m c b_V_find 2 s _ TG "PageVault" := S
  have hl : lv_has ls 2 [(0, .ref (ad 0)), (1, .int a1)] := hl
  refine lv_iload_n S.1 S.2.1 d_V_find_0 rfl (lv_at hl 1 rfl) ?_
  refine lv_if_lt (tgt := 22) S.1 S.2.1 d_V_find_1 (by decide) (fun c1 => ?_) (fun c1 => ?_)
  · refine lv_null S.1 S.2.1 d_V_find_22 ?_
    rw [show j_V_find V a1 = none from by rw [j_V_find, if_pos c1]]
    exact x_aretN S hr hlk hP hS d_V_find_23
  · refine lv_iload_n S.1 S.2.1 d_V_find_4 rfl (lv_at hl 1 rfl) ?_
    refine lv_bipush (v := 16) S.1 S.2.1 d_V_find_5 (by decide) ?_
    refine lv_icmp_ge (tgt := 22) S.1 S.2.1 d_V_find_7 (by decide) (fun c7 => ?_) (fun c7 => ?_)
    · refine lv_null S.1 S.2.1 d_V_find_22 ?_
      rw [show j_V_find V a1 = none from by rw [j_V_find, if_neg c1, if_pos c7]]
      exact x_aretN S hr hlk hP hS d_V_find_23
    · refine lv_aload_n S.1 S.2.1 d_V_find_10 rfl (lv_at hl 0 rfl) ?_
      refine x_get_spaces S hK hP tg_50 d_V_find_11 ?_
      refine lv_iload_n S.1 S.2.1 d_V_find_14 rfl (lv_at hl 1 rfl) ?_
      refine x_ald_spaces S hK hP (vin_c (B := 16) (by decide) (by decide) c1 c7) d_V_find_15 ?_
      refine x_callVi (As := []) (rest := []) S hK ci_V_131 (c_S_isOpen l D ad n cI cS cQ hE V a1.toNatClampNeg (vin_lt (vin_c (B := 16) (by decide) (by decide) c1 c7))) (x_recS hK hP (vin_lt (vin_c (B := 16) (by decide) (by decide) c1 c7))) hP hS ⟨rfl, rfl, Nat.le_of_ble_eq_true rfl, Nat.le_of_ble_eq_true rfl⟩ rfl hl.1 rfl (Nat.le_of_ble_eq_true rfl) d_V_find_16 (fun H locs hP hS => ?_)
      refine lv_if_ne (tgt := 24) S.1 S.2.1 d_V_find_19 (by decide) (fun c19 => ?_) (fun c19 => ?_)
      · refine lv_aload_n S.1 S.2.1 d_V_find_24 rfl (lv_at hl 0 rfl) ?_
        refine x_get_spaces S hK hP tg_50 d_V_find_25 ?_
        refine lv_iload_n S.1 S.2.1 d_V_find_28 rfl (lv_at hl 1 rfl) ?_
        refine x_ald_spaces S hK hP (vin_c (B := 16) (by decide) (by decide) c1 c7) d_V_find_29 ?_
        rw [show j_V_find V a1 = some a1.toNatClampNeg from by rw [j_V_find, if_neg c1, if_neg c7, if_neg c19]]
        exact x_aretS S hr hlk hP hS d_V_find_30
      · refine lv_null S.1 S.2.1 d_V_find_22 ?_
        rw [show j_V_find V a1 = none from by rw [j_V_find, if_neg c1, if_neg c7, if_pos c19]]
        exact x_aretN S hr hlk hP hS d_V_find_23
/-- PageVault$Frames.isFrame(I)Z -/
def j_F_isFrame (n : Nat) (a1 : Int32) : Int32 :=
  if a1 < 0 then
    0
  else
    if (nI n) ≤ a1 then
      0
    else
      1
theorem isFrame_in {ad : Nat → Nat} {n : Nat} (hE : xE ad n) {x : Int32} (h : ¬ j_F_isFrame n x = 0) : vp_in x n := by
  unfold j_F_isFrame at h
  by_cases c1 : x < 0
  · rw [if_pos c1] at h
    exact absurd rfl h
  · rw [if_neg c1] at h
    by_cases c2 : nI n ≤ x
    · rw [if_pos c2] at h
      exact absurd rfl h
    · exact vin_c rfl hE.n c1 c2
set_option maxHeartbeats 4000000 in
set_option maxRecDepth 100000 in
theorem c_F_isFrame (hE : xE ad n) (V : VS) (a1 : Int32) : XC l D ad n cI cS cQ y_F_isFrame b_F_isFrame 2 (some .boolean) ({ frames := 0, cells := 0, slots := 0, locals := 0 }) [.ref (ad 1), .int a1] V (some (.int (j_F_isFrame n a1))) (V) := by
  refine FC_intro (by decide) (Nat.le_of_ble_eq_true rfl) ?_
  intro p e s m below meth c ls S hr hlk hK hP hS hl
  have S : CallFix p m c b_F_isFrame 2 s _ TG "PageVault$Frames" := S
  have hl : lv_has ls 2 [(0, .ref (ad 1)), (1, .int a1)] := hl
  refine lv_iload_n S.1 S.2.1 d_F_isFrame_0 rfl (lv_at hl 1 rfl) ?_
  refine lv_if_lt (tgt := 17) S.1 S.2.1 d_F_isFrame_1 (by decide) (fun c1 => ?_) (fun c1 => ?_)
  · refine lv_iconst (v := 0) S.1 S.2.1 d_F_isFrame_17 (by decide) ?_
    rw [show j_F_isFrame n a1 = 0 from by rw [j_F_isFrame, if_pos c1]]
    exact x_zret (v := 0) S hr hlk rfl hP hS d_F_isFrame_18
  · refine lv_iload_n S.1 S.2.1 d_F_isFrame_4 rfl (lv_at hl 1 rfl) ?_
    refine lv_aload_n S.1 S.2.1 d_F_isFrame_5 rfl (lv_at hl 0 rfl) ?_
    refine x_get_holders S hK hP tg_45 d_F_isFrame_6 ?_
    refine x_len_holders S hK hP d_F_isFrame_9 ?_
    refine lv_icmp_ge (tgt := 17) S.1 S.2.1 d_F_isFrame_10 (by decide) (fun c10 => ?_) (fun c10 => ?_)
    · refine lv_iconst (v := 0) S.1 S.2.1 d_F_isFrame_17 (by decide) ?_
      rw [show j_F_isFrame n a1 = 0 from by rw [j_F_isFrame, if_neg c1, if_pos c10]]
      exact x_zret (v := 0) S hr hlk rfl hP hS d_F_isFrame_18
    · refine lv_iconst (v := 1) S.1 S.2.1 d_F_isFrame_13 (by decide) ?_
      refine lv_goto (tgt := 18) S.1 S.2.1 d_F_isFrame_14 (by decide) ?_
      rw [show j_F_isFrame n a1 = 1 from by rw [j_F_isFrame, if_neg c1, if_neg c10]]
      exact x_zret (v := 1) S hr hlk rfl hP hS d_F_isFrame_18
/-- PageVault$Frames.release(I)V -/
def j_F_release (n : Nat) (V : VS) (a1 : Int32) : VS :=
  if (j_F_isFrame n a1) = 0 then
    V
  else
    if (v_hold V a1.toNatClampNeg) ≤ 0 then
      V
    else
      if (v_hold (s_hold V a1.toNatClampNeg ((v_hold V a1.toNatClampNeg) - 1)) a1.toNatClampNeg) = 0 then
        s_spare (s_hold V a1.toNatClampNeg ((v_hold V a1.toNatClampNeg) - 1)) ((v_spare (s_hold V a1.toNatClampNeg ((v_hold V a1.toNatClampNeg) - 1))) + 1)
      else
        s_hold V a1.toNatClampNeg ((v_hold V a1.toNatClampNeg) - 1)
set_option maxHeartbeats 4000000 in
set_option maxRecDepth 100000 in
theorem c_F_release (hE : xE ad n) (V : VS) (a1 : Int32) : XC l D ad n cI cS cQ y_F_release b_F_release 2 none ({ frames := 1, cells := 0, slots := 0, locals := 21 }) [.ref (ad 1), .int a1] V none (j_F_release n V a1) := by
  refine FC_intro (by decide) (Nat.le_of_ble_eq_true rfl) ?_
  intro p e s m below meth c ls S hr hlk hK hP hS hl
  have S : CallFix p m c b_F_release 2 s _ TG "PageVault$Frames" := S
  have hl : lv_has ls 2 [(0, .ref (ad 1)), (1, .int a1)] := hl
  refine lv_aload_n S.1 S.2.1 d_F_release_0 rfl (lv_at hl 0 rfl) ?_
  refine lv_iload_n S.1 S.2.1 d_F_release_1 rfl (lv_at hl 1 rfl) ?_
  refine x_callVi (As := [.int a1]) (rest := []) S hK ci_F_30 (c_F_isFrame l D ad n cI cS cQ hE V a1) (x_recF hK hP) hP hS ⟨rfl, rfl, Nat.le_of_ble_eq_true rfl, Nat.le_of_ble_eq_true rfl⟩ rfl hl.1 rfl (Nat.le_of_ble_eq_true rfl) d_F_release_2 (fun H locs hP hS => ?_)
  refine lv_if_eq (tgt := 46) S.1 S.2.1 d_F_release_5 (by decide) (fun c5 => ?_) (fun c5 => ?_)
  · rw [show j_F_release n V a1 = V from by rw [j_F_release, if_pos c5]]
    exact x_vret S hr hlk hP hS d_F_release_46
  · refine lv_aload_n S.1 S.2.1 d_F_release_8 rfl (lv_at hl 0 rfl) ?_
    refine x_get_holders S hK hP tg_45 d_F_release_9 ?_
    refine lv_iload_n S.1 S.2.1 d_F_release_12 rfl (lv_at hl 1 rfl) ?_
    refine x_ald_holders S hK hP (isFrame_in hE c5) d_F_release_13 ?_
    refine lv_if_le (tgt := 46) S.1 S.2.1 d_F_release_14 (by decide) (fun c14 => ?_) (fun c14 => ?_)
    · rw [show j_F_release n V a1 = V from by rw [j_F_release, if_neg c5, if_pos c14]]
      exact x_vret S hr hlk hP hS d_F_release_46
    · refine lv_aload_n S.1 S.2.1 d_F_release_17 rfl (lv_at hl 0 rfl) ?_
      refine x_get_holders S hK hP tg_45 d_F_release_18 ?_
      refine lv_iload_n S.1 S.2.1 d_F_release_21 rfl (lv_at hl 1 rfl) ?_
      refine lv_dup2_11 S.1 S.2.1 d_F_release_22 rfl rfl ?_
      refine x_ald_holders S hK hP (isFrame_in hE c5) d_F_release_23 ?_
      refine lv_iconst (v := 1) S.1 S.2.1 d_F_release_24 (by decide) ?_
      refine lv_isub S.1 S.2.1 d_F_release_25 ?_
      refine x_ast_holders S hE hK hP hS (isFrame_in hE c5) d_F_release_26 (fun H locs hP hS => ?_)
      refine lv_aload_n S.1 S.2.1 d_F_release_27 rfl (lv_at hl 0 rfl) ?_
      refine x_get_holders S hK hP tg_45 d_F_release_28 ?_
      refine lv_iload_n S.1 S.2.1 d_F_release_31 rfl (lv_at hl 1 rfl) ?_
      refine x_ald_holders S hK hP (isFrame_in hE c5) d_F_release_32 ?_
      refine lv_if_ne (tgt := 46) S.1 S.2.1 d_F_release_33 (by decide) (fun c33 => ?_) (fun c33 => ?_)
      · rw [show j_F_release n V a1 = s_hold V a1.toNatClampNeg ((v_hold V a1.toNatClampNeg) - 1) from by rw [j_F_release, if_neg c5, if_neg c14, if_neg c33]]
        exact x_vret S hr hlk hP hS d_F_release_46
      · refine lv_aload_n S.1 S.2.1 d_F_release_36 rfl (lv_at hl 0 rfl) ?_
        refine lv_dup S.1 S.2.1 d_F_release_37 rfl ?_
        refine x_get_spare S hK hP tg_46 d_F_release_38 ?_
        refine lv_iconst (v := 1) S.1 S.2.1 d_F_release_41 (by decide) ?_
        refine lv_iadd S.1 S.2.1 d_F_release_42 ?_
        refine x_put_spare S hE hK hP hS tg_46 d_F_release_43 (fun H locs hP hS => ?_)
        rw [show j_F_release n V a1 = s_spare (s_hold V a1.toNatClampNeg ((v_hold V a1.toNatClampNeg) - 1)) ((v_spare (s_hold V a1.toNatClampNeg ((v_hold V a1.toNatClampNeg) - 1))) + 1) from by rw [j_F_release, if_neg c5, if_neg c14, if_pos c33]]
        exact x_vret S hr hlk hP hS d_F_release_46
/-- PageVault$Frames.word(II)I -/
def j_F_word (n : Nat) (V : VS) (a1 : Int32) (a2 : Int32) : Int32 :=
  if a1 < 0 then
    0
  else
    if (nI n) ≤ a1 then
      0
    else
      if a2 < 0 then
        0
      else
        if 1024 ≤ a2 then
          0
        else
          v_words V a1.toNatClampNeg a2.toNatClampNeg
set_option maxHeartbeats 4000000 in
set_option maxRecDepth 100000 in
theorem c_F_word (hE : xE ad n) (V : VS) (a1 : Int32) (a2 : Int32) : XC l D ad n cI cS cQ y_F_word b_F_word 3 (some .int) ({ frames := 0, cells := 0, slots := 0, locals := 0 }) [.ref (ad 1), .int a1, .int a2] V (some (.int (j_F_word n V a1 a2))) (V) := by
  refine FC_intro (by decide) (Nat.le_of_ble_eq_true rfl) ?_
  intro p e s m below meth c ls S hr hlk hK hP hS hl
  have S : CallFix p m c b_F_word 3 s _ TG "PageVault$Frames" := S
  have hl : lv_has ls 3 [(0, .ref (ad 1)), (1, .int a1), (2, .int a2)] := hl
  refine lv_iload_n S.1 S.2.1 d_F_word_0 rfl (lv_at hl 1 rfl) ?_
  refine lv_if_lt (tgt := 35) S.1 S.2.1 d_F_word_1 (by decide) (fun c1 => ?_) (fun c1 => ?_)
  · refine lv_iconst (v := 0) S.1 S.2.1 d_F_word_35 (by decide) ?_
    rw [show j_F_word n V a1 a2 = 0 from by rw [j_F_word, if_pos c1]]
    exact x_iret S hr hlk hP hS d_F_word_36
  · refine lv_iload_n S.1 S.2.1 d_F_word_4 rfl (lv_at hl 1 rfl) ?_
    refine lv_aload_n S.1 S.2.1 d_F_word_5 rfl (lv_at hl 0 rfl) ?_
    refine x_get_words S hK hP tg_44 d_F_word_6 ?_
    refine x_len_words S hK hP d_F_word_9 ?_
    refine lv_icmp_ge (tgt := 35) S.1 S.2.1 d_F_word_10 (by decide) (fun c10 => ?_) (fun c10 => ?_)
    · refine lv_iconst (v := 0) S.1 S.2.1 d_F_word_35 (by decide) ?_
      rw [show j_F_word n V a1 a2 = 0 from by rw [j_F_word, if_neg c1, if_pos c10]]
      exact x_iret S hr hlk hP hS d_F_word_36
    · refine lv_iload_n S.1 S.2.1 d_F_word_13 rfl (lv_at hl 2 rfl) ?_
      refine lv_if_lt (tgt := 35) S.1 S.2.1 d_F_word_14 (by decide) (fun c14 => ?_) (fun c14 => ?_)
      · refine lv_iconst (v := 0) S.1 S.2.1 d_F_word_35 (by decide) ?_
        rw [show j_F_word n V a1 a2 = 0 from by rw [j_F_word, if_neg c1, if_neg c10, if_pos c14]]
        exact x_iret S hr hlk hP hS d_F_word_36
      · refine lv_iload_n S.1 S.2.1 d_F_word_17 rfl (lv_at hl 2 rfl) ?_
        refine lv_sipush (v := 1024) S.1 S.2.1 d_F_word_18 (by decide) ?_
        refine lv_icmp_ge (tgt := 35) S.1 S.2.1 d_F_word_21 (by decide) (fun c21 => ?_) (fun c21 => ?_)
        · refine lv_iconst (v := 0) S.1 S.2.1 d_F_word_35 (by decide) ?_
          rw [show j_F_word n V a1 a2 = 0 from by rw [j_F_word, if_neg c1, if_neg c10, if_neg c14, if_pos c21]]
          exact x_iret S hr hlk hP hS d_F_word_36
        · refine lv_aload_n S.1 S.2.1 d_F_word_24 rfl (lv_at hl 0 rfl) ?_
          refine x_get_words S hK hP tg_44 d_F_word_25 ?_
          refine lv_iload_n S.1 S.2.1 d_F_word_28 rfl (lv_at hl 1 rfl) ?_
          refine x_ald_words S hK hP (vin_c rfl hE.n c1 c10) d_F_word_29 ?_
          refine lv_iload_n S.1 S.2.1 d_F_word_30 rfl (lv_at hl 2 rfl) ?_
          refine x_ald_row S hK hP (vin_lt (vin_c rfl hE.n c1 c10)) (vin_c (B := 1024) (by decide) (by decide) c14 c21) d_F_word_31 ?_
          refine lv_goto (tgt := 36) S.1 S.2.1 d_F_word_32 (by decide) ?_
          rw [show j_F_word n V a1 a2 = v_words V a1.toNatClampNeg a2.toNatClampNeg from by rw [j_F_word, if_neg c1, if_neg c10, if_neg c14, if_neg c21]]
          exact x_iret S hr hlk hP hS d_F_word_36
/-- PageVault.frameOf(I)I -/
def j_V_frameOf (a0 : Int32) : Int32 :=
  (ju a0 4) - 1
set_option maxHeartbeats 4000000 in
set_option maxRecDepth 100000 in
theorem c_V_frameOf (hE : xE ad n) (V : VS) (a0 : Int32) : XC l D ad n cI cS cQ y_V_frameOf b_V_frameOf 1 (some .int) ({ frames := 0, cells := 0, slots := 0, locals := 0 }) [.int a0] V (some (.int (j_V_frameOf a0))) (V) := by
  refine FC_intro (by decide) (Nat.le_of_ble_eq_true rfl) ?_
  intro p e s m below meth c ls S hr hlk hK hP hS hl
  have S : CallFix p m c b_V_frameOf 1 s _ TG "PageVault" := S
  have hl : lv_has ls 1 [(0, .int a0)] := hl
  refine lv_iload_n S.1 S.2.1 d_V_frameOf_0 rfl (lv_at hl 0 rfl) ?_
  refine lv_iconst (v := 4) S.1 S.2.1 d_V_frameOf_1 (by decide) ?_
  refine lv_iushr (v := ju a0 4) S.1 S.2.1 d_V_frameOf_2 rfl ?_
  refine lv_iconst (v := 1) S.1 S.2.1 d_V_frameOf_3 (by decide) ?_
  refine lv_isub S.1 S.2.1 d_V_frameOf_4 ?_
  rw [show j_V_frameOf a0 = (ju a0 4) - 1 from by rw [j_V_frameOf]]
  exact x_iret S hr hlk hP hS d_V_frameOf_5
/-- PageVault$Space.tableOf(I)I -/
def j_S_tableOf (n : Nat) (V : VS) (k : Nat) (a1 : Int32) : Int32 :=
  j_V_frameOf (j_F_word n V (v_root V k) a1)
set_option maxHeartbeats 4000000 in
set_option maxRecDepth 100000 in
theorem c_S_tableOf (hE : xE ad n) (V : VS) (k : Nat) (hk : k < 16) (a1 : Int32) : XC l D ad n cI cS cQ y_S_tableOf b_S_tableOf 2 (some .int) ({ frames := 1, cells := 0, slots := 0, locals := 22 }) [.ref (ad (6 + k)), .int a1] V (some (.int (j_S_tableOf n V k a1))) (V) := by
  refine FC_intro (by decide) (Nat.le_of_ble_eq_true rfl) ?_
  intro p e s m below meth c ls S hr hlk hK hP hS hl
  have S : CallFix p m c b_S_tableOf 2 s _ TG "PageVault$Space" := S
  have hl : lv_has ls 2 [(0, .ref (ad (6 + k))), (1, .int a1)] := hl
  refine lv_aload_n S.1 S.2.1 d_S_tableOf_0 rfl (lv_at hl 0 rfl) ?_
  refine x_get_sframes S hK hP hk tg_47 d_S_tableOf_1 ?_
  refine lv_aload_n S.1 S.2.1 d_S_tableOf_4 rfl (lv_at hl 0 rfl) ?_
  refine x_get_root S hK hP hk tg_48 d_S_tableOf_5 ?_
  refine lv_iload_n S.1 S.2.1 d_S_tableOf_8 rfl (lv_at hl 1 rfl) ?_
  refine x_callVi (As := [.int (v_root V k), .int a1]) (rest := []) S hK ci_S_59 (c_F_word l D ad n cI cS cQ hE V (v_root V k) a1) (x_recF hK hP) hP hS ⟨rfl, rfl, Nat.le_of_ble_eq_true rfl, Nat.le_of_ble_eq_true rfl⟩ rfl hl.1 rfl (Nat.le_of_ble_eq_true rfl) d_S_tableOf_9 (fun H locs hP hS => ?_)
  refine x_callNi (As := [.int (j_F_word n V (v_root V k) a1)]) (rest := []) S hK ci_S_78 (hK.2 _ nl_0) (c_V_frameOf l D ad n cI cS cQ hE V (j_F_word n V (v_root V k) a1)) hP hS ⟨rfl, rfl, Nat.le_of_ble_eq_true rfl, Nat.le_of_ble_eq_true rfl⟩ rfl hl.1 rfl (Nat.le_of_ble_eq_true rfl) d_S_tableOf_12 (fun H locs hP hS => ?_)
  rw [show j_S_tableOf n V k a1 = j_V_frameOf (j_F_word n V (v_root V k) a1) from by rw [j_S_tableOf]]
  exact x_iret S hr hlk hP hS d_S_tableOf_15
def j_S_close_h7 (n : Nat) : Nat → VS → Nat → Int32 → VS
  | 0, V, _, _ => V
  | f + 1, V, k, x1 =>
      if 256 ≤ x1 then
        s_root (j_F_release n V (v_root V k)) k (-1)
      else
        j_S_close_h7 n f (j_F_release n V (j_S_tableOf n V k x1)) k (x1 + 1)
set_option maxHeartbeats 4000000 in
set_option maxRecDepth 100000 in
theorem w_S_close_h7 (hE : xE ad n) {p : Program} {e : Env} {s : State} {m : MethodId} {args : Array Value} {below : List Frame} {meth : Method} {c : Code} (S : CallFix p m c b_S_close 2 s args TG "PageVault$Space") (hr : meth.sig.returnType = none) (hlk : meth.locks = false) (hK : xK D cI cS cQ s) :
    ∀ (f i : Nat) (k : Nat) (hk : k < 16) (x1 : Int32) (V : VS) (H : Heap) (locs : List Loc) (ls : Array Slot), x1 = nI i → i < 2 ^ 31 → 256 - i < f → XP D ad n cI cS cQ V H → va_S (iA ad (xN n)) s.heap H locs → lv_has ls 2 [(0, .ref (ad (6 + k))), (1, .int x1)] → W p l e ({ frames := 3, cells := 0, slots := 0, locals := 69 }) s m args below meth c H locs 0 0 (MQ below (gPost D ad (xN n) none (xc ad n cI cS cQ (j_S_close_h7 n f V k x1))) args s 0 0 (iA ad (xN n))) (F0 m 7 ls []) := by
  intro f
  induction f with
  | zero =>
    intro i k hk x1 V H locs ls ek hi hf hP hS hl
    exact absurd hf (Nat.not_lt_zero _)
  | succ f ih =>
    intro i k hk x1 V H locs ls ek hi hf hP hS hl
    refine lv_iload_n S.1 S.2.1 d_S_close_7 rfl (lv_at hl 1 rfl) ?_
    refine lv_sipush (v := 256) S.1 S.2.1 d_S_close_8 (by decide) ?_
    refine lv_icmp_ge (tgt := 32) S.1 S.2.1 d_S_close_11 (by decide) (fun c11 => ?_) (fun c11 => ?_)
    · refine lv_aload_n S.1 S.2.1 d_S_close_32 rfl (lv_at hl 0 rfl) ?_
      refine x_get_sframes S hK hP hk tg_47 d_S_close_33 ?_
      refine lv_aload_n S.1 S.2.1 d_S_close_36 rfl (lv_at hl 0 rfl) ?_
      refine x_get_root S hK hP hk tg_48 d_S_close_37 ?_
      refine x_callVv (As := [.int (v_root V k)]) (rest := []) S hK ci_S_36 (c_F_release l D ad n cI cS cQ hE V (v_root V k)) (x_recF hK hP) hP hS ⟨rfl, rfl, Nat.le_of_ble_eq_true rfl, Nat.le_of_ble_eq_true rfl⟩ rfl hl.1 rfl (Nat.le_of_ble_eq_true rfl) d_S_close_40 (fun H locs hP hS => ?_)
      refine lv_aload_n S.1 S.2.1 d_S_close_43 rfl (lv_at hl 0 rfl) ?_
      refine lv_iconst (v := (-1)) S.1 S.2.1 d_S_close_44 (by decide) ?_
      refine x_put_root S hE hK hP hS hk tg_48 d_S_close_45 (fun H locs hP hS => ?_)
      rw [show j_S_close_h7 n (f + 1) V k x1 = s_root (j_F_release n V (v_root V k)) k (-1) from by rw [j_S_close_h7, if_pos c11]]
      exact x_vret S hr hlk hP hS d_S_close_48
    · refine lv_aload_n S.1 S.2.1 d_S_close_14 rfl (lv_at hl 0 rfl) ?_
      refine x_get_sframes S hK hP hk tg_47 d_S_close_15 ?_
      refine lv_aload_n S.1 S.2.1 d_S_close_18 rfl (lv_at hl 0 rfl) ?_
      refine lv_iload_n S.1 S.2.1 d_S_close_19 rfl (lv_at hl 1 rfl) ?_
      refine x_callVi (As := [.int x1]) (rest := [.ref (ad 1)]) S hK ci_S_32 (c_S_tableOf l D ad n cI cS cQ hE V k hk x1) (x_recS hK hP hk) hP hS ⟨rfl, rfl, Nat.le_of_ble_eq_true rfl, Nat.le_of_ble_eq_true rfl⟩ rfl hl.1 rfl (Nat.le_of_ble_eq_true rfl) d_S_close_20 (fun H locs hP hS => ?_)
      refine x_callVv (As := [.int (j_S_tableOf n V k x1)]) (rest := []) S hK ci_S_36 (c_F_release l D ad n cI cS cQ hE V (j_S_tableOf n V k x1)) (x_recF hK hP) hP hS ⟨rfl, rfl, Nat.le_of_ble_eq_true rfl, Nat.le_of_ble_eq_true rfl⟩ rfl hl.1 rfl (Nat.le_of_ble_eq_true rfl) d_S_close_23 (fun H locs hP hS => ?_)
      refine lv_iinc (v := x1 + 1) (lv' := [(1, .int (x1 + 1)), (0, .ref (ad (6 + k)))]) S.1 S.2.1 d_S_close_26 hl (k := 1) rfl rfl (by decide) rfl (fun ls hl => ?_)
      refine lv_goto (tgt := 7) S.1 S.2.1 d_S_close_29 (by decide) ?_
      have hn9 := hE.2
      have hB := lp_lt (B := 256) (by decide) (by decide) ek hi c11
      rw [show j_S_close_h7 n (f + 1) V k x1 = j_S_close_h7 n f (j_F_release n V (j_S_tableOf n V k x1)) k (x1 + 1) from by rw [j_S_close_h7, if_neg c11]]
      exact ih (i + 1) k hk (x1 + 1) (j_F_release n V (j_S_tableOf n V k x1)) _ _ _ (by rw [ek]; exact nI_1 i) (by omega) (by omega) hP hS (lv_sub hl [1, 0] rfl)
/-- PageVault$Frames.setWord(III)V -/
def j_F_setWord (n : Nat) (V : VS) (a1 : Int32) (a2 : Int32) (a3 : Int32) : VS :=
  if a1 < 0 then
    V
  else
    if (nI n) ≤ a1 then
      V
    else
      if a2 < 0 then
        V
      else
        if 1024 ≤ a2 then
          V
        else
          s_word V a1.toNatClampNeg a2.toNatClampNeg a3
set_option maxHeartbeats 4000000 in
set_option maxRecDepth 100000 in
theorem c_F_setWord (hE : xE ad n) (V : VS) (a1 : Int32) (a2 : Int32) (a3 : Int32) : XC l D ad n cI cS cQ y_F_setWord b_F_setWord 4 none ({ frames := 0, cells := 0, slots := 0, locals := 0 }) [.ref (ad 1), .int a1, .int a2, .int a3] V none (j_F_setWord n V a1 a2 a3) := by
  refine FC_intro (by decide) (Nat.le_of_ble_eq_true rfl) ?_
  intro p e s m below meth c ls S hr hlk hK hP hS hl
  have S : CallFix p m c b_F_setWord 4 s _ TG "PageVault$Frames" := S
  have hl : lv_has ls 4 [(0, .ref (ad 1)), (1, .int a1), (2, .int a2), (3, .int a3)] := hl
  refine lv_iload_n S.1 S.2.1 d_F_setWord_0 rfl (lv_at hl 1 rfl) ?_
  refine lv_if_lt (tgt := 33) S.1 S.2.1 d_F_setWord_1 (by decide) (fun c1 => ?_) (fun c1 => ?_)
  · rw [show j_F_setWord n V a1 a2 a3 = V from by rw [j_F_setWord, if_pos c1]]
    exact x_vret S hr hlk hP hS d_F_setWord_33
  · refine lv_iload_n S.1 S.2.1 d_F_setWord_4 rfl (lv_at hl 1 rfl) ?_
    refine lv_aload_n S.1 S.2.1 d_F_setWord_5 rfl (lv_at hl 0 rfl) ?_
    refine x_get_words S hK hP tg_44 d_F_setWord_6 ?_
    refine x_len_words S hK hP d_F_setWord_9 ?_
    refine lv_icmp_ge (tgt := 33) S.1 S.2.1 d_F_setWord_10 (by decide) (fun c10 => ?_) (fun c10 => ?_)
    · rw [show j_F_setWord n V a1 a2 a3 = V from by rw [j_F_setWord, if_neg c1, if_pos c10]]
      exact x_vret S hr hlk hP hS d_F_setWord_33
    · refine lv_iload_n S.1 S.2.1 d_F_setWord_13 rfl (lv_at hl 2 rfl) ?_
      refine lv_if_lt (tgt := 33) S.1 S.2.1 d_F_setWord_14 (by decide) (fun c14 => ?_) (fun c14 => ?_)
      · rw [show j_F_setWord n V a1 a2 a3 = V from by rw [j_F_setWord, if_neg c1, if_neg c10, if_pos c14]]
        exact x_vret S hr hlk hP hS d_F_setWord_33
      · refine lv_iload_n S.1 S.2.1 d_F_setWord_17 rfl (lv_at hl 2 rfl) ?_
        refine lv_sipush (v := 1024) S.1 S.2.1 d_F_setWord_18 (by decide) ?_
        refine lv_icmp_ge (tgt := 33) S.1 S.2.1 d_F_setWord_21 (by decide) (fun c21 => ?_) (fun c21 => ?_)
        · rw [show j_F_setWord n V a1 a2 a3 = V from by rw [j_F_setWord, if_neg c1, if_neg c10, if_neg c14, if_pos c21]]
          exact x_vret S hr hlk hP hS d_F_setWord_33
        · refine lv_aload_n S.1 S.2.1 d_F_setWord_24 rfl (lv_at hl 0 rfl) ?_
          refine x_get_words S hK hP tg_44 d_F_setWord_25 ?_
          refine lv_iload_n S.1 S.2.1 d_F_setWord_28 rfl (lv_at hl 1 rfl) ?_
          refine x_ald_words S hK hP (vin_c rfl hE.n c1 c10) d_F_setWord_29 ?_
          refine lv_iload_n S.1 S.2.1 d_F_setWord_30 rfl (lv_at hl 2 rfl) ?_
          refine lv_iload_n S.1 S.2.1 d_F_setWord_31 rfl (lv_at hl 3 rfl) ?_
          refine x_ast_row S hE hK hP hS (vin_lt (vin_c rfl hE.n c1 c10)) (vin_c (B := 1024) (by decide) (by decide) c14 c21) d_F_setWord_32 (fun H locs hP hS => ?_)
          rw [show j_F_setWord n V a1 a2 a3 = s_word V a1.toNatClampNeg a2.toNatClampNeg a3 from by rw [j_F_setWord, if_neg c1, if_neg c10, if_neg c14, if_neg c21]]
          exact x_vret S hr hlk hP hS d_F_setWord_33
def j_S_removePagesFrom_h42 (n : Nat) : Nat → VS → Nat → Int32 → Int32 → Int32 → Int32 → Int32 → VS
  | 0, V, _, _, _, _, _, _ => V
  | f + 1, V, k, a1, x2, x3, x4, x6 =>
      if x4 = (-1) then
        V
      else
        if 1024 ≤ x6 then
          V
        else
          j_S_removePagesFrom_h42 n f (j_F_setWord n (j_F_release n V (j_V_frameOf (j_F_word n V x4 x6))) x4 x6 0) k a1 x2 x3 x4 (x6 + 1)
set_option maxHeartbeats 4000000 in
set_option maxRecDepth 100000 in
theorem w_S_removePagesFrom_h42 (hE : xE ad n) {p : Program} {e : Env} {s : State} {m : MethodId} {args : Array Value} {below : List Frame} {meth : Method} {c : Code} {Q : State → Prop} (S : CallFix p m c b_S_removePagesFrom 7 s args TG "PageVault$Space") (hK : xK D cI cS cQ s) :
    ∀ (f i : Nat) (k : Nat) (hk : k < 16) (a1 x2 x3 x4 x6 : Int32) (V : VS) (H : Heap) (locs : List Loc) (ls : Array Slot), x6 = nI i → i < 2 ^ 31 → 1024 - i < f → XP D ad n cI cS cQ V H → va_S (iA ad (xN n)) s.heap H locs → lv_has ls 7 [(0, .ref (ad (6 + k))), (1, .int a1), (2, .int x2), (3, .int x3), (4, .int x4), (6, .int x6)] → (∀ (H1 : Heap) (locs1 : List Loc) (ls1 : Array Slot), XP D ad n cI cS cQ (j_S_removePagesFrom_h42 n f V k a1 x2 x3 x4 x6) H1 → va_S (iA ad (xN n)) s.heap H1 locs1 → lv_has ls1 7 [(0, .ref (ad (6 + k))), (1, .int a1), (2, .int x2), (3, .int x3)] → W p l e ({ frames := 2, cells := 0, slots := 0, locals := 43 }) s m args below meth c H1 locs1 0 0 Q (F0 m 95 ls1 [])) → W p l e ({ frames := 2, cells := 0, slots := 0, locals := 43 }) s m args below meth c H locs 0 0 Q (F0 m 42 ls []) := by
  intro f
  induction f with
  | zero =>
    intro i k hk a1 x2 x3 x4 x6 V H locs ls ek hi hf hP hS hl kx
    exact absurd hf (Nat.not_lt_zero _)
  | succ f ih =>
    intro i k hk a1 x2 x3 x4 x6 V H locs ls ek hi hf hP hS hl kx
    refine lv_iload S.1 S.2.1 d_S_removePagesFrom_42 (lv_at hl 4 rfl) ?_
    refine lv_iconst (v := (-1)) S.1 S.2.1 d_S_removePagesFrom_44 (by decide) ?_
    refine lv_icmp_eq (tgt := 95) S.1 S.2.1 d_S_removePagesFrom_45 (by decide) (fun c45 => ?_) (fun c45 => ?_)
    · exact kx H locs ls (by rw [show j_S_removePagesFrom_h42 n (f + 1) V k a1 x2 x3 x4 x6 = V from by rw [j_S_removePagesFrom_h42, if_pos c45]]; exact hP) hS (lv_sub hl [0, 1, 2, 3] rfl)
    · refine lv_iload S.1 S.2.1 d_S_removePagesFrom_48 (lv_at hl 5 rfl) ?_
      refine lv_sipush (v := 1024) S.1 S.2.1 d_S_removePagesFrom_50 (by decide) ?_
      refine lv_icmp_ge (tgt := 95) S.1 S.2.1 d_S_removePagesFrom_53 (by decide) (fun c53 => ?_) (fun c53 => ?_)
      · exact kx H locs ls (by rw [show j_S_removePagesFrom_h42 n (f + 1) V k a1 x2 x3 x4 x6 = V from by rw [j_S_removePagesFrom_h42, if_neg c45, if_pos c53]]; exact hP) hS (lv_sub hl [0, 1, 2, 3] rfl)
      · refine lv_aload_n S.1 S.2.1 d_S_removePagesFrom_56 rfl (lv_at hl 0 rfl) ?_
        refine x_get_sframes S hK hP hk tg_47 d_S_removePagesFrom_57 ?_
        refine lv_aload_n S.1 S.2.1 d_S_removePagesFrom_60 rfl (lv_at hl 0 rfl) ?_
        refine x_get_sframes S hK hP hk tg_47 d_S_removePagesFrom_61 ?_
        refine lv_iload S.1 S.2.1 d_S_removePagesFrom_64 (lv_at hl 4 rfl) ?_
        refine lv_iload S.1 S.2.1 d_S_removePagesFrom_66 (lv_at hl 5 rfl) ?_
        refine x_callVi (As := [.int x4, .int x6]) (rest := [.ref (ad 1)]) S hK ci_S_59 (c_F_word l D ad n cI cS cQ hE V x4 x6) (x_recF hK hP) hP hS ⟨rfl, rfl, Nat.le_of_ble_eq_true rfl, Nat.le_of_ble_eq_true rfl⟩ rfl hl.1 rfl (Nat.le_of_ble_eq_true rfl) d_S_removePagesFrom_68 (fun H locs hP hS => ?_)
        refine x_callNi (As := [.int (j_F_word n V x4 x6)]) (rest := [.ref (ad 1)]) S hK ci_S_78 (hK.2 _ nl_0) (c_V_frameOf l D ad n cI cS cQ hE V (j_F_word n V x4 x6)) hP hS ⟨rfl, rfl, Nat.le_of_ble_eq_true rfl, Nat.le_of_ble_eq_true rfl⟩ rfl hl.1 rfl (Nat.le_of_ble_eq_true rfl) d_S_removePagesFrom_71 (fun H locs hP hS => ?_)
        refine x_callVv (As := [.int (j_V_frameOf (j_F_word n V x4 x6))]) (rest := []) S hK ci_S_36 (c_F_release l D ad n cI cS cQ hE V (j_V_frameOf (j_F_word n V x4 x6))) (x_recF hK hP) hP hS ⟨rfl, rfl, Nat.le_of_ble_eq_true rfl, Nat.le_of_ble_eq_true rfl⟩ rfl hl.1 rfl (Nat.le_of_ble_eq_true rfl) d_S_removePagesFrom_74 (fun H locs hP hS => ?_)
        refine lv_aload_n S.1 S.2.1 d_S_removePagesFrom_77 rfl (lv_at hl 0 rfl) ?_
        refine x_get_sframes S hK hP hk tg_47 d_S_removePagesFrom_78 ?_
        refine lv_iload S.1 S.2.1 d_S_removePagesFrom_81 (lv_at hl 4 rfl) ?_
        refine lv_iload S.1 S.2.1 d_S_removePagesFrom_83 (lv_at hl 5 rfl) ?_
        refine lv_iconst (v := 0) S.1 S.2.1 d_S_removePagesFrom_85 (by decide) ?_
        refine x_callVv (As := [.int x4, .int x6, .int 0]) (rest := []) S hK ci_S_62 (c_F_setWord l D ad n cI cS cQ hE (j_F_release n V (j_V_frameOf (j_F_word n V x4 x6))) x4 x6 0) (x_recF hK hP) hP hS ⟨rfl, rfl, Nat.le_of_ble_eq_true rfl, Nat.le_of_ble_eq_true rfl⟩ rfl hl.1 rfl (Nat.le_of_ble_eq_true rfl) d_S_removePagesFrom_86 (fun H locs hP hS => ?_)
        refine lv_iinc (v := x6 + 1) (lv' := [(6, .int (x6 + 1)), (0, .ref (ad (6 + k))), (1, .int a1), (2, .int x2), (3, .int x3), (4, .int x4)]) S.1 S.2.1 d_S_removePagesFrom_89 hl (k := 5) rfl rfl (by decide) rfl (fun ls hl => ?_)
        refine lv_goto (tgt := 42) S.1 S.2.1 d_S_removePagesFrom_92 (by decide) ?_
        have hn9 := hE.2
        have hB := lp_lt (B := 1024) (by decide) (by decide) ek hi c53
        refine ih (i + 1) k hk a1 x2 x3 x4 (x6 + 1) (j_F_setWord n (j_F_release n V (j_V_frameOf (j_F_word n V x4 x6))) x4 x6 0) _ _ _ (by rw [ek]; exact nI_1 i) (by omega) (by omega) hP hS (lv_sub hl [1, 2, 3, 4, 5, 0] rfl) (fun H1 locs1 ls1 q1 q2 q3 => kx H1 locs1 ls1 (by rw [show j_S_removePagesFrom_h42 n (f + 1) V k a1 x2 x3 x4 x6 = j_S_removePagesFrom_h42 n f (j_F_setWord n (j_F_release n V (j_V_frameOf (j_F_word n V x4 x6))) x4 x6 0) k a1 x2 x3 x4 (x6 + 1) from by rw [j_S_removePagesFrom_h42, if_neg c45, if_neg c53]]; exact q1) q2 q3)
end XW
