section XW
variable (l : Launch) (D : va_G) (ad : Nat → Nat) (n : Nat) (cI cS cQ : ClassId)
def j_S_removePagesFrom_h8 (n : Nat) : Nat → VS → Nat → Int32 → Int32 → Int32 → VS
  | 0, V, _, _, _, _ => V
  | f + 1, V, k, a1, x2, x3 =>
      if 256 ≤ x3 then
        V
      else
        if x3 = x2 then
          j_S_removePagesFrom_h8 n f (j_S_removePagesFrom_h42 n 1025 V k a1 x2 x3 (j_S_tableOf n V k x3) (a1 - a1 / 1024 * 1024)) k a1 x2 (x3 + 1)
        else
          j_S_removePagesFrom_h8 n f (j_S_removePagesFrom_h42 n 1025 V k a1 x2 x3 (j_S_tableOf n V k x3) 0) k a1 x2 (x3 + 1)
set_option maxHeartbeats 4000000 in
set_option maxRecDepth 100000 in
theorem w_S_removePagesFrom_h8 (hE : xE ad n) (qq : Nat) (hqq : qq < 2 ^ 30) {p : Program} {e : Env} {s : State} {m : MethodId} {args : Array Value} {below : List Frame} {meth : Method} {c : Code} (S : CallFix p m c b_S_removePagesFrom 7 s args TG "PageVault$Space") (hr : meth.sig.returnType = none) (hlk : meth.locks = false) (hK : xK D cI cS cQ s) :
    ∀ (f i : Nat) (k : Nat) (hk : k < 16) (a1 x2 x3 : Int32) (V : VS) (H : Heap) (locs : List Loc) (ls : Array Slot), x3 = nI i → i < 2 ^ 31 → 256 - i < f → a1 = nI qq → XP D ad n cI cS cQ V H → va_S (iA ad (xN n)) s.heap H locs → lv_has ls 7 [(0, .ref (ad (6 + k))), (1, .int a1), (2, .int x2), (3, .int x3)] → W p l e ({ frames := 2, cells := 0, slots := 0, locals := 43 }) s m args below meth c H locs 0 0 (MQ below (gPost D ad (xN n) none (xc ad n cI cS cQ (j_S_removePagesFrom_h8 n f V k a1 x2 x3))) args s 0 0 (iA ad (xN n))) (F0 m 8 ls []) := by
  intro f
  induction f with
  | zero =>
    intro i k hk a1 x2 x3 V H locs ls ek hi hf ha hP hS hl
    exact absurd hf (Nat.not_lt_zero _)
  | succ f ih =>
    intro i k hk a1 x2 x3 V H locs ls ek hi hf ha hP hS hl
    refine lv_iload_n S.1 S.2.1 d_S_removePagesFrom_8 rfl (lv_at hl 3 rfl) ?_
    refine lv_sipush (v := 256) S.1 S.2.1 d_S_removePagesFrom_9 (by decide) ?_
    refine lv_icmp_ge (tgt := 101) S.1 S.2.1 d_S_removePagesFrom_12 (by decide) (fun c12 => ?_) (fun c12 => ?_)
    · rw [show j_S_removePagesFrom_h8 n (f + 1) V k a1 x2 x3 = V from by rw [j_S_removePagesFrom_h8, if_pos c12]]
      exact x_vret S hr hlk hP hS d_S_removePagesFrom_101
    · refine lv_aload_n S.1 S.2.1 d_S_removePagesFrom_15 rfl (lv_at hl 0 rfl) ?_
      refine lv_iload_n S.1 S.2.1 d_S_removePagesFrom_16 rfl (lv_at hl 3 rfl) ?_
      refine x_callVi (As := [.int x3]) (rest := []) S hK ci_S_32 (c_S_tableOf l D ad n cI cS cQ hE V k hk x3) (x_recS hK hP hk) hP hS ⟨rfl, rfl, Nat.le_of_ble_eq_true rfl, Nat.le_of_ble_eq_true rfl⟩ rfl hl.1 rfl (Nat.le_of_ble_eq_true rfl) d_S_removePagesFrom_17 (fun H locs hP hS => ?_)
      refine lv_istore (lv' := [(4, .int (j_S_tableOf n V k x3)), (0, .ref (ad (6 + k))), (1, .int a1), (2, .int x2), (3, .int x3)]) S.1 S.2.1 d_S_removePagesFrom_20 hl (by decide) rfl (fun ls hl => ?_)
      refine lv_iload_n S.1 S.2.1 d_S_removePagesFrom_22 rfl (lv_at hl 4 rfl) ?_
      refine lv_iload_n S.1 S.2.1 d_S_removePagesFrom_23 rfl (lv_at hl 3 rfl) ?_
      refine lv_icmp_ne (tgt := 35) S.1 S.2.1 d_S_removePagesFrom_24 (by decide) (fun c24 => ?_) (fun c24 => ?_)
      · refine lv_iconst (v := 0) S.1 S.2.1 d_S_removePagesFrom_35 (by decide) ?_
        refine lv_istore (lv' := [(5, .int 0), (4, .int (j_S_tableOf n V k x3)), (0, .ref (ad (6 + k))), (1, .int a1), (2, .int x2), (3, .int x3)]) S.1 S.2.1 d_S_removePagesFrom_36 hl (by decide) rfl (fun ls hl => ?_)
        refine lv_iload S.1 S.2.1 d_S_removePagesFrom_38 (lv_at hl 0 rfl) ?_
        refine lv_istore (lv' := [(6, .int 0), (5, .int 0), (4, .int (j_S_tableOf n V k x3)), (0, .ref (ad (6 + k))), (1, .int a1), (2, .int x2), (3, .int x3)]) S.1 S.2.1 d_S_removePagesFrom_40 hl (by decide) rfl (fun ls hl => ?_)
        refine w_S_removePagesFrom_h42 l D ad n cI cS cQ hE S hK 1025 ((0 : Int32).toNatClampNeg) k hk a1 x2 x3 (j_S_tableOf n V k x3) 0 V _ _ _ (by decide) (by decide) (by omega) hP hS (lv_sub hl [3, 4, 5, 6, 2, 0] rfl) (fun H locs ls hP hS hl => ?_)
        refine lv_iinc (v := x3 + 1) (lv' := [(3, .int (x3 + 1)), (0, .ref (ad (6 + k))), (1, .int a1), (2, .int x2)]) S.1 S.2.1 d_S_removePagesFrom_95 hl (k := 3) rfl rfl (by decide) rfl (fun ls hl => ?_)
        refine lv_goto (tgt := 8) S.1 S.2.1 d_S_removePagesFrom_98 (by decide) ?_
        have hn9 := hE.2
        have hB := lp_lt (B := 256) (by decide) (by decide) ek hi c12
        rw [show j_S_removePagesFrom_h8 n (f + 1) V k a1 x2 x3 = j_S_removePagesFrom_h8 n f (j_S_removePagesFrom_h42 n 1025 V k a1 x2 x3 (j_S_tableOf n V k x3) 0) k a1 x2 (x3 + 1) from by rw [j_S_removePagesFrom_h8, if_neg c12, if_neg c24]]
        exact ih (i + 1) k hk a1 x2 (x3 + 1) (j_S_removePagesFrom_h42 n 1025 V k a1 x2 x3 (j_S_tableOf n V k x3) 0) _ _ _ (by rw [ek]; exact nI_1 i) (by omega) (by omega) ha hP hS (lv_sub hl [1, 2, 3, 0] rfl)
      · refine lv_iload_n S.1 S.2.1 d_S_removePagesFrom_27 rfl (lv_at hl 2 rfl) ?_
        refine lv_sipush (v := 1024) S.1 S.2.1 d_S_removePagesFrom_28 (by decide) ?_
        refine lv_irem S.1 S.2.1 d_S_removePagesFrom_31 (by decide) ?_
        refine lv_goto (tgt := 36) S.1 S.2.1 d_S_removePagesFrom_32 (by decide) ?_
        refine lv_istore (lv' := [(5, .int (a1 - a1 / 1024 * 1024)), (4, .int (j_S_tableOf n V k x3)), (0, .ref (ad (6 + k))), (1, .int a1), (2, .int x2), (3, .int x3)]) S.1 S.2.1 d_S_removePagesFrom_36 hl (by decide) rfl (fun ls hl => ?_)
        refine lv_iload S.1 S.2.1 d_S_removePagesFrom_38 (lv_at hl 0 rfl) ?_
        refine lv_istore (lv' := [(6, .int (a1 - a1 / 1024 * 1024)), (5, .int (a1 - a1 / 1024 * 1024)), (4, .int (j_S_tableOf n V k x3)), (0, .ref (ad (6 + k))), (1, .int a1), (2, .int x2), (3, .int x3)]) S.1 S.2.1 d_S_removePagesFrom_40 hl (by decide) rfl (fun ls hl => ?_)
        refine w_S_removePagesFrom_h42 l D ad n cI cS cQ hE S hK 1025 (((a1 - a1 / 1024 * 1024) : Int32).toNatClampNeg) k hk a1 x2 x3 (j_S_tableOf n V k x3) (a1 - a1 / 1024 * 1024) V _ _ _ (rem_ek hqq ha) (rem_hi hqq ha) (by omega) hP hS (lv_sub hl [3, 4, 5, 6, 2, 0] rfl) (fun H locs ls hP hS hl => ?_)
        refine lv_iinc (v := x3 + 1) (lv' := [(3, .int (x3 + 1)), (0, .ref (ad (6 + k))), (1, .int a1), (2, .int x2)]) S.1 S.2.1 d_S_removePagesFrom_95 hl (k := 3) rfl rfl (by decide) rfl (fun ls hl => ?_)
        refine lv_goto (tgt := 8) S.1 S.2.1 d_S_removePagesFrom_98 (by decide) ?_
        have hn9 := hE.2
        have hB := lp_lt (B := 256) (by decide) (by decide) ek hi c12
        rw [show j_S_removePagesFrom_h8 n (f + 1) V k a1 x2 x3 = j_S_removePagesFrom_h8 n f (j_S_removePagesFrom_h42 n 1025 V k a1 x2 x3 (j_S_tableOf n V k x3) (a1 - a1 / 1024 * 1024)) k a1 x2 (x3 + 1) from by rw [j_S_removePagesFrom_h8, if_neg c12, if_pos c24]]
        exact ih (i + 1) k hk a1 x2 (x3 + 1) (j_S_removePagesFrom_h42 n 1025 V k a1 x2 x3 (j_S_tableOf n V k x3) (a1 - a1 / 1024 * 1024)) _ _ _ (by rw [ek]; exact nI_1 i) (by omega) (by omega) ha hP hS (lv_sub hl [1, 2, 3, 0] rfl)
/-- PageVault$Space.removePagesFrom(I)V -/
def j_S_removePagesFrom (n : Nat) (V : VS) (k : Nat) (a1 : Int32) : VS :=
  j_S_removePagesFrom_h8 n 257 V k a1 (a1 / 1024) (a1 / 1024)
set_option maxHeartbeats 4000000 in
set_option maxRecDepth 100000 in
theorem c_S_removePagesFrom (hE : xE ad n) (V : VS) (k : Nat) (hk : k < 16) (a1 : Int32) (qq : Nat) (hqq : qq < 2 ^ 30) (ha : a1 = nI qq) : XC l D ad n cI cS cQ y_S_removePagesFrom b_S_removePagesFrom 7 none ({ frames := 2, cells := 0, slots := 0, locals := 43 }) [.ref (ad (6 + k)), .int a1] V none (j_S_removePagesFrom n V k a1) := by
  refine FC_intro (by decide) (Nat.le_of_ble_eq_true rfl) ?_
  intro p e s m below meth c ls S hr hlk hK hP hS hl
  have S : CallFix p m c b_S_removePagesFrom 7 s _ TG "PageVault$Space" := S
  have hl : lv_has ls 7 [(0, .ref (ad (6 + k))), (1, .int a1)] := hl
  refine lv_iload_n S.1 S.2.1 d_S_removePagesFrom_0 rfl (lv_at hl 1 rfl) ?_
  refine lv_sipush (v := 1024) S.1 S.2.1 d_S_removePagesFrom_1 (by decide) ?_
  refine lv_idiv S.1 S.2.1 d_S_removePagesFrom_4 (by decide) ?_
  refine lv_istore_n (lv' := [(2, .int (a1 / 1024)), (0, .ref (ad (6 + k))), (1, .int a1)]) S.1 S.2.1 d_S_removePagesFrom_5 rfl hl (by decide) rfl (fun ls hl => ?_)
  refine lv_iload_n S.1 S.2.1 d_S_removePagesFrom_6 rfl (lv_at hl 0 rfl) ?_
  refine lv_istore_n (lv' := [(3, .int (a1 / 1024)), (2, .int (a1 / 1024)), (0, .ref (ad (6 + k))), (1, .int a1)]) S.1 S.2.1 d_S_removePagesFrom_7 rfl hl (by decide) rfl (fun ls hl => ?_)
  rw [show j_S_removePagesFrom n V k a1 = j_S_removePagesFrom_h8 n 257 V k a1 (a1 / 1024) (a1 / 1024) from by rw [j_S_removePagesFrom]]
  exact w_S_removePagesFrom_h8 l D ad n cI cS cQ hE qq hqq S hr hlk hK 257 (qq / 1024) k hk a1 (a1 / 1024) (a1 / 1024) V _ _ _ (div_ek hqq ha) (by omega) (by omega) ha hP hS (lv_sub hl [2, 3, 1, 0] rfl)
/-- PageVault$Space.close()V -/
def j_S_close (n : Nat) (V : VS) (k : Nat) : VS :=
  j_S_close_h7 n 257 (j_S_removePagesFrom n V k 0) k 0
set_option maxHeartbeats 4000000 in
set_option maxRecDepth 100000 in
theorem c_S_close (hE : xE ad n) (V : VS) (k : Nat) (hk : k < 16) : XC l D ad n cI cS cQ y_S_close b_S_close 2 none ({ frames := 3, cells := 0, slots := 0, locals := 69 }) [.ref (ad (6 + k))] V none (j_S_close n V k) := by
  refine FC_intro (by decide) (Nat.le_of_ble_eq_true rfl) ?_
  intro p e s m below meth c ls S hr hlk hK hP hS hl
  have S : CallFix p m c b_S_close 2 s _ TG "PageVault$Space" := S
  have hl : lv_has ls 2 [(0, .ref (ad (6 + k)))] := hl
  refine lv_aload_n S.1 S.2.1 d_S_close_0 rfl (lv_at hl 0 rfl) ?_
  refine lv_iconst (v := 0) S.1 S.2.1 d_S_close_1 (by decide) ?_
  refine x_callVv (As := [.int 0]) (rest := []) S hK ci_S_28 (c_S_removePagesFrom l D ad n cI cS cQ hE V k hk 0 0 (by decide) nI_0.symm) (x_recS hK hP hk) hP hS ⟨rfl, rfl, Nat.le_of_ble_eq_true rfl, Nat.le_of_ble_eq_true rfl⟩ rfl hl.1 rfl (Nat.le_of_ble_eq_true rfl) d_S_close_2 (fun H locs hP hS => ?_)
  refine lv_iconst (v := 0) S.1 S.2.1 d_S_close_5 (by decide) ?_
  refine lv_istore_n (lv' := [(1, .int 0), (0, .ref (ad (6 + k)))]) S.1 S.2.1 d_S_close_6 rfl hl (by decide) rfl (fun ls hl => ?_)
  rw [show j_S_close n V k = j_S_close_h7 n 257 (j_S_removePagesFrom n V k 0) k 0 from by rw [j_S_close]]
  exact w_S_close_h7 l D ad n cI cS cQ hE S hr hlk hK 257 0 k hk 0 (j_S_removePagesFrom n V k 0) _ _ _ nI_0.symm (by decide) (by decide) hP hS (lv_sub hl [1, 0] rfl)
/-- PageVault.drop(I)Z -/
def j_V_drop (n : Nat) (V : VS) (a1 : Int32) : Int32 × VS :=
  oc (j_V_find V a1) (
    (0, V)) (fun k1 =>
    (1, j_S_close n V k1))
set_option maxHeartbeats 4000000 in
set_option maxRecDepth 100000 in
theorem c_V_drop (hE : xE ad n) (V : VS) (a1 : Int32) : XC l D ad n cI cS cQ y_V_drop b_V_drop 3 (some .boolean) ({ frames := 4, cells := 0, slots := 0, locals := 90 }) [.ref (ad 0), .int a1] V (some (.int (j_V_drop n V a1).1)) ((j_V_drop n V a1).2) := by
  refine FC_intro (by decide) (Nat.le_of_ble_eq_true rfl) ?_
  intro p e s m below meth c ls S hr hlk hK hP hS hl
  have S : CallFix p m c b_V_drop 3 s _ TG "PageVault" := S
  have hl : lv_has ls 3 [(0, .ref (ad 0)), (1, .int a1)] := hl
  refine lv_aload_n S.1 S.2.1 d_V_drop_0 rfl (lv_at hl 0 rfl) ?_
  refine lv_iload_n S.1 S.2.1 d_V_drop_1 rfl (lv_at hl 1 rfl) ?_
  refine x_callVq (As := [.int a1]) (rest := []) S hK ci_V_50 (c_V_find l D ad n cI cS cQ hE V a1) (x_recV hK hP) hP hS ⟨rfl, rfl, Nat.le_of_ble_eq_true rfl, Nat.le_of_ble_eq_true rfl⟩ rfl hl.1 rfl (Nat.le_of_ble_eq_true rfl) d_V_drop_2 (fun hk1 H locs hP hS => ?_) (fun k1 hk1 H locs hP hS => ?_)
  · refine lv_astore_nN (lv' := [(2, .null), (0, .ref (ad 0)), (1, .int a1)]) S.1 S.2.1 d_V_drop_5 rfl hl (by decide) rfl (fun ls hl => ?_)
    refine lv_aload_nN S.1 S.2.1 d_V_drop_6 rfl (lv_at hl 0 rfl) ?_
    refine lv_ifnonnullN S.1 S.2.1 d_V_drop_7 ?_
    refine lv_iconst (v := 0) S.1 S.2.1 d_V_drop_10 (by decide) ?_
    rw [show j_V_drop n V a1 = (0, V) from by rw [j_V_drop, oc_none hk1]]
    exact x_zret (v := 0) S hr hlk rfl hP hS d_V_drop_11
  · refine lv_astore_n (lv' := [(2, .ref (ad (6 + k1))), (0, .ref (ad 0)), (1, .int a1)]) S.1 S.2.1 d_V_drop_5 rfl hl (by decide) rfl (fun ls hl => ?_)
    refine lv_aload_n S.1 S.2.1 d_V_drop_6 rfl (lv_at hl 0 rfl) ?_
    refine lv_ifnonnull (tgt := 12) S.1 S.2.1 d_V_drop_7 (by decide) ?_
    refine lv_aload_n S.1 S.2.1 d_V_drop_12 rfl (lv_at hl 0 rfl) ?_
    refine x_callVv (As := []) (rest := []) S hK ci_V_54 (c_S_close l D ad n cI cS cQ hE V k1 (find_lt hk1)) (x_recS hK hP (find_lt hk1)) hP hS ⟨rfl, rfl, Nat.le_of_ble_eq_true rfl, Nat.le_of_ble_eq_true rfl⟩ rfl hl.1 rfl (Nat.le_of_ble_eq_true rfl) d_V_drop_13 (fun H locs hP hS => ?_)
    refine lv_iconst (v := 1) S.1 S.2.1 d_V_drop_16 (by decide) ?_
    rw [show j_V_drop n V a1 = (1, j_S_close n V k1) from by rw [j_V_drop, oc_some hk1]]
    exact x_zret (v := 1) S hr hlk rfl hP hS d_V_drop_17
def j_S_hasPageIn_h8 (n : Nat) : Nat → VS → Nat → Int32 → Int32 → Int32
  | 0, V, _, _, _ => 0
  | f + 1, V, k, x2, x3 =>
      if x2 = (-1) then
        0
      else
        if 1024 ≤ x3 then
          0
        else
          if (j_F_word n V x2 x3) = 0 then
            j_S_hasPageIn_h8 n f V k x2 (x3 + 1)
          else
            1
set_option maxHeartbeats 4000000 in
set_option maxRecDepth 100000 in
theorem w_S_hasPageIn_h8 (hE : xE ad n) {p : Program} {e : Env} {s : State} {m : MethodId} {args : Array Value} {below : List Frame} {meth : Method} {c : Code} (S : CallFix p m c b_S_hasPageIn 4 s args TG "PageVault$Space") (hr : meth.sig.returnType = some .boolean) (hlk : meth.locks = false) (hK : xK D cI cS cQ s) :
    ∀ (f i : Nat) (k : Nat) (hk : k < 16) (x2 x3 : Int32) (V : VS) (H : Heap) (locs : List Loc) (ls : Array Slot), x3 = nI i → i < 2 ^ 31 → 1024 - i < f → XP D ad n cI cS cQ V H → va_S (iA ad (xN n)) s.heap H locs → lv_has ls 4 [(0, .ref (ad (6 + k))), (2, .int x2), (3, .int x3)] → W p l e ({ frames := 2, cells := 0, slots := 0, locals := 43 }) s m args below meth c H locs 0 0 (MQ below (gPost D ad (xN n) (some (.int (j_S_hasPageIn_h8 n f V k x2 x3))) (xc ad n cI cS cQ (V))) args s 0 0 (iA ad (xN n))) (F0 m 8 ls []) := by
  intro f
  induction f with
  | zero =>
    intro i k hk x2 x3 V H locs ls ek hi hf hP hS hl
    exact absurd hf (Nat.not_lt_zero _)
  | succ f ih =>
    intro i k hk x2 x3 V H locs ls ek hi hf hP hS hl
    refine lv_iload_n S.1 S.2.1 d_S_hasPageIn_8 rfl (lv_at hl 1 rfl) ?_
    refine lv_iconst (v := (-1)) S.1 S.2.1 d_S_hasPageIn_9 (by decide) ?_
    refine lv_icmp_eq (tgt := 40) S.1 S.2.1 d_S_hasPageIn_10 (by decide) (fun c10 => ?_) (fun c10 => ?_)
    · refine lv_iconst (v := 0) S.1 S.2.1 d_S_hasPageIn_40 (by decide) ?_
      rw [show j_S_hasPageIn_h8 n (f + 1) V k x2 x3 = 0 from by rw [j_S_hasPageIn_h8, if_pos c10]]
      exact x_zret (v := 0) S hr hlk rfl hP hS d_S_hasPageIn_41
    · refine lv_iload_n S.1 S.2.1 d_S_hasPageIn_13 rfl (lv_at hl 2 rfl) ?_
      refine lv_sipush (v := 1024) S.1 S.2.1 d_S_hasPageIn_14 (by decide) ?_
      refine lv_icmp_ge (tgt := 40) S.1 S.2.1 d_S_hasPageIn_17 (by decide) (fun c17 => ?_) (fun c17 => ?_)
      · refine lv_iconst (v := 0) S.1 S.2.1 d_S_hasPageIn_40 (by decide) ?_
        rw [show j_S_hasPageIn_h8 n (f + 1) V k x2 x3 = 0 from by rw [j_S_hasPageIn_h8, if_neg c10, if_pos c17]]
        exact x_zret (v := 0) S hr hlk rfl hP hS d_S_hasPageIn_41
      · refine lv_aload_n S.1 S.2.1 d_S_hasPageIn_20 rfl (lv_at hl 0 rfl) ?_
        refine x_get_sframes S hK hP hk tg_47 d_S_hasPageIn_21 ?_
        refine lv_iload_n S.1 S.2.1 d_S_hasPageIn_24 rfl (lv_at hl 1 rfl) ?_
        refine lv_iload_n S.1 S.2.1 d_S_hasPageIn_25 rfl (lv_at hl 2 rfl) ?_
        refine x_callVi (As := [.int x2, .int x3]) (rest := []) S hK ci_S_59 (c_F_word l D ad n cI cS cQ hE V x2 x3) (x_recF hK hP) hP hS ⟨rfl, rfl, Nat.le_of_ble_eq_true rfl, Nat.le_of_ble_eq_true rfl⟩ rfl hl.1 rfl (Nat.le_of_ble_eq_true rfl) d_S_hasPageIn_26 (fun H locs hP hS => ?_)
        refine lv_if_eq (tgt := 34) S.1 S.2.1 d_S_hasPageIn_29 (by decide) (fun c29 => ?_) (fun c29 => ?_)
        · refine lv_iinc (v := x3 + 1) (lv' := [(3, .int (x3 + 1)), (0, .ref (ad (6 + k))), (2, .int x2)]) S.1 S.2.1 d_S_hasPageIn_34 hl (k := 2) rfl rfl (by decide) rfl (fun ls hl => ?_)
          refine lv_goto (tgt := 8) S.1 S.2.1 d_S_hasPageIn_37 (by decide) ?_
          have hn9 := hE.2
          have hB := lp_lt (B := 1024) (by decide) (by decide) ek hi c17
          rw [show j_S_hasPageIn_h8 n (f + 1) V k x2 x3 = j_S_hasPageIn_h8 n f V k x2 (x3 + 1) from by rw [j_S_hasPageIn_h8, if_neg c10, if_neg c17, if_pos c29]]
          exact ih (i + 1) k hk x2 (x3 + 1) V _ _ _ (by rw [ek]; exact nI_1 i) (by omega) (by omega) hP hS (lv_sub hl [1, 2, 0] rfl)
        · refine lv_iconst (v := 1) S.1 S.2.1 d_S_hasPageIn_32 (by decide) ?_
          rw [show j_S_hasPageIn_h8 n (f + 1) V k x2 x3 = 1 from by rw [j_S_hasPageIn_h8, if_neg c10, if_neg c17, if_neg c29]]
          exact x_zret (v := 1) S hr hlk rfl hP hS d_S_hasPageIn_33
/-- PageVault$Space.hasPageIn(I)Z -/
def j_S_hasPageIn (n : Nat) (V : VS) (k : Nat) (a1 : Int32) : Int32 :=
  j_S_hasPageIn_h8 n 1025 V k (j_S_tableOf n V k a1) 0
set_option maxHeartbeats 4000000 in
set_option maxRecDepth 100000 in
theorem c_S_hasPageIn (hE : xE ad n) (V : VS) (k : Nat) (hk : k < 16) (a1 : Int32) : XC l D ad n cI cS cQ y_S_hasPageIn b_S_hasPageIn 4 (some .boolean) ({ frames := 2, cells := 0, slots := 0, locals := 43 }) [.ref (ad (6 + k)), .int a1] V (some (.int (j_S_hasPageIn n V k a1))) (V) := by
  refine FC_intro (by decide) (Nat.le_of_ble_eq_true rfl) ?_
  intro p e s m below meth c ls S hr hlk hK hP hS hl
  have S : CallFix p m c b_S_hasPageIn 4 s _ TG "PageVault$Space" := S
  have hl : lv_has ls 4 [(0, .ref (ad (6 + k))), (1, .int a1)] := hl
  refine lv_aload_n S.1 S.2.1 d_S_hasPageIn_0 rfl (lv_at hl 0 rfl) ?_
  refine lv_iload_n S.1 S.2.1 d_S_hasPageIn_1 rfl (lv_at hl 1 rfl) ?_
  refine x_callVi (As := [.int a1]) (rest := []) S hK ci_S_32 (c_S_tableOf l D ad n cI cS cQ hE V k hk a1) (x_recS hK hP hk) hP hS ⟨rfl, rfl, Nat.le_of_ble_eq_true rfl, Nat.le_of_ble_eq_true rfl⟩ rfl hl.1 rfl (Nat.le_of_ble_eq_true rfl) d_S_hasPageIn_2 (fun H locs hP hS => ?_)
  refine lv_istore_n (lv' := [(2, .int (j_S_tableOf n V k a1)), (0, .ref (ad (6 + k))), (1, .int a1)]) S.1 S.2.1 d_S_hasPageIn_5 rfl hl (by decide) rfl (fun ls hl => ?_)
  refine lv_iconst (v := 0) S.1 S.2.1 d_S_hasPageIn_6 (by decide) ?_
  refine lv_istore_n (lv' := [(3, .int 0), (2, .int (j_S_tableOf n V k a1)), (0, .ref (ad (6 + k))), (1, .int a1)]) S.1 S.2.1 d_S_hasPageIn_7 rfl hl (by decide) rfl (fun ls hl => ?_)
  rw [show j_S_hasPageIn n V k a1 = j_S_hasPageIn_h8 n 1025 V k (j_S_tableOf n V k a1) 0 from by rw [j_S_hasPageIn]]
  exact w_S_hasPageIn_h8 l D ad n cI cS cQ hE S hr hlk hK 1025 0 k hk (j_S_tableOf n V k a1) 0 V _ _ _ nI_0.symm (by decide) (by decide) hP hS (lv_sub hl [2, 1, 0] rfl)
def j_S_framesOfCopy_h4 (n : Nat) : Nat → VS → Nat → Int32 → Int32 → Int32
  | 0, V, _, _, _ => 0
  | f + 1, V, k, x1, x2 =>
      if 256 ≤ x2 then
        x1
      else
        if (j_S_hasPageIn n V k x2) = 0 then
          j_S_framesOfCopy_h4 n f V k x1 (x2 + 1)
        else
          j_S_framesOfCopy_h4 n f V k (x1 + 1) (x2 + 1)
set_option maxHeartbeats 4000000 in
set_option maxRecDepth 100000 in
theorem w_S_framesOfCopy_h4 (hE : xE ad n) {p : Program} {e : Env} {s : State} {m : MethodId} {args : Array Value} {below : List Frame} {meth : Method} {c : Code} (S : CallFix p m c b_S_framesOfCopy 3 s args TG "PageVault$Space") (hr : meth.sig.returnType = some .int) (hlk : meth.locks = false) (hK : xK D cI cS cQ s) :
    ∀ (f i : Nat) (k : Nat) (hk : k < 16) (x1 x2 : Int32) (V : VS) (H : Heap) (locs : List Loc) (ls : Array Slot), x2 = nI i → i < 2 ^ 31 → 256 - i < f → XP D ad n cI cS cQ V H → va_S (iA ad (xN n)) s.heap H locs → lv_has ls 3 [(0, .ref (ad (6 + k))), (1, .int x1), (2, .int x2)] → W p l e ({ frames := 3, cells := 0, slots := 0, locals := 66 }) s m args below meth c H locs 0 0 (MQ below (gPost D ad (xN n) (some (.int (j_S_framesOfCopy_h4 n f V k x1 x2))) (xc ad n cI cS cQ (V))) args s 0 0 (iA ad (xN n))) (F0 m 4 ls []) := by
  intro f
  induction f with
  | zero =>
    intro i k hk x1 x2 V H locs ls ek hi hf hP hS hl
    exact absurd hf (Nat.not_lt_zero _)
  | succ f ih =>
    intro i k hk x1 x2 V H locs ls ek hi hf hP hS hl
    refine lv_iload_n S.1 S.2.1 d_S_framesOfCopy_4 rfl (lv_at hl 2 rfl) ?_
    refine lv_sipush (v := 256) S.1 S.2.1 d_S_framesOfCopy_5 (by decide) ?_
    refine lv_icmp_ge (tgt := 28) S.1 S.2.1 d_S_framesOfCopy_8 (by decide) (fun c8 => ?_) (fun c8 => ?_)
    · refine lv_iload_n S.1 S.2.1 d_S_framesOfCopy_28 rfl (lv_at hl 1 rfl) ?_
      rw [show j_S_framesOfCopy_h4 n (f + 1) V k x1 x2 = x1 from by rw [j_S_framesOfCopy_h4, if_pos c8]]
      exact x_iret S hr hlk hP hS d_S_framesOfCopy_29
    · refine lv_aload_n S.1 S.2.1 d_S_framesOfCopy_11 rfl (lv_at hl 0 rfl) ?_
      refine lv_iload_n S.1 S.2.1 d_S_framesOfCopy_12 rfl (lv_at hl 2 rfl) ?_
      refine x_callVi (As := [.int x2]) (rest := []) S hK ci_S_42 (c_S_hasPageIn l D ad n cI cS cQ hE V k hk x2) (x_recS hK hP hk) hP hS ⟨rfl, rfl, Nat.le_of_ble_eq_true rfl, Nat.le_of_ble_eq_true rfl⟩ rfl hl.1 rfl (Nat.le_of_ble_eq_true rfl) d_S_framesOfCopy_13 (fun H locs hP hS => ?_)
      refine lv_if_eq (tgt := 22) S.1 S.2.1 d_S_framesOfCopy_16 (by decide) (fun c16 => ?_) (fun c16 => ?_)
      · refine lv_iinc (v := x2 + 1) (lv' := [(2, .int (x2 + 1)), (0, .ref (ad (6 + k))), (1, .int x1)]) S.1 S.2.1 d_S_framesOfCopy_22 hl (k := 2) rfl rfl (by decide) rfl (fun ls hl => ?_)
        refine lv_goto (tgt := 4) S.1 S.2.1 d_S_framesOfCopy_25 (by decide) ?_
        have hn9 := hE.2
        have hB := lp_lt (B := 256) (by decide) (by decide) ek hi c8
        rw [show j_S_framesOfCopy_h4 n (f + 1) V k x1 x2 = j_S_framesOfCopy_h4 n f V k x1 (x2 + 1) from by rw [j_S_framesOfCopy_h4, if_neg c8, if_pos c16]]
        exact ih (i + 1) k hk x1 (x2 + 1) V _ _ _ (by rw [ek]; exact nI_1 i) (by omega) (by omega) hP hS (lv_sub hl [1, 2, 0] rfl)
      · refine lv_iinc (v := x1 + 1) (lv' := [(1, .int (x1 + 1)), (0, .ref (ad (6 + k))), (2, .int x2)]) S.1 S.2.1 d_S_framesOfCopy_19 hl (k := 1) rfl rfl (by decide) rfl (fun ls hl => ?_)
        refine lv_iinc (v := x2 + 1) (lv' := [(2, .int (x2 + 1)), (1, .int (x1 + 1)), (0, .ref (ad (6 + k)))]) S.1 S.2.1 d_S_framesOfCopy_22 hl (k := 2) rfl rfl (by decide) rfl (fun ls hl => ?_)
        refine lv_goto (tgt := 4) S.1 S.2.1 d_S_framesOfCopy_25 (by decide) ?_
        have hn9 := hE.2
        have hB := lp_lt (B := 256) (by decide) (by decide) ek hi c8
        rw [show j_S_framesOfCopy_h4 n (f + 1) V k x1 x2 = j_S_framesOfCopy_h4 n f V k (x1 + 1) (x2 + 1) from by rw [j_S_framesOfCopy_h4, if_neg c8, if_neg c16]]
        exact ih (i + 1) k hk (x1 + 1) (x2 + 1) V _ _ _ (by rw [ek]; exact nI_1 i) (by omega) (by omega) hP hS (lv_sub hl [2, 1, 0] rfl)
/-- PageVault$Space.framesOfCopy()I -/
def j_S_framesOfCopy (n : Nat) (V : VS) (k : Nat) : Int32 :=
  j_S_framesOfCopy_h4 n 257 V k 1 0
set_option maxHeartbeats 4000000 in
set_option maxRecDepth 100000 in
theorem c_S_framesOfCopy (hE : xE ad n) (V : VS) (k : Nat) (hk : k < 16) : XC l D ad n cI cS cQ y_S_framesOfCopy b_S_framesOfCopy 3 (some .int) ({ frames := 3, cells := 0, slots := 0, locals := 66 }) [.ref (ad (6 + k))] V (some (.int (j_S_framesOfCopy n V k))) (V) := by
  refine FC_intro (by decide) (Nat.le_of_ble_eq_true rfl) ?_
  intro p e s m below meth c ls S hr hlk hK hP hS hl
  have S : CallFix p m c b_S_framesOfCopy 3 s _ TG "PageVault$Space" := S
  have hl : lv_has ls 3 [(0, .ref (ad (6 + k)))] := hl
  refine lv_iconst (v := 1) S.1 S.2.1 d_S_framesOfCopy_0 (by decide) ?_
  refine lv_istore_n (lv' := [(1, .int 1), (0, .ref (ad (6 + k)))]) S.1 S.2.1 d_S_framesOfCopy_1 rfl hl (by decide) rfl (fun ls hl => ?_)
  refine lv_iconst (v := 0) S.1 S.2.1 d_S_framesOfCopy_2 (by decide) ?_
  refine lv_istore_n (lv' := [(2, .int 0), (1, .int 1), (0, .ref (ad (6 + k)))]) S.1 S.2.1 d_S_framesOfCopy_3 rfl hl (by decide) rfl (fun ls hl => ?_)
  rw [show j_S_framesOfCopy n V k = j_S_framesOfCopy_h4 n 257 V k 1 0 from by rw [j_S_framesOfCopy]]
  exact w_S_framesOfCopy_h4 l D ad n cI cS cQ hE S hr hlk hK 257 0 k hk 1 0 V _ _ _ nI_0.symm (by decide) (by decide) hP hS (lv_sub hl [2, 1, 0] rfl)
/-- PageVault$Frames.hold(I)V -/
def j_F_hold (n : Nat) (V : VS) (a1 : Int32) : VS :=
  if (j_F_isFrame n a1) = 0 then
    V
  else
    s_hold V a1.toNatClampNeg ((v_hold V a1.toNatClampNeg) + 1)
set_option maxHeartbeats 4000000 in
set_option maxRecDepth 100000 in
theorem c_F_hold (hE : xE ad n) (V : VS) (a1 : Int32) : XC l D ad n cI cS cQ y_F_hold b_F_hold 2 none ({ frames := 1, cells := 0, slots := 0, locals := 21 }) [.ref (ad 1), .int a1] V none (j_F_hold n V a1) := by
  refine FC_intro (by decide) (Nat.le_of_ble_eq_true rfl) ?_
  intro p e s m below meth c ls S hr hlk hK hP hS hl
  have S : CallFix p m c b_F_hold 2 s _ TG "PageVault$Frames" := S
  have hl : lv_has ls 2 [(0, .ref (ad 1)), (1, .int a1)] := hl
  refine lv_aload_n S.1 S.2.1 d_F_hold_0 rfl (lv_at hl 0 rfl) ?_
  refine lv_iload_n S.1 S.2.1 d_F_hold_1 rfl (lv_at hl 1 rfl) ?_
  refine x_callVi (As := [.int a1]) (rest := []) S hK ci_F_30 (c_F_isFrame l D ad n cI cS cQ hE V a1) (x_recF hK hP) hP hS ⟨rfl, rfl, Nat.le_of_ble_eq_true rfl, Nat.le_of_ble_eq_true rfl⟩ rfl hl.1 rfl (Nat.le_of_ble_eq_true rfl) d_F_hold_2 (fun H locs hP hS => ?_)
  refine lv_if_eq (tgt := 18) S.1 S.2.1 d_F_hold_5 (by decide) (fun c5 => ?_) (fun c5 => ?_)
  · rw [show j_F_hold n V a1 = V from by rw [j_F_hold, if_pos c5]]
    exact x_vret S hr hlk hP hS d_F_hold_18
  · refine lv_aload_n S.1 S.2.1 d_F_hold_8 rfl (lv_at hl 0 rfl) ?_
    refine x_get_holders S hK hP tg_45 d_F_hold_9 ?_
    refine lv_iload_n S.1 S.2.1 d_F_hold_12 rfl (lv_at hl 1 rfl) ?_
    refine lv_dup2_11 S.1 S.2.1 d_F_hold_13 rfl rfl ?_
    refine x_ald_holders S hK hP (isFrame_in hE c5) d_F_hold_14 ?_
    refine lv_iconst (v := 1) S.1 S.2.1 d_F_hold_15 (by decide) ?_
    refine lv_iadd S.1 S.2.1 d_F_hold_16 ?_
    refine x_ast_holders S hE hK hP hS (isFrame_in hE c5) d_F_hold_17 (fun H locs hP hS => ?_)
    rw [show j_F_hold n V a1 = s_hold V a1.toNatClampNeg ((v_hold V a1.toNatClampNeg) + 1) from by rw [j_F_hold, if_neg c5]]
    exact x_vret S hr hlk hP hS d_F_hold_18
def j_S_shareRegion_h22 (n : Nat) : Nat → VS → Nat → Int32 → Int32 → VS
  | 0, V, _, _, _ => V
  | f + 1, V, k, x3, x4 =>
      if 1024 ≤ x4 then
        V
      else
        j_S_shareRegion_h22 n f (j_F_hold n V (j_V_frameOf (j_F_word n V x3 x4))) k x3 (x4 + 1)
set_option maxHeartbeats 4000000 in
set_option maxRecDepth 100000 in
theorem w_S_shareRegion_h22 (hE : xE ad n) {p : Program} {e : Env} {s : State} {m : MethodId} {args : Array Value} {below : List Frame} {meth : Method} {c : Code} (S : CallFix p m c b_S_shareRegion 5 s args TG "PageVault$Space") (hr : meth.sig.returnType = none) (hlk : meth.locks = false) (hK : xK D cI cS cQ s) :
    ∀ (f i : Nat) (k : Nat) (hk : k < 16) (x3 x4 : Int32) (V : VS) (H : Heap) (locs : List Loc) (ls : Array Slot), x4 = nI i → i < 2 ^ 31 → 1024 - i < f → XP D ad n cI cS cQ V H → va_S (iA ad (xN n)) s.heap H locs → lv_has ls 5 [(0, .ref (ad (6 + k))), (3, .int x3), (4, .int x4)] → W p l e ({ frames := 3, cells := 0, slots := 0, locals := 83 }) s m args below meth c H locs 0 0 (MQ below (gPost D ad (xN n) none (xc ad n cI cS cQ (j_S_shareRegion_h22 n f V k x3 x4))) args s 0 0 (iA ad (xN n))) (F0 m 22 ls []) := by
  intro f
  induction f with
  | zero =>
    intro i k hk x3 x4 V H locs ls ek hi hf hP hS hl
    exact absurd hf (Nat.not_lt_zero _)
  | succ f ih =>
    intro i k hk x3 x4 V H locs ls ek hi hf hP hS hl
    refine lv_iload S.1 S.2.1 d_S_shareRegion_22 (lv_at hl 2 rfl) ?_
    refine lv_sipush (v := 1024) S.1 S.2.1 d_S_shareRegion_24 (by decide) ?_
    refine lv_icmp_ge (tgt := 56) S.1 S.2.1 d_S_shareRegion_27 (by decide) (fun c27 => ?_) (fun c27 => ?_)
    · rw [show j_S_shareRegion_h22 n (f + 1) V k x3 x4 = V from by rw [j_S_shareRegion_h22, if_pos c27]]
      exact x_vret S hr hlk hP hS d_S_shareRegion_56
    · refine lv_aload_n S.1 S.2.1 d_S_shareRegion_30 rfl (lv_at hl 0 rfl) ?_
      refine x_get_sframes S hK hP hk tg_47 d_S_shareRegion_31 ?_
      refine lv_aload_n S.1 S.2.1 d_S_shareRegion_34 rfl (lv_at hl 0 rfl) ?_
      refine x_get_sframes S hK hP hk tg_47 d_S_shareRegion_35 ?_
      refine lv_iload_n S.1 S.2.1 d_S_shareRegion_38 rfl (lv_at hl 1 rfl) ?_
      refine lv_iload S.1 S.2.1 d_S_shareRegion_39 (lv_at hl 2 rfl) ?_
      refine x_callVi (As := [.int x3, .int x4]) (rest := [.ref (ad 1)]) S hK ci_S_59 (c_F_word l D ad n cI cS cQ hE V x3 x4) (x_recF hK hP) hP hS ⟨rfl, rfl, Nat.le_of_ble_eq_true rfl, Nat.le_of_ble_eq_true rfl⟩ rfl hl.1 rfl (Nat.le_of_ble_eq_true rfl) d_S_shareRegion_41 (fun H locs hP hS => ?_)
      refine x_callNi (As := [.int (j_F_word n V x3 x4)]) (rest := [.ref (ad 1)]) S hK ci_S_78 (hK.2 _ nl_0) (c_V_frameOf l D ad n cI cS cQ hE V (j_F_word n V x3 x4)) hP hS ⟨rfl, rfl, Nat.le_of_ble_eq_true rfl, Nat.le_of_ble_eq_true rfl⟩ rfl hl.1 rfl (Nat.le_of_ble_eq_true rfl) d_S_shareRegion_44 (fun H locs hP hS => ?_)
      refine x_callVv (As := [.int (j_V_frameOf (j_F_word n V x3 x4))]) (rest := []) S hK ci_S_91 (c_F_hold l D ad n cI cS cQ hE V (j_V_frameOf (j_F_word n V x3 x4))) (x_recF hK hP) hP hS ⟨rfl, rfl, Nat.le_of_ble_eq_true rfl, Nat.le_of_ble_eq_true rfl⟩ rfl hl.1 rfl (Nat.le_of_ble_eq_true rfl) d_S_shareRegion_47 (fun H locs hP hS => ?_)
      refine lv_iinc (v := x4 + 1) (lv' := [(4, .int (x4 + 1)), (0, .ref (ad (6 + k))), (3, .int x3)]) S.1 S.2.1 d_S_shareRegion_50 hl (k := 2) rfl rfl (by decide) rfl (fun ls hl => ?_)
      refine lv_goto (tgt := 22) S.1 S.2.1 d_S_shareRegion_53 (by decide) ?_
      have hn9 := hE.2
      have hB := lp_lt (B := 1024) (by decide) (by decide) ek hi c27
      rw [show j_S_shareRegion_h22 n (f + 1) V k x3 x4 = j_S_shareRegion_h22 n f (j_F_hold n V (j_V_frameOf (j_F_word n V x3 x4))) k x3 (x4 + 1) from by rw [j_S_shareRegion_h22, if_neg c27]]
      exact ih (i + 1) k hk x3 (x4 + 1) (j_F_hold n V (j_V_frameOf (j_F_word n V x3 x4))) _ _ _ (by rw [ek]; exact nI_1 i) (by omega) (by omega) hP hS (lv_sub hl [1, 2, 0] rfl)
/-- PageVault.entryOf(II)I -/
def j_V_entryOf (a0 : Int32) (a1 : Int32) : Int32 :=
  ((a0 + 1) <<< (4 &&& 31)) ||| a1
set_option maxHeartbeats 4000000 in
set_option maxRecDepth 100000 in
theorem c_V_entryOf (hE : xE ad n) (V : VS) (a0 : Int32) (a1 : Int32) : XC l D ad n cI cS cQ y_V_entryOf b_V_entryOf 2 (some .int) ({ frames := 0, cells := 0, slots := 0, locals := 0 }) [.int a0, .int a1] V (some (.int (j_V_entryOf a0 a1))) (V) := by
  refine FC_intro (by decide) (Nat.le_of_ble_eq_true rfl) ?_
  intro p e s m below meth c ls S hr hlk hK hP hS hl
  have S : CallFix p m c b_V_entryOf 2 s _ TG "PageVault" := S
  have hl : lv_has ls 2 [(0, .int a0), (1, .int a1)] := hl
  refine lv_iload_n S.1 S.2.1 d_V_entryOf_0 rfl (lv_at hl 0 rfl) ?_
  refine lv_iconst (v := 1) S.1 S.2.1 d_V_entryOf_1 (by decide) ?_
  refine lv_iadd S.1 S.2.1 d_V_entryOf_2 ?_
  refine lv_iconst (v := 4) S.1 S.2.1 d_V_entryOf_3 (by decide) ?_
  refine lv_ishl S.1 S.2.1 d_V_entryOf_4 ?_
  refine lv_iload_n S.1 S.2.1 d_V_entryOf_5 rfl (lv_at hl 1 rfl) ?_
  refine lv_ior S.1 S.2.1 d_V_entryOf_6 ?_
  rw [show j_V_entryOf a0 a1 = ((a0 + 1) <<< (4 &&& 31)) ||| a1 from by rw [j_V_entryOf]]
  exact x_iret S hr hlk hP hS d_V_entryOf_7
/-- PageVault$Space.addTable(I)I -/
def j_S_addTable (n : Nat) (V : VS) (k : Nat) (a1 : Int32) : Int32 × VS :=
  ((j_F_take n V).1, j_F_setWord n ((j_F_take n V).2) (v_root ((j_F_take n V).2) k) a1 (j_V_entryOf ((j_F_take n V).1) 0))
set_option maxHeartbeats 4000000 in
set_option maxRecDepth 100000 in
theorem c_S_addTable (hE : xE ad n) (V : VS) (k : Nat) (hk : k < 16) (a1 : Int32) : XC l D ad n cI cS cQ y_S_addTable b_S_addTable 3 (some .int) ({ frames := 2, cells := 0, slots := 0, locals := 61 }) [.ref (ad (6 + k)), .int a1] V (some (.int (j_S_addTable n V k a1).1)) ((j_S_addTable n V k a1).2) := by
  refine FC_intro (by decide) (Nat.le_of_ble_eq_true rfl) ?_
  intro p e s m below meth c ls S hr hlk hK hP hS hl
  have S : CallFix p m c b_S_addTable 3 s _ TG "PageVault$Space" := S
  have hl : lv_has ls 3 [(0, .ref (ad (6 + k))), (1, .int a1)] := hl
  refine lv_aload_n S.1 S.2.1 d_S_addTable_0 rfl (lv_at hl 0 rfl) ?_
  refine x_get_sframes S hK hP hk tg_47 d_S_addTable_1 ?_
  refine x_callVi (As := []) (rest := []) S hK ci_S_22 (c_F_take l D ad n cI cS cQ hE V) (x_recF hK hP) hP hS ⟨rfl, rfl, Nat.le_of_ble_eq_true rfl, Nat.le_of_ble_eq_true rfl⟩ rfl hl.1 rfl (Nat.le_of_ble_eq_true rfl) d_S_addTable_4 (fun H locs hP hS => ?_)
  refine lv_istore_n (lv' := [(2, .int ((j_F_take n V).1)), (0, .ref (ad (6 + k))), (1, .int a1)]) S.1 S.2.1 d_S_addTable_7 rfl hl (by decide) rfl (fun ls hl => ?_)
  refine lv_aload_n S.1 S.2.1 d_S_addTable_8 rfl (lv_at hl 1 rfl) ?_
  refine x_get_sframes S hK hP hk tg_47 d_S_addTable_9 ?_
  refine lv_aload_n S.1 S.2.1 d_S_addTable_12 rfl (lv_at hl 1 rfl) ?_
  refine x_get_root S hK hP hk tg_48 d_S_addTable_13 ?_
  refine lv_iload_n S.1 S.2.1 d_S_addTable_16 rfl (lv_at hl 2 rfl) ?_
  refine lv_iload_n S.1 S.2.1 d_S_addTable_17 rfl (lv_at hl 0 rfl) ?_
  refine lv_iconst (v := 0) S.1 S.2.1 d_S_addTable_18 (by decide) ?_
  refine x_callNi (As := [.int ((j_F_take n V).1), .int 0]) (rest := [.int a1, .int (v_root ((j_F_take n V).2) k), .ref (ad 1)]) S hK ci_S_72 (hK.2 _ nl_1) (c_V_entryOf l D ad n cI cS cQ hE ((j_F_take n V).2) ((j_F_take n V).1) 0) hP hS ⟨rfl, rfl, Nat.le_of_ble_eq_true rfl, Nat.le_of_ble_eq_true rfl⟩ rfl hl.1 rfl (Nat.le_of_ble_eq_true rfl) d_S_addTable_19 (fun H locs hP hS => ?_)
  refine x_callVv (As := [.int (v_root ((j_F_take n V).2) k), .int a1, .int (j_V_entryOf ((j_F_take n V).1) 0)]) (rest := []) S hK ci_S_62 (c_F_setWord l D ad n cI cS cQ hE ((j_F_take n V).2) (v_root ((j_F_take n V).2) k) a1 (j_V_entryOf ((j_F_take n V).1) 0)) (x_recF hK hP) hP hS ⟨rfl, rfl, Nat.le_of_ble_eq_true rfl, Nat.le_of_ble_eq_true rfl⟩ rfl hl.1 rfl (Nat.le_of_ble_eq_true rfl) d_S_addTable_22 (fun H locs hP hS => ?_)
  refine lv_iload_n S.1 S.2.1 d_S_addTable_25 rfl (lv_at hl 0 rfl) ?_
  rw [show j_S_addTable n V k a1 = ((j_F_take n V).1, j_F_setWord n ((j_F_take n V).2) (v_root ((j_F_take n V).2) k) a1 (j_V_entryOf ((j_F_take n V).1) 0)) from by rw [j_S_addTable]]
  exact x_iret S hr hlk hP hS d_S_addTable_26
/-- PageVault$Frames.copyWords(II)V -/
def j_F_copyWords (n : Nat) (V : VS) (a1 : Int32) (a2 : Int32) : VS :=
  if (j_F_isFrame n a1) = 0 then
    V
  else
    if (j_F_isFrame n a2) = 0 then
      V
    else
      s_row V a2.toNatClampNeg (v_words V a1.toNatClampNeg)
set_option maxHeartbeats 4000000 in
set_option maxRecDepth 100000 in
theorem c_F_copyWords (hE : xE ad n) (V : VS) (a1 : Int32) (a2 : Int32) : XC l D ad n cI cS cQ y_F_copyWords b_F_copyWords 3 none ({ frames := 1, cells := 0, slots := 0, locals := 40 }) [.ref (ad 1), .int a1, .int a2] V none (j_F_copyWords n V a1 a2) := by
  refine FC_intro (by decide) (Nat.le_of_ble_eq_true rfl) ?_
  intro p e s m below meth c ls S hr hlk hK hP hS hl
  have S : CallFix p m c b_F_copyWords 3 s _ TG "PageVault$Frames" := S
  have hl : lv_has ls 3 [(0, .ref (ad 1)), (1, .int a1), (2, .int a2)] := hl
  refine lv_aload_n S.1 S.2.1 d_F_copyWords_0 rfl (lv_at hl 0 rfl) ?_
  refine lv_iload_n S.1 S.2.1 d_F_copyWords_1 rfl (lv_at hl 1 rfl) ?_
  refine x_callVi (As := [.int a1]) (rest := []) S hK ci_F_30 (c_F_isFrame l D ad n cI cS cQ hE V a1) (x_recF hK hP) hP hS ⟨rfl, rfl, Nat.le_of_ble_eq_true rfl, Nat.le_of_ble_eq_true rfl⟩ rfl hl.1 rfl (Nat.le_of_ble_eq_true rfl) d_F_copyWords_2 (fun H locs hP hS => ?_)
  refine lv_if_eq (tgt := 36) S.1 S.2.1 d_F_copyWords_5 (by decide) (fun c5 => ?_) (fun c5 => ?_)
  · rw [show j_F_copyWords n V a1 a2 = V from by rw [j_F_copyWords, if_pos c5]]
    exact x_vret S hr hlk hP hS d_F_copyWords_36
  · refine lv_aload_n S.1 S.2.1 d_F_copyWords_8 rfl (lv_at hl 0 rfl) ?_
    refine lv_iload_n S.1 S.2.1 d_F_copyWords_9 rfl (lv_at hl 2 rfl) ?_
    refine x_callVi (As := [.int a2]) (rest := []) S hK ci_F_30 (c_F_isFrame l D ad n cI cS cQ hE V a2) (x_recF hK hP) hP hS ⟨rfl, rfl, Nat.le_of_ble_eq_true rfl, Nat.le_of_ble_eq_true rfl⟩ rfl hl.1 rfl (Nat.le_of_ble_eq_true rfl) d_F_copyWords_10 (fun H locs hP hS => ?_)
    refine lv_if_eq (tgt := 36) S.1 S.2.1 d_F_copyWords_13 (by decide) (fun c13 => ?_) (fun c13 => ?_)
    · rw [show j_F_copyWords n V a1 a2 = V from by rw [j_F_copyWords, if_neg c5, if_pos c13]]
      exact x_vret S hr hlk hP hS d_F_copyWords_36
    · refine lv_aload_n S.1 S.2.1 d_F_copyWords_16 rfl (lv_at hl 0 rfl) ?_
      refine x_get_words S hK hP tg_44 d_F_copyWords_17 ?_
      refine lv_iload_n S.1 S.2.1 d_F_copyWords_20 rfl (lv_at hl 1 rfl) ?_
      refine x_ald_words S hK hP (isFrame_in hE c5) d_F_copyWords_21 ?_
      refine lv_iconst (v := 0) S.1 S.2.1 d_F_copyWords_22 (by decide) ?_
      refine lv_aload_n S.1 S.2.1 d_F_copyWords_23 rfl (lv_at hl 0 rfl) ?_
      refine x_get_words S hK hP tg_44 d_F_copyWords_24 ?_
      refine lv_iload_n S.1 S.2.1 d_F_copyWords_27 rfl (lv_at hl 2 rfl) ?_
      refine x_ald_words S hK hP (isFrame_in hE c13) d_F_copyWords_28 ?_
      refine lv_iconst (v := 0) S.1 S.2.1 d_F_copyWords_29 (by decide) ?_
      refine lv_sipush (v := 1024) S.1 S.2.1 d_F_copyWords_30 (by decide) ?_
      refine x_copy S hl.1 hE hK hP hS (vin_lt (isFrame_in hE c5)) (vin_lt (isFrame_in hE c13)) tg_230 tg_231 tg_232 tg_233 (Nat.le_of_ble_eq_true rfl) (Nat.le_of_ble_eq_true rfl) d_F_copyWords_33 (fun H locs hP hS => ?_)
      rw [show j_F_copyWords n V a1 a2 = s_row V a2.toNatClampNeg (v_words V a1.toNatClampNeg) from by rw [j_F_copyWords, if_neg c5, if_neg c13]]
      exact x_vret S hr hlk hP hS d_F_copyWords_36
/-- PageVault$Space.shareRegion(LPageVault$Space;I)V -/
def j_S_shareRegion (n : Nat) (V : VS) (k : Nat) (q : Nat) (a2 : Int32) : VS :=
  j_S_shareRegion_h22 n 1025 (j_F_copyWords n ((j_S_addTable n V k a2).2) (j_S_tableOf n ((j_S_addTable n V k a2).2) q a2) ((j_S_addTable n V k a2).1)) k ((j_S_addTable n V k a2).1) 0
set_option maxHeartbeats 4000000 in
set_option maxRecDepth 100000 in
theorem c_S_shareRegion (hE : xE ad n) (V : VS) (k : Nat) (hk : k < 16) (q : Nat) (hq : q < 16) (a2 : Int32) : XC l D ad n cI cS cQ y_S_shareRegion b_S_shareRegion 5 none ({ frames := 3, cells := 0, slots := 0, locals := 83 }) [.ref (ad (6 + k)), .ref (ad (6 + q)), .int a2] V none (j_S_shareRegion n V k q a2) := by
  refine FC_intro (by decide) (Nat.le_of_ble_eq_true rfl) ?_
  intro p e s m below meth c ls S hr hlk hK hP hS hl
  have S : CallFix p m c b_S_shareRegion 5 s _ TG "PageVault$Space" := S
  have hl : lv_has ls 5 [(0, .ref (ad (6 + k))), (1, .ref (ad (6 + q))), (2, .int a2)] := hl
  refine lv_aload_n S.1 S.2.1 d_S_shareRegion_0 rfl (lv_at hl 0 rfl) ?_
  refine lv_iload_n S.1 S.2.1 d_S_shareRegion_1 rfl (lv_at hl 2 rfl) ?_
  refine x_callVi (As := [.int a2]) (rest := []) S hK ci_S_69 (c_S_addTable l D ad n cI cS cQ hE V k hk a2) (x_recS hK hP hk) hP hS ⟨rfl, rfl, Nat.le_of_ble_eq_true rfl, Nat.le_of_ble_eq_true rfl⟩ rfl hl.1 rfl (Nat.le_of_ble_eq_true rfl) d_S_shareRegion_2 (fun H locs hP hS => ?_)
  refine lv_istore_n (lv' := [(3, .int ((j_S_addTable n V k a2).1)), (0, .ref (ad (6 + k))), (1, .ref (ad (6 + q))), (2, .int a2)]) S.1 S.2.1 d_S_shareRegion_5 rfl hl (by decide) rfl (fun ls hl => ?_)
  refine lv_aload_n S.1 S.2.1 d_S_shareRegion_6 rfl (lv_at hl 1 rfl) ?_
  refine x_get_sframes S hK hP hk tg_47 d_S_shareRegion_7 ?_
  refine lv_aload_n S.1 S.2.1 d_S_shareRegion_10 rfl (lv_at hl 2 rfl) ?_
  refine lv_iload_n S.1 S.2.1 d_S_shareRegion_11 rfl (lv_at hl 3 rfl) ?_
  refine x_callVi (As := [.int a2]) (rest := [.ref (ad 1)]) S hK ci_S_32 (c_S_tableOf l D ad n cI cS cQ hE ((j_S_addTable n V k a2).2) q hq a2) (x_recS hK hP hq) hP hS ⟨rfl, rfl, Nat.le_of_ble_eq_true rfl, Nat.le_of_ble_eq_true rfl⟩ rfl hl.1 rfl (Nat.le_of_ble_eq_true rfl) d_S_shareRegion_12 (fun H locs hP hS => ?_)
  refine lv_iload_n S.1 S.2.1 d_S_shareRegion_15 rfl (lv_at hl 0 rfl) ?_
  refine x_callVv (As := [.int (j_S_tableOf n ((j_S_addTable n V k a2).2) q a2), .int ((j_S_addTable n V k a2).1)]) (rest := []) S hK ci_S_81 (c_F_copyWords l D ad n cI cS cQ hE ((j_S_addTable n V k a2).2) (j_S_tableOf n ((j_S_addTable n V k a2).2) q a2) ((j_S_addTable n V k a2).1)) (x_recF hK hP) hP hS ⟨rfl, rfl, Nat.le_of_ble_eq_true rfl, Nat.le_of_ble_eq_true rfl⟩ rfl hl.1 rfl (Nat.le_of_ble_eq_true rfl) d_S_shareRegion_16 (fun H locs hP hS => ?_)
  refine lv_iconst (v := 0) S.1 S.2.1 d_S_shareRegion_19 (by decide) ?_
  refine lv_istore (lv' := [(4, .int 0), (3, .int ((j_S_addTable n V k a2).1)), (0, .ref (ad (6 + k))), (1, .ref (ad (6 + q))), (2, .int a2)]) S.1 S.2.1 d_S_shareRegion_20 hl (by decide) rfl (fun ls hl => ?_)
  rw [show j_S_shareRegion n V k q a2 = j_S_shareRegion_h22 n 1025 (j_F_copyWords n ((j_S_addTable n V k a2).2) (j_S_tableOf n ((j_S_addTable n V k a2).2) q a2) ((j_S_addTable n V k a2).1)) k ((j_S_addTable n V k a2).1) 0 from by rw [j_S_shareRegion]]
  exact w_S_shareRegion_h22 l D ad n cI cS cQ hE S hr hlk hK 1025 0 k hk ((j_S_addTable n V k a2).1) 0 (j_F_copyWords n ((j_S_addTable n V k a2).2) (j_S_tableOf n ((j_S_addTable n V k a2).2) q a2) ((j_S_addTable n V k a2).1)) _ _ _ nI_0.symm (by decide) (by decide) hP hS (lv_sub hl [2, 1, 0] rfl)
def j_S_openAsCopy_h10 (n : Nat) : Nat → VS → Nat → Nat → Int32 → VS
  | 0, V, _, _, _ => V
  | f + 1, V, k, q, x2 =>
      if 256 ≤ x2 then
        V
      else
        if (j_S_hasPageIn n V q x2) = 0 then
          j_S_openAsCopy_h10 n f V k q (x2 + 1)
        else
          j_S_openAsCopy_h10 n f (j_S_shareRegion n V k q x2) k q (x2 + 1)
set_option maxHeartbeats 4000000 in
set_option maxRecDepth 100000 in
theorem w_S_openAsCopy_h10 (hE : xE ad n) {p : Program} {e : Env} {s : State} {m : MethodId} {args : Array Value} {below : List Frame} {meth : Method} {c : Code} (S : CallFix p m c b_S_openAsCopy 3 s args TG "PageVault$Space") (hr : meth.sig.returnType = none) (hlk : meth.locks = false) (hK : xK D cI cS cQ s) :
    ∀ (f i : Nat) (k : Nat) (hk : k < 16) (q : Nat) (hq : q < 16) (x2 : Int32) (V : VS) (H : Heap) (locs : List Loc) (ls : Array Slot), x2 = nI i → i < 2 ^ 31 → 256 - i < f → XP D ad n cI cS cQ V H → va_S (iA ad (xN n)) s.heap H locs → lv_has ls 3 [(0, .ref (ad (6 + k))), (1, .ref (ad (6 + q))), (2, .int x2)] → W p l e ({ frames := 4, cells := 0, slots := 0, locals := 107 }) s m args below meth c H locs 0 0 (MQ below (gPost D ad (xN n) none (xc ad n cI cS cQ (j_S_openAsCopy_h10 n f V k q x2))) args s 0 0 (iA ad (xN n))) (F0 m 10 ls []) := by
  intro f
  induction f with
  | zero =>
    intro i k hk q hq x2 V H locs ls ek hi hf hP hS hl
    exact absurd hf (Nat.not_lt_zero _)
  | succ f ih =>
    intro i k hk q hq x2 V H locs ls ek hi hf hP hS hl
    refine lv_iload_n S.1 S.2.1 d_S_openAsCopy_10 rfl (lv_at hl 2 rfl) ?_
    refine lv_sipush (v := 256) S.1 S.2.1 d_S_openAsCopy_11 (by decide) ?_
    refine lv_icmp_ge (tgt := 37) S.1 S.2.1 d_S_openAsCopy_14 (by decide) (fun c14 => ?_) (fun c14 => ?_)
    · rw [show j_S_openAsCopy_h10 n (f + 1) V k q x2 = V from by rw [j_S_openAsCopy_h10, if_pos c14]]
      exact x_vret S hr hlk hP hS d_S_openAsCopy_37
    · refine lv_aload_n S.1 S.2.1 d_S_openAsCopy_17 rfl (lv_at hl 1 rfl) ?_
      refine lv_iload_n S.1 S.2.1 d_S_openAsCopy_18 rfl (lv_at hl 2 rfl) ?_
      refine x_callVi (As := [.int x2]) (rest := []) S hK ci_S_42 (c_S_hasPageIn l D ad n cI cS cQ hE V q hq x2) (x_recS hK hP hq) hP hS ⟨rfl, rfl, Nat.le_of_ble_eq_true rfl, Nat.le_of_ble_eq_true rfl⟩ rfl hl.1 rfl (Nat.le_of_ble_eq_true rfl) d_S_openAsCopy_19 (fun H locs hP hS => ?_)
      refine lv_if_eq (tgt := 31) S.1 S.2.1 d_S_openAsCopy_22 (by decide) (fun c22 => ?_) (fun c22 => ?_)
      · refine lv_iinc (v := x2 + 1) (lv' := [(2, .int (x2 + 1)), (0, .ref (ad (6 + k))), (1, .ref (ad (6 + q)))]) S.1 S.2.1 d_S_openAsCopy_31 hl (k := 2) rfl rfl (by decide) rfl (fun ls hl => ?_)
        refine lv_goto (tgt := 10) S.1 S.2.1 d_S_openAsCopy_34 (by decide) ?_
        have hn9 := hE.2
        have hB := lp_lt (B := 256) (by decide) (by decide) ek hi c14
        rw [show j_S_openAsCopy_h10 n (f + 1) V k q x2 = j_S_openAsCopy_h10 n f V k q (x2 + 1) from by rw [j_S_openAsCopy_h10, if_neg c14, if_pos c22]]
        exact ih (i + 1) k hk q hq (x2 + 1) V _ _ _ (by rw [ek]; exact nI_1 i) (by omega) (by omega) hP hS (lv_sub hl [1, 2, 0] rfl)
      · refine lv_aload_n S.1 S.2.1 d_S_openAsCopy_25 rfl (lv_at hl 0 rfl) ?_
        refine lv_aload_n S.1 S.2.1 d_S_openAsCopy_26 rfl (lv_at hl 1 rfl) ?_
        refine lv_iload_n S.1 S.2.1 d_S_openAsCopy_27 rfl (lv_at hl 2 rfl) ?_
        refine x_callVv (As := [.ref (ad (6 + q)), .int x2]) (rest := []) S hK ci_S_46 (c_S_shareRegion l D ad n cI cS cQ hE V k hk q hq x2) (x_recS hK hP hk) hP hS ⟨rfl, rfl, Nat.le_of_ble_eq_true rfl, Nat.le_of_ble_eq_true rfl⟩ rfl hl.1 rfl (Nat.le_of_ble_eq_true rfl) d_S_openAsCopy_28 (fun H locs hP hS => ?_)
        refine lv_iinc (v := x2 + 1) (lv' := [(2, .int (x2 + 1)), (0, .ref (ad (6 + k))), (1, .ref (ad (6 + q)))]) S.1 S.2.1 d_S_openAsCopy_31 hl (k := 2) rfl rfl (by decide) rfl (fun ls hl => ?_)
        refine lv_goto (tgt := 10) S.1 S.2.1 d_S_openAsCopy_34 (by decide) ?_
        have hn9 := hE.2
        have hB := lp_lt (B := 256) (by decide) (by decide) ek hi c14
        rw [show j_S_openAsCopy_h10 n (f + 1) V k q x2 = j_S_openAsCopy_h10 n f (j_S_shareRegion n V k q x2) k q (x2 + 1) from by rw [j_S_openAsCopy_h10, if_neg c14, if_neg c22]]
        exact ih (i + 1) k hk q hq (x2 + 1) (j_S_shareRegion n V k q x2) _ _ _ (by rw [ek]; exact nI_1 i) (by omega) (by omega) hP hS (lv_sub hl [1, 2, 0] rfl)
end XW
