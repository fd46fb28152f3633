set_option maxHeartbeats 4000000 in
set_option maxRecDepth 100000 in
theorem lc_make (l : Launch) (D : va_G) (adx adm : Nat → Nat) (n : Nat) (cI cS cQ cZ : ClassId) {p : Program} {e : Env} {s : State} {m : MethodId} {below : List Frame} {meth : Method} {c : Code} {b L : Nat} {xs : Nat → Int32} {Q : State → Prop} (h : LE D adx adm n cI cS cQ cZ p s m meth c b L xs) (k : Nat) (x3 : Int32) (V : VS) (M : MS) (H : Heap) (locs : List Loc) (ls : Array Slot) (ek : x3 = nI (1 + 5 * k)) (hc : 1 + 5 * k + 5 ≤ L) (hR : Rl n k V M) (hP : XP D adx n cI cS cQ V H) (hQ : MP D adm cI cZ M H) (hS : va_S (fun q : Nat => s.heap.size ≤ q) s.heap H locs) (hl : lv_has ls 4 [(0, .ref b), (1, .ref (adx 0)), (2, .ref (adm 0)), (3, .int x3)])
    (hn : ∀ (V : VS) (M : MS) (H : Heap) (locs : List Loc) (ls : Array Slot), Rl n (k + 1) V M → XP D adx n cI cS cQ V H → MP D adm cI cZ M H → va_S (fun q : Nat => s.heap.size ≤ q) s.heap H locs → lv_has ls 4 [(0, .ref b), (1, .ref (adx 0)), (2, .ref (adm 0)), (3, .int x3)] → W p l e room_1 s m #[Value.ref b] below meth c H locs 100 50000 Q (F0 m 739 ls [])) :
    W p l e room_1 s m #[Value.ref b] below meth c H locs 100 50000 Q (F0 m 132 ls []) := by
  have S := h.S
  obtain ⟨hX, hbl, hbA⟩ := h.X
  obtain ⟨hp, he, hR⟩ := rl_make hR (h.c512 hc)
  refine lv_aload_n S.1 S.2.1 d_law_132 rfl (lv_at hl 1 rfl) ?_
  refine lx_call (As := []) (rest := []) h ci_L_21 (c_V_make l D adx n cI cS cQ h.hE V) hP hQ hS ⟨rfl, rfl, Nat.le_of_ble_eq_true rfl, Nat.le_of_ble_eq_true rfl⟩ rfl hl.1 rfl (Nat.le_of_ble_eq_true rfl) d_law_133 (fun H locs hP hQ hS => ?_)
  refine lv_aload_n S.1 S.2.1 d_law_136 rfl (lv_at hl 2 rfl) ?_
  refine lm_call (As := []) (rest := [.int ((j_V_make n V).1)]) h ci_L_25 (c_M_make l D adm cI cZ h.hM M hp) hP hQ hS ⟨rfl, rfl, Nat.le_of_ble_eq_true rfl, Nat.le_of_ble_eq_true rfl⟩ rfl hl.1 rfl (Nat.le_of_ble_eq_true rfl) d_law_137 (fun H locs hP hQ hS => ?_)
  refine lv_icmp_eq (tgt := 739) S.1 S.2.1 d_law_140 (by decide) (fun _ => ?_) (fun q => absurd he q)
  exact hn _ _ _ _ _ hR hP hQ hS hl
set_option maxHeartbeats 4000000 in
set_option maxRecDepth 100000 in
theorem lc_drop (l : Launch) (D : va_G) (adx adm : Nat → Nat) (n : Nat) (cI cS cQ cZ : ClassId) {p : Program} {e : Env} {s : State} {m : MethodId} {below : List Frame} {meth : Method} {c : Code} {b L : Nat} {xs : Nat → Int32} {Q : State → Prop} (h : LE D adx adm n cI cS cQ cZ p s m meth c b L xs) (k : Nat) (x3 : Int32) (V : VS) (M : MS) (H : Heap) (locs : List Loc) (ls : Array Slot) (ek : x3 = nI (1 + 5 * k)) (hc : 1 + 5 * k + 5 ≤ L) (hR : Rl n k V M) (hP : XP D adx n cI cS cQ V H) (hQ : MP D adm cI cZ M H) (hS : va_S (fun q : Nat => s.heap.size ≤ q) s.heap H locs) (hl : lv_has ls 4 [(0, .ref b), (1, .ref (adx 0)), (2, .ref (adm 0)), (3, .int x3)])
    (hn : ∀ (V : VS) (M : MS) (H : Heap) (locs : List Loc) (ls : Array Slot), Rl n (k + 1) V M → XP D adx n cI cS cQ V H → MP D adm cI cZ M H → va_S (fun q : Nat => s.heap.size ≤ q) s.heap H locs → lv_has ls 4 [(0, .ref b), (1, .ref (adx 0)), (2, .ref (adm 0)), (3, .int x3)] → W p l e room_1 s m #[Value.ref b] below meth c H locs 100 50000 Q (F0 m 739 ls [])) :
    W p l e room_1 s m #[Value.ref b] below meth c H locs 100 50000 Q (F0 m 145 ls []) := by
  have S := h.S
  obtain ⟨hX, hbl, hbA⟩ := h.X
  obtain ⟨hp, he, hR⟩ := rl_drop hR (h.c512 hc) (xs (x3 + 1).toNatClampNeg)
  refine lv_aload_n S.1 S.2.1 d_law_145 rfl (lv_at hl 1 rfl) ?_
  refine lv_aload_n S.1 S.2.1 d_law_146 rfl (lv_at hl 0 rfl) ?_
  refine lv_iload_n S.1 S.2.1 d_law_147 rfl (lv_at hl 3 rfl) ?_
  refine lv_iconst (v := 1) S.1 S.2.1 d_law_148 (by decide) ?_
  refine lv_iadd S.1 S.2.1 d_law_149 ?_
  refine va_sld S.1 S.2.1 hX hbl hbA hS (h.ix ek hc 1 (by decide)) d_law_150 ?_
  refine lx_call (As := [.int (xs (x3 + 1).toNatClampNeg)]) (rest := []) h ci_L_26 (c_V_drop l D adx n cI cS cQ h.hE V (xs (x3 + 1).toNatClampNeg)) hP hQ hS ⟨rfl, rfl, Nat.le_of_ble_eq_true rfl, Nat.le_of_ble_eq_true rfl⟩ rfl hl.1 rfl (Nat.le_of_ble_eq_true rfl) d_law_151 (fun H locs hP hQ hS => ?_)
  refine lv_aload_n S.1 S.2.1 d_law_154 rfl (lv_at hl 2 rfl) ?_
  refine lv_aload_n S.1 S.2.1 d_law_155 rfl (lv_at hl 0 rfl) ?_
  refine lv_iload_n S.1 S.2.1 d_law_156 rfl (lv_at hl 3 rfl) ?_
  refine lv_iconst (v := 1) S.1 S.2.1 d_law_157 (by decide) ?_
  refine lv_iadd S.1 S.2.1 d_law_158 ?_
  refine va_sld S.1 S.2.1 hX hbl hbA hS (h.ix ek hc 1 (by decide)) d_law_159 ?_
  refine lm_call (As := [.int (xs (x3 + 1).toNatClampNeg)]) (rest := [.int ((j_V_drop n V (xs (x3 + 1).toNatClampNeg)).1)]) h ci_L_30 (c_M_drop l D adm cI cZ h.hM M (xs (x3 + 1).toNatClampNeg) hp) hP hQ hS ⟨rfl, rfl, Nat.le_of_ble_eq_true rfl, Nat.le_of_ble_eq_true rfl⟩ rfl hl.1 rfl (Nat.le_of_ble_eq_true rfl) d_law_160 (fun H locs hP hQ hS => ?_)
  refine lv_icmp_eq (tgt := 739) S.1 S.2.1 d_law_163 (by decide) (fun _ => ?_) (fun q => absurd he q)
  exact hn _ _ _ _ _ hR hP hQ hS hl
set_option maxHeartbeats 4000000 in
set_option maxRecDepth 100000 in
theorem lc_fork (l : Launch) (D : va_G) (adx adm : Nat → Nat) (n : Nat) (cI cS cQ cZ : ClassId) {p : Program} {e : Env} {s : State} {m : MethodId} {below : List Frame} {meth : Method} {c : Code} {b L : Nat} {xs : Nat → Int32} {Q : State → Prop} (h : LE D adx adm n cI cS cQ cZ p s m meth c b L xs) (k : Nat) (x3 : Int32) (V : VS) (M : MS) (H : Heap) (locs : List Loc) (ls : Array Slot) (ek : x3 = nI (1 + 5 * k)) (hc : 1 + 5 * k + 5 ≤ L) (hR : Rl n k V M) (hP : XP D adx n cI cS cQ V H) (hQ : MP D adm cI cZ M H) (hS : va_S (fun q : Nat => s.heap.size ≤ q) s.heap H locs) (hl : lv_has ls 4 [(0, .ref b), (1, .ref (adx 0)), (2, .ref (adm 0)), (3, .int x3)])
    (hn : ∀ (V : VS) (M : MS) (H : Heap) (locs : List Loc) (ls : Array Slot), Rl n (k + 1) V M → XP D adx n cI cS cQ V H → MP D adm cI cZ M H → va_S (fun q : Nat => s.heap.size ≤ q) s.heap H locs → lv_has ls 4 [(0, .ref b), (1, .ref (adx 0)), (2, .ref (adm 0)), (3, .int x3)] → W p l e room_1 s m #[Value.ref b] below meth c H locs 100 50000 Q (F0 m 739 ls [])) :
    W p l e room_1 s m #[Value.ref b] below meth c H locs 100 50000 Q (F0 m 168 ls []) := by
  have S := h.S
  obtain ⟨hX, hbl, hbA⟩ := h.X
  obtain ⟨hp, he, hR⟩ := rl_fork hR (h.c512 hc) (xs (x3 + 1).toNatClampNeg)
  refine lv_aload_n S.1 S.2.1 d_law_168 rfl (lv_at hl 1 rfl) ?_
  refine lv_aload_n S.1 S.2.1 d_law_169 rfl (lv_at hl 0 rfl) ?_
  refine lv_iload_n S.1 S.2.1 d_law_170 rfl (lv_at hl 3 rfl) ?_
  refine lv_iconst (v := 1) S.1 S.2.1 d_law_171 (by decide) ?_
  refine lv_iadd S.1 S.2.1 d_law_172 ?_
  refine va_sld S.1 S.2.1 hX hbl hbA hS (h.ix ek hc 1 (by decide)) d_law_173 ?_
  refine lx_call (As := [.int (xs (x3 + 1).toNatClampNeg)]) (rest := []) h ci_L_31 (c_V_fork l D adx n cI cS cQ h.hE V (xs (x3 + 1).toNatClampNeg)) hP hQ hS ⟨rfl, rfl, Nat.le_of_ble_eq_true rfl, Nat.le_of_ble_eq_true rfl⟩ rfl hl.1 rfl (Nat.le_of_ble_eq_true rfl) d_law_174 (fun H locs hP hQ hS => ?_)
  refine lv_aload_n S.1 S.2.1 d_law_177 rfl (lv_at hl 2 rfl) ?_
  refine lv_aload_n S.1 S.2.1 d_law_178 rfl (lv_at hl 0 rfl) ?_
  refine lv_iload_n S.1 S.2.1 d_law_179 rfl (lv_at hl 3 rfl) ?_
  refine lv_iconst (v := 1) S.1 S.2.1 d_law_180 (by decide) ?_
  refine lv_iadd S.1 S.2.1 d_law_181 ?_
  refine va_sld S.1 S.2.1 hX hbl hbA hS (h.ix ek hc 1 (by decide)) d_law_182 ?_
  refine lm_call (As := [.int (xs (x3 + 1).toNatClampNeg)]) (rest := [.int ((j_V_fork n V (xs (x3 + 1).toNatClampNeg)).1)]) h ci_L_35 (c_M_fork l D adm cI cZ h.hM M (xs (x3 + 1).toNatClampNeg) hp) hP hQ hS ⟨rfl, rfl, Nat.le_of_ble_eq_true rfl, Nat.le_of_ble_eq_true rfl⟩ rfl hl.1 rfl (Nat.le_of_ble_eq_true rfl) d_law_183 (fun H locs hP hQ hS => ?_)
  refine lv_icmp_eq (tgt := 739) S.1 S.2.1 d_law_186 (by decide) (fun _ => ?_) (fun q => absurd he q)
  exact hn _ _ _ _ _ hR hP hQ hS hl
set_option maxHeartbeats 4000000 in
set_option maxRecDepth 100000 in
theorem lc_map (l : Launch) (D : va_G) (adx adm : Nat → Nat) (n : Nat) (cI cS cQ cZ : ClassId) {p : Program} {e : Env} {s : State} {m : MethodId} {below : List Frame} {meth : Method} {c : Code} {b L : Nat} {xs : Nat → Int32} {Q : State → Prop} (h : LE D adx adm n cI cS cQ cZ p s m meth c b L xs) (k : Nat) (x3 : Int32) (V : VS) (M : MS) (H : Heap) (locs : List Loc) (ls : Array Slot) (ek : x3 = nI (1 + 5 * k)) (hc : 1 + 5 * k + 5 ≤ L) (hR : Rl n k V M) (hP : XP D adx n cI cS cQ V H) (hQ : MP D adm cI cZ M H) (hS : va_S (fun q : Nat => s.heap.size ≤ q) s.heap H locs) (hl : lv_has ls 4 [(0, .ref b), (1, .ref (adx 0)), (2, .ref (adm 0)), (3, .int x3)])
    (hn : ∀ (V : VS) (M : MS) (H : Heap) (locs : List Loc) (ls : Array Slot), Rl n (k + 1) V M → XP D adx n cI cS cQ V H → MP D adm cI cZ M H → va_S (fun q : Nat => s.heap.size ≤ q) s.heap H locs → lv_has ls 4 [(0, .ref b), (1, .ref (adx 0)), (2, .ref (adm 0)), (3, .int x3)] → W p l e room_1 s m #[Value.ref b] below meth c H locs 100 50000 Q (F0 m 739 ls [])) :
    W p l e room_1 s m #[Value.ref b] below meth c H locs 100 50000 Q (F0 m 191 ls []) := by
  have S := h.S
  obtain ⟨hX, hbl, hbA⟩ := h.X
  obtain ⟨hp, he, hR⟩ := rl_map hR (h.c512 hc) (xs (x3 + 1).toNatClampNeg) (xs (x3 + 2).toNatClampNeg) (xs (x3 + 3).toNatClampNeg)
  refine lv_aload_n S.1 S.2.1 d_law_191 rfl (lv_at hl 1 rfl) ?_
  refine lv_aload_n S.1 S.2.1 d_law_192 rfl (lv_at hl 0 rfl) ?_
  refine lv_iload_n S.1 S.2.1 d_law_193 rfl (lv_at hl 3 rfl) ?_
  refine lv_iconst (v := 1) S.1 S.2.1 d_law_194 (by decide) ?_
  refine lv_iadd S.1 S.2.1 d_law_195 ?_
  refine va_sld S.1 S.2.1 hX hbl hbA hS (h.ix ek hc 1 (by decide)) d_law_196 ?_
  refine lv_aload_n S.1 S.2.1 d_law_197 rfl (lv_at hl 0 rfl) ?_
  refine lv_iload_n S.1 S.2.1 d_law_198 rfl (lv_at hl 3 rfl) ?_
  refine lv_iconst (v := 2) S.1 S.2.1 d_law_199 (by decide) ?_
  refine lv_iadd S.1 S.2.1 d_law_200 ?_
  refine va_sld S.1 S.2.1 hX hbl hbA hS (h.ix ek hc 2 (by decide)) d_law_201 ?_
  refine lv_aload_n S.1 S.2.1 d_law_202 rfl (lv_at hl 0 rfl) ?_
  refine lv_iload_n S.1 S.2.1 d_law_203 rfl (lv_at hl 3 rfl) ?_
  refine lv_iconst (v := 3) S.1 S.2.1 d_law_204 (by decide) ?_
  refine lv_iadd S.1 S.2.1 d_law_205 ?_
  refine va_sld S.1 S.2.1 hX hbl hbA hS (h.ix ek hc 3 (by decide)) d_law_206 ?_
  refine lx_call (As := [.int (xs (x3 + 1).toNatClampNeg), .int (xs (x3 + 2).toNatClampNeg), .int (xs (x3 + 3).toNatClampNeg)]) (rest := []) h ci_L_36 (c_V_map l D adx n cI cS cQ h.hE V (xs (x3 + 1).toNatClampNeg) (xs (x3 + 2).toNatClampNeg) (xs (x3 + 3).toNatClampNeg)) hP hQ hS ⟨rfl, rfl, Nat.le_of_ble_eq_true rfl, Nat.le_of_ble_eq_true rfl⟩ rfl hl.1 rfl (Nat.le_of_ble_eq_true rfl) d_law_207 (fun H locs hP hQ hS => ?_)
  refine lv_aload_n S.1 S.2.1 d_law_210 rfl (lv_at hl 2 rfl) ?_
  refine lv_aload_n S.1 S.2.1 d_law_211 rfl (lv_at hl 0 rfl) ?_
  refine lv_iload_n S.1 S.2.1 d_law_212 rfl (lv_at hl 3 rfl) ?_
  refine lv_iconst (v := 1) S.1 S.2.1 d_law_213 (by decide) ?_
  refine lv_iadd S.1 S.2.1 d_law_214 ?_
  refine va_sld S.1 S.2.1 hX hbl hbA hS (h.ix ek hc 1 (by decide)) d_law_215 ?_
  refine lv_aload_n S.1 S.2.1 d_law_216 rfl (lv_at hl 0 rfl) ?_
  refine lv_iload_n S.1 S.2.1 d_law_217 rfl (lv_at hl 3 rfl) ?_
  refine lv_iconst (v := 2) S.1 S.2.1 d_law_218 (by decide) ?_
  refine lv_iadd S.1 S.2.1 d_law_219 ?_
  refine va_sld S.1 S.2.1 hX hbl hbA hS (h.ix ek hc 2 (by decide)) d_law_220 ?_
  refine lv_aload_n S.1 S.2.1 d_law_221 rfl (lv_at hl 0 rfl) ?_
  refine lv_iload_n S.1 S.2.1 d_law_222 rfl (lv_at hl 3 rfl) ?_
  refine lv_iconst (v := 3) S.1 S.2.1 d_law_223 (by decide) ?_
  refine lv_iadd S.1 S.2.1 d_law_224 ?_
  refine va_sld S.1 S.2.1 hX hbl hbA hS (h.ix ek hc 3 (by decide)) d_law_225 ?_
  refine lm_call (As := [.int (xs (x3 + 1).toNatClampNeg), .int (xs (x3 + 2).toNatClampNeg), .int (xs (x3 + 3).toNatClampNeg)]) (rest := [.int ((j_V_map n V (xs (x3 + 1).toNatClampNeg) (xs (x3 + 2).toNatClampNeg) (xs (x3 + 3).toNatClampNeg)).1)]) h ci_L_40 (c_M_map l D adm cI cZ h.hM M (xs (x3 + 1).toNatClampNeg) (xs (x3 + 2).toNatClampNeg) (xs (x3 + 3).toNatClampNeg) hp) hP hQ hS ⟨rfl, rfl, Nat.le_of_ble_eq_true rfl, Nat.le_of_ble_eq_true rfl⟩ rfl hl.1 rfl (Nat.le_of_ble_eq_true rfl) d_law_226 (fun H locs hP hQ hS => ?_)
  refine lv_icmp_eq (tgt := 739) S.1 S.2.1 d_law_229 (by decide) (fun _ => ?_) (fun q => absurd he q)
  exact hn _ _ _ _ _ hR hP hQ hS hl
set_option maxHeartbeats 4000000 in
set_option maxRecDepth 100000 in
theorem lc_protect (l : Launch) (D : va_G) (adx adm : Nat → Nat) (n : Nat) (cI cS cQ cZ : ClassId) {p : Program} {e : Env} {s : State} {m : MethodId} {below : List Frame} {meth : Method} {c : Code} {b L : Nat} {xs : Nat → Int32} {Q : State → Prop} (h : LE D adx adm n cI cS cQ cZ p s m meth c b L xs) (k : Nat) (x3 : Int32) (V : VS) (M : MS) (H : Heap) (locs : List Loc) (ls : Array Slot) (ek : x3 = nI (1 + 5 * k)) (hc : 1 + 5 * k + 5 ≤ L) (hR : Rl n k V M) (hP : XP D adx n cI cS cQ V H) (hQ : MP D adm cI cZ M H) (hS : va_S (fun q : Nat => s.heap.size ≤ q) s.heap H locs) (hl : lv_has ls 4 [(0, .ref b), (1, .ref (adx 0)), (2, .ref (adm 0)), (3, .int x3)])
    (hn : ∀ (V : VS) (M : MS) (H : Heap) (locs : List Loc) (ls : Array Slot), Rl n (k + 1) V M → XP D adx n cI cS cQ V H → MP D adm cI cZ M H → va_S (fun q : Nat => s.heap.size ≤ q) s.heap H locs → lv_has ls 4 [(0, .ref b), (1, .ref (adx 0)), (2, .ref (adm 0)), (3, .int x3)] → W p l e room_1 s m #[Value.ref b] below meth c H locs 100 50000 Q (F0 m 739 ls [])) :
    W p l e room_1 s m #[Value.ref b] below meth c H locs 100 50000 Q (F0 m 234 ls []) := by
  have S := h.S
  obtain ⟨hX, hbl, hbA⟩ := h.X
  obtain ⟨hp, he, hR⟩ := rl_protect hR (h.c512 hc) (xs (x3 + 1).toNatClampNeg) (xs (x3 + 2).toNatClampNeg) (xs (x3 + 3).toNatClampNeg)
  refine lv_aload_n S.1 S.2.1 d_law_234 rfl (lv_at hl 1 rfl) ?_
  refine lv_aload_n S.1 S.2.1 d_law_235 rfl (lv_at hl 0 rfl) ?_
  refine lv_iload_n S.1 S.2.1 d_law_236 rfl (lv_at hl 3 rfl) ?_
  refine lv_iconst (v := 1) S.1 S.2.1 d_law_237 (by decide) ?_
  refine lv_iadd S.1 S.2.1 d_law_238 ?_
  refine va_sld S.1 S.2.1 hX hbl hbA hS (h.ix ek hc 1 (by decide)) d_law_239 ?_
  refine lv_aload_n S.1 S.2.1 d_law_240 rfl (lv_at hl 0 rfl) ?_
  refine lv_iload_n S.1 S.2.1 d_law_241 rfl (lv_at hl 3 rfl) ?_
  refine lv_iconst (v := 2) S.1 S.2.1 d_law_242 (by decide) ?_
  refine lv_iadd S.1 S.2.1 d_law_243 ?_
  refine va_sld S.1 S.2.1 hX hbl hbA hS (h.ix ek hc 2 (by decide)) d_law_244 ?_
  refine lv_aload_n S.1 S.2.1 d_law_245 rfl (lv_at hl 0 rfl) ?_
  refine lv_iload_n S.1 S.2.1 d_law_246 rfl (lv_at hl 3 rfl) ?_
  refine lv_iconst (v := 3) S.1 S.2.1 d_law_247 (by decide) ?_
  refine lv_iadd S.1 S.2.1 d_law_248 ?_
  refine va_sld S.1 S.2.1 hX hbl hbA hS (h.ix ek hc 3 (by decide)) d_law_249 ?_
  refine lx_call (As := [.int (xs (x3 + 1).toNatClampNeg), .int (xs (x3 + 2).toNatClampNeg), .int (xs (x3 + 3).toNatClampNeg)]) (rest := []) h ci_L_41 (c_V_protect l D adx n cI cS cQ h.hE V (xs (x3 + 1).toNatClampNeg) (xs (x3 + 2).toNatClampNeg) (xs (x3 + 3).toNatClampNeg)) hP hQ hS ⟨rfl, rfl, Nat.le_of_ble_eq_true rfl, Nat.le_of_ble_eq_true rfl⟩ rfl hl.1 rfl (Nat.le_of_ble_eq_true rfl) d_law_250 (fun H locs hP hQ hS => ?_)
  refine lv_aload_n S.1 S.2.1 d_law_253 rfl (lv_at hl 2 rfl) ?_
  refine lv_aload_n S.1 S.2.1 d_law_254 rfl (lv_at hl 0 rfl) ?_
  refine lv_iload_n S.1 S.2.1 d_law_255 rfl (lv_at hl 3 rfl) ?_
  refine lv_iconst (v := 1) S.1 S.2.1 d_law_256 (by decide) ?_
  refine lv_iadd S.1 S.2.1 d_law_257 ?_
  refine va_sld S.1 S.2.1 hX hbl hbA hS (h.ix ek hc 1 (by decide)) d_law_258 ?_
  refine lv_aload_n S.1 S.2.1 d_law_259 rfl (lv_at hl 0 rfl) ?_
  refine lv_iload_n S.1 S.2.1 d_law_260 rfl (lv_at hl 3 rfl) ?_
  refine lv_iconst (v := 2) S.1 S.2.1 d_law_261 (by decide) ?_
  refine lv_iadd S.1 S.2.1 d_law_262 ?_
  refine va_sld S.1 S.2.1 hX hbl hbA hS (h.ix ek hc 2 (by decide)) d_law_263 ?_
  refine lv_aload_n S.1 S.2.1 d_law_264 rfl (lv_at hl 0 rfl) ?_
  refine lv_iload_n S.1 S.2.1 d_law_265 rfl (lv_at hl 3 rfl) ?_
  refine lv_iconst (v := 3) S.1 S.2.1 d_law_266 (by decide) ?_
  refine lv_iadd S.1 S.2.1 d_law_267 ?_
  refine va_sld S.1 S.2.1 hX hbl hbA hS (h.ix ek hc 3 (by decide)) d_law_268 ?_
  refine lm_call (As := [.int (xs (x3 + 1).toNatClampNeg), .int (xs (x3 + 2).toNatClampNeg), .int (xs (x3 + 3).toNatClampNeg)]) (rest := [.int ((j_V_protect n V (xs (x3 + 1).toNatClampNeg) (xs (x3 + 2).toNatClampNeg) (xs (x3 + 3).toNatClampNeg)).1)]) h ci_L_45 (c_M_protect l D adm cI cZ h.hM M (xs (x3 + 1).toNatClampNeg) (xs (x3 + 2).toNatClampNeg) (xs (x3 + 3).toNatClampNeg) hp) hP hQ hS ⟨rfl, rfl, Nat.le_of_ble_eq_true rfl, Nat.le_of_ble_eq_true rfl⟩ rfl hl.1 rfl (Nat.le_of_ble_eq_true rfl) d_law_269 (fun H locs hP hQ hS => ?_)
  refine lv_icmp_eq (tgt := 739) S.1 S.2.1 d_law_272 (by decide) (fun _ => ?_) (fun q => absurd he q)
  exact hn _ _ _ _ _ hR hP hQ hS hl
set_option maxHeartbeats 4000000 in
set_option maxRecDepth 100000 in
theorem lc_grow (l : Launch) (D : va_G) (adx adm : Nat → Nat) (n : Nat) (cI cS cQ cZ : ClassId) {p : Program} {e : Env} {s : State} {m : MethodId} {below : List Frame} {meth : Method} {c : Code} {b L : Nat} {xs : Nat → Int32} {Q : State → Prop} (h : LE D adx adm n cI cS cQ cZ p s m meth c b L xs) (k : Nat) (x3 : Int32) (V : VS) (M : MS) (H : Heap) (locs : List Loc) (ls : Array Slot) (ek : x3 = nI (1 + 5 * k)) (hc : 1 + 5 * k + 5 ≤ L) (hR : Rl n k V M) (hP : XP D adx n cI cS cQ V H) (hQ : MP D adm cI cZ M H) (hS : va_S (fun q : Nat => s.heap.size ≤ q) s.heap H locs) (hl : lv_has ls 4 [(0, .ref b), (1, .ref (adx 0)), (2, .ref (adm 0)), (3, .int x3)])
    (hn : ∀ (V : VS) (M : MS) (H : Heap) (locs : List Loc) (ls : Array Slot), Rl n (k + 1) V M → XP D adx n cI cS cQ V H → MP D adm cI cZ M H → va_S (fun q : Nat => s.heap.size ≤ q) s.heap H locs → lv_has ls 4 [(0, .ref b), (1, .ref (adx 0)), (2, .ref (adm 0)), (3, .int x3)] → W p l e room_1 s m #[Value.ref b] below meth c H locs 100 50000 Q (F0 m 739 ls [])) :
    W p l e room_1 s m #[Value.ref b] below meth c H locs 100 50000 Q (F0 m 277 ls []) := by
  have S := h.S
  obtain ⟨hX, hbl, hbA⟩ := h.X
  obtain ⟨hp, he, hR⟩ := rl_grow hR (h.c512 hc) (xs (x3 + 1).toNatClampNeg) (xs (x3 + 2).toNatClampNeg)
  refine lv_aload_n S.1 S.2.1 d_law_277 rfl (lv_at hl 1 rfl) ?_
  refine lv_aload_n S.1 S.2.1 d_law_278 rfl (lv_at hl 0 rfl) ?_
  refine lv_iload_n S.1 S.2.1 d_law_279 rfl (lv_at hl 3 rfl) ?_
  refine lv_iconst (v := 1) S.1 S.2.1 d_law_280 (by decide) ?_
  refine lv_iadd S.1 S.2.1 d_law_281 ?_
  refine va_sld S.1 S.2.1 hX hbl hbA hS (h.ix ek hc 1 (by decide)) d_law_282 ?_
  refine lv_aload_n S.1 S.2.1 d_law_283 rfl (lv_at hl 0 rfl) ?_
  refine lv_iload_n S.1 S.2.1 d_law_284 rfl (lv_at hl 3 rfl) ?_
  refine lv_iconst (v := 2) S.1 S.2.1 d_law_285 (by decide) ?_
  refine lv_iadd S.1 S.2.1 d_law_286 ?_
  refine va_sld S.1 S.2.1 hX hbl hbA hS (h.ix ek hc 2 (by decide)) d_law_287 ?_
  refine lx_call (As := [.int (xs (x3 + 1).toNatClampNeg), .int (xs (x3 + 2).toNatClampNeg)]) (rest := []) h ci_L_46 (c_V_grow l D adx n cI cS cQ h.hE V (xs (x3 + 1).toNatClampNeg) (xs (x3 + 2).toNatClampNeg)) hP hQ hS ⟨rfl, rfl, Nat.le_of_ble_eq_true rfl, Nat.le_of_ble_eq_true rfl⟩ rfl hl.1 rfl (Nat.le_of_ble_eq_true rfl) d_law_288 (fun H locs hP hQ hS => ?_)
  refine lv_aload_n S.1 S.2.1 d_law_291 rfl (lv_at hl 2 rfl) ?_
  refine lv_aload_n S.1 S.2.1 d_law_292 rfl (lv_at hl 0 rfl) ?_
  refine lv_iload_n S.1 S.2.1 d_law_293 rfl (lv_at hl 3 rfl) ?_
  refine lv_iconst (v := 1) S.1 S.2.1 d_law_294 (by decide) ?_
  refine lv_iadd S.1 S.2.1 d_law_295 ?_
  refine va_sld S.1 S.2.1 hX hbl hbA hS (h.ix ek hc 1 (by decide)) d_law_296 ?_
  refine lv_aload_n S.1 S.2.1 d_law_297 rfl (lv_at hl 0 rfl) ?_
  refine lv_iload_n S.1 S.2.1 d_law_298 rfl (lv_at hl 3 rfl) ?_
  refine lv_iconst (v := 2) S.1 S.2.1 d_law_299 (by decide) ?_
  refine lv_iadd S.1 S.2.1 d_law_300 ?_
  refine va_sld S.1 S.2.1 hX hbl hbA hS (h.ix ek hc 2 (by decide)) d_law_301 ?_
  refine lm_call (As := [.int (xs (x3 + 1).toNatClampNeg), .int (xs (x3 + 2).toNatClampNeg)]) (rest := [.int ((j_V_grow n V (xs (x3 + 1).toNatClampNeg) (xs (x3 + 2).toNatClampNeg)).1)]) h ci_L_50 (c_M_grow l D adm cI cZ h.hM M (xs (x3 + 1).toNatClampNeg) (xs (x3 + 2).toNatClampNeg) hp) hP hQ hS ⟨rfl, rfl, Nat.le_of_ble_eq_true rfl, Nat.le_of_ble_eq_true rfl⟩ rfl hl.1 rfl (Nat.le_of_ble_eq_true rfl) d_law_302 (fun H locs hP hQ hS => ?_)
  refine lv_icmp_eq (tgt := 739) S.1 S.2.1 d_law_305 (by decide) (fun _ => ?_) (fun q => absurd he q)
  exact hn _ _ _ _ _ hR hP hQ hS hl
set_option maxHeartbeats 4000000 in
set_option maxRecDepth 100000 in
theorem lc_size (l : Launch) (D : va_G) (adx adm : Nat → Nat) (n : Nat) (cI cS cQ cZ : ClassId) {p : Program} {e : Env} {s : State} {m : MethodId} {below : List Frame} {meth : Method} {c : Code} {b L : Nat} {xs : Nat → Int32} {Q : State → Prop} (h : LE D adx adm n cI cS cQ cZ p s m meth c b L xs) (k : Nat) (x3 : Int32) (V : VS) (M : MS) (H : Heap) (locs : List Loc) (ls : Array Slot) (ek : x3 = nI (1 + 5 * k)) (hc : 1 + 5 * k + 5 ≤ L) (hR : Rl n k V M) (hP : XP D adx n cI cS cQ V H) (hQ : MP D adm cI cZ M H) (hS : va_S (fun q : Nat => s.heap.size ≤ q) s.heap H locs) (hl : lv_has ls 4 [(0, .ref b), (1, .ref (adx 0)), (2, .ref (adm 0)), (3, .int x3)])
    (hn : ∀ (V : VS) (M : MS) (H : Heap) (locs : List Loc) (ls : Array Slot), Rl n (k + 1) V M → XP D adx n cI cS cQ V H → MP D adm cI cZ M H → va_S (fun q : Nat => s.heap.size ≤ q) s.heap H locs → lv_has ls 4 [(0, .ref b), (1, .ref (adx 0)), (2, .ref (adm 0)), (3, .int x3)] → W p l e room_1 s m #[Value.ref b] below meth c H locs 100 50000 Q (F0 m 739 ls [])) :
    W p l e room_1 s m #[Value.ref b] below meth c H locs 100 50000 Q (F0 m 310 ls []) := by
  have S := h.S
  obtain ⟨hX, hbl, hbA⟩ := h.X
  obtain ⟨he, hR⟩ := rl_size hR (h.c512 hc) (xs (x3 + 1).toNatClampNeg)
  refine lv_aload_n S.1 S.2.1 d_law_310 rfl (lv_at hl 1 rfl) ?_
  refine lv_aload_n S.1 S.2.1 d_law_311 rfl (lv_at hl 0 rfl) ?_
  refine lv_iload_n S.1 S.2.1 d_law_312 rfl (lv_at hl 3 rfl) ?_
  refine lv_iconst (v := 1) S.1 S.2.1 d_law_313 (by decide) ?_
  refine lv_iadd S.1 S.2.1 d_law_314 ?_
  refine va_sld S.1 S.2.1 hX hbl hbA hS (h.ix ek hc 1 (by decide)) d_law_315 ?_
  refine lx_call (As := [.int (xs (x3 + 1).toNatClampNeg)]) (rest := []) h ci_L_51 (c_V_size l D adx n cI cS cQ h.hE V (xs (x3 + 1).toNatClampNeg)) hP hQ hS ⟨rfl, rfl, Nat.le_of_ble_eq_true rfl, Nat.le_of_ble_eq_true rfl⟩ rfl hl.1 rfl (Nat.le_of_ble_eq_true rfl) d_law_316 (fun H locs hP hQ hS => ?_)
  refine lv_aload_n S.1 S.2.1 d_law_319 rfl (lv_at hl 2 rfl) ?_
  refine lv_aload_n S.1 S.2.1 d_law_320 rfl (lv_at hl 0 rfl) ?_
  refine lv_iload_n S.1 S.2.1 d_law_321 rfl (lv_at hl 3 rfl) ?_
  refine lv_iconst (v := 1) S.1 S.2.1 d_law_322 (by decide) ?_
  refine lv_iadd S.1 S.2.1 d_law_323 ?_
  refine va_sld S.1 S.2.1 hX hbl hbA hS (h.ix ek hc 1 (by decide)) d_law_324 ?_
  refine lm_call (As := [.int (xs (x3 + 1).toNatClampNeg)]) (rest := [.int (j_V_size V (xs (x3 + 1).toNatClampNeg))]) h ci_L_54 (c_M_size l D adm cI cZ h.hM M (xs (x3 + 1).toNatClampNeg)) hP hQ hS ⟨rfl, rfl, Nat.le_of_ble_eq_true rfl, Nat.le_of_ble_eq_true rfl⟩ rfl hl.1 rfl (Nat.le_of_ble_eq_true rfl) d_law_325 (fun H locs hP hQ hS => ?_)
  refine lv_icmp_eq (tgt := 739) S.1 S.2.1 d_law_328 (by decide) (fun _ => ?_) (fun q => absurd he q)
  exact hn _ _ _ _ _ hR hP hQ hS hl
set_option maxHeartbeats 4000000 in
set_option maxRecDepth 100000 in
theorem lc_load (l : Launch) (D : va_G) (adx adm : Nat → Nat) (n : Nat) (cI cS cQ cZ : ClassId) {p : Program} {e : Env} {s : State} {m : MethodId} {below : List Frame} {meth : Method} {c : Code} {b L : Nat} {xs : Nat → Int32} {Q : State → Prop} (h : LE D adx adm n cI cS cQ cZ p s m meth c b L xs) (k : Nat) (x3 : Int32) (V : VS) (M : MS) (H : Heap) (locs : List Loc) (ls : Array Slot) (ek : x3 = nI (1 + 5 * k)) (hc : 1 + 5 * k + 5 ≤ L) (hR : Rl n k V M) (hP : XP D adx n cI cS cQ V H) (hQ : MP D adm cI cZ M H) (hS : va_S (fun q : Nat => s.heap.size ≤ q) s.heap H locs) (hl : lv_has ls 4 [(0, .ref b), (1, .ref (adx 0)), (2, .ref (adm 0)), (3, .int x3)])
    (hn : ∀ (V : VS) (M : MS) (H : Heap) (locs : List Loc) (ls : Array Slot), Rl n (k + 1) V M → XP D adx n cI cS cQ V H → MP D adm cI cZ M H → va_S (fun q : Nat => s.heap.size ≤ q) s.heap H locs → lv_has ls 4 [(0, .ref b), (1, .ref (adx 0)), (2, .ref (adm 0)), (3, .int x3)] → W p l e room_1 s m #[Value.ref b] below meth c H locs 100 50000 Q (F0 m 739 ls [])) :
    W p l e room_1 s m #[Value.ref b] below meth c H locs 100 50000 Q (F0 m 333 ls []) := by
  have S := h.S
  obtain ⟨hX, hbl, hbA⟩ := h.X
  obtain ⟨hp, he, hR⟩ := rl_load hR (h.c512 hc) (xs (x3 + 1).toNatClampNeg) (xs (x3 + 2).toNatClampNeg) (xs (x3 + 3).toNatClampNeg)
  refine lv_aload_n S.1 S.2.1 d_law_333 rfl (lv_at hl 1 rfl) ?_
  refine lv_aload_n S.1 S.2.1 d_law_334 rfl (lv_at hl 0 rfl) ?_
  refine lv_iload_n S.1 S.2.1 d_law_335 rfl (lv_at hl 3 rfl) ?_
  refine lv_iconst (v := 1) S.1 S.2.1 d_law_336 (by decide) ?_
  refine lv_iadd S.1 S.2.1 d_law_337 ?_
  refine va_sld S.1 S.2.1 hX hbl hbA hS (h.ix ek hc 1 (by decide)) d_law_338 ?_
  refine lv_aload_n S.1 S.2.1 d_law_339 rfl (lv_at hl 0 rfl) ?_
  refine lv_iload_n S.1 S.2.1 d_law_340 rfl (lv_at hl 3 rfl) ?_
  refine lv_iconst (v := 2) S.1 S.2.1 d_law_341 (by decide) ?_
  refine lv_iadd S.1 S.2.1 d_law_342 ?_
  refine va_sld S.1 S.2.1 hX hbl hbA hS (h.ix ek hc 2 (by decide)) d_law_343 ?_
  refine lv_aload_n S.1 S.2.1 d_law_344 rfl (lv_at hl 0 rfl) ?_
  refine lv_iload_n S.1 S.2.1 d_law_345 rfl (lv_at hl 3 rfl) ?_
  refine lv_iconst (v := 3) S.1 S.2.1 d_law_346 (by decide) ?_
  refine lv_iadd S.1 S.2.1 d_law_347 ?_
  refine va_sld S.1 S.2.1 hX hbl hbA hS (h.ix ek hc 3 (by decide)) d_law_348 ?_
  refine lx_call (As := [.int (xs (x3 + 1).toNatClampNeg), .int (xs (x3 + 2).toNatClampNeg), .int (xs (x3 + 3).toNatClampNeg)]) (rest := []) h ci_L_55 (c_V_load l D adx n cI cS cQ h.hE V (xs (x3 + 1).toNatClampNeg) (xs (x3 + 2).toNatClampNeg) (xs (x3 + 3).toNatClampNeg)) hP hQ hS ⟨rfl, rfl, Nat.le_of_ble_eq_true rfl, Nat.le_of_ble_eq_true rfl⟩ rfl hl.1 rfl (Nat.le_of_ble_eq_true rfl) d_law_349 (fun H locs hP hQ hS => ?_)
  refine lv_aload_n S.1 S.2.1 d_law_352 rfl (lv_at hl 2 rfl) ?_
  refine lv_aload_n S.1 S.2.1 d_law_353 rfl (lv_at hl 0 rfl) ?_
  refine lv_iload_n S.1 S.2.1 d_law_354 rfl (lv_at hl 3 rfl) ?_
  refine lv_iconst (v := 1) S.1 S.2.1 d_law_355 (by decide) ?_
  refine lv_iadd S.1 S.2.1 d_law_356 ?_
  refine va_sld S.1 S.2.1 hX hbl hbA hS (h.ix ek hc 1 (by decide)) d_law_357 ?_
  refine lv_aload_n S.1 S.2.1 d_law_358 rfl (lv_at hl 0 rfl) ?_
  refine lv_iload_n S.1 S.2.1 d_law_359 rfl (lv_at hl 3 rfl) ?_
  refine lv_iconst (v := 2) S.1 S.2.1 d_law_360 (by decide) ?_
  refine lv_iadd S.1 S.2.1 d_law_361 ?_
  refine va_sld S.1 S.2.1 hX hbl hbA hS (h.ix ek hc 2 (by decide)) d_law_362 ?_
  refine lv_aload_n S.1 S.2.1 d_law_363 rfl (lv_at hl 0 rfl) ?_
  refine lv_iload_n S.1 S.2.1 d_law_364 rfl (lv_at hl 3 rfl) ?_
  refine lv_iconst (v := 3) S.1 S.2.1 d_law_365 (by decide) ?_
  refine lv_iadd S.1 S.2.1 d_law_366 ?_
  refine va_sld S.1 S.2.1 hX hbl hbA hS (h.ix ek hc 3 (by decide)) d_law_367 ?_
  refine lm_call (As := [.int (xs (x3 + 1).toNatClampNeg), .int (xs (x3 + 2).toNatClampNeg), .int (xs (x3 + 3).toNatClampNeg)]) (rest := [.int ((j_V_load n V (xs (x3 + 1).toNatClampNeg) (xs (x3 + 2).toNatClampNeg) (xs (x3 + 3).toNatClampNeg)).1)]) h ci_L_58 (c_M_load l D adm cI cZ h.hM M (xs (x3 + 1).toNatClampNeg) (xs (x3 + 2).toNatClampNeg) (xs (x3 + 3).toNatClampNeg) hp) hP hQ hS ⟨rfl, rfl, Nat.le_of_ble_eq_true rfl, Nat.le_of_ble_eq_true rfl⟩ rfl hl.1 rfl (Nat.le_of_ble_eq_true rfl) d_law_368 (fun H locs hP hQ hS => ?_)
  refine lv_icmp_eq (tgt := 739) S.1 S.2.1 d_law_371 (by decide) (fun _ => ?_) (fun q => absurd he q)
  exact hn _ _ _ _ _ hR hP hQ hS hl
set_option maxHeartbeats 4000000 in
set_option maxRecDepth 100000 in
theorem lc_fetch (l : Launch) (D : va_G) (adx adm : Nat → Nat) (n : Nat) (cI cS cQ cZ : ClassId) {p : Program} {e : Env} {s : State} {m : MethodId} {below : List Frame} {meth : Method} {c : Code} {b L : Nat} {xs : Nat → Int32} {Q : State → Prop} (h : LE D adx adm n cI cS cQ cZ p s m meth c b L xs) (k : Nat) (x3 : Int32) (V : VS) (M : MS) (H : Heap) (locs : List Loc) (ls : Array Slot) (ek : x3 = nI (1 + 5 * k)) (hc : 1 + 5 * k + 5 ≤ L) (hR : Rl n k V M) (hP : XP D adx n cI cS cQ V H) (hQ : MP D adm cI cZ M H) (hS : va_S (fun q : Nat => s.heap.size ≤ q) s.heap H locs) (hl : lv_has ls 4 [(0, .ref b), (1, .ref (adx 0)), (2, .ref (adm 0)), (3, .int x3)])
    (hn : ∀ (V : VS) (M : MS) (H : Heap) (locs : List Loc) (ls : Array Slot), Rl n (k + 1) V M → XP D adx n cI cS cQ V H → MP D adm cI cZ M H → va_S (fun q : Nat => s.heap.size ≤ q) s.heap H locs → lv_has ls 4 [(0, .ref b), (1, .ref (adx 0)), (2, .ref (adm 0)), (3, .int x3)] → W p l e room_1 s m #[Value.ref b] below meth c H locs 100 50000 Q (F0 m 739 ls [])) :
    W p l e room_1 s m #[Value.ref b] below meth c H locs 100 50000 Q (F0 m 376 ls []) := by
  have S := h.S
  obtain ⟨hX, hbl, hbA⟩ := h.X
  obtain ⟨hp, he, hR⟩ := rl_fetch hR (h.c512 hc) (xs (x3 + 1).toNatClampNeg) (xs (x3 + 2).toNatClampNeg)
  refine lv_aload_n S.1 S.2.1 d_law_376 rfl (lv_at hl 1 rfl) ?_
  refine lv_aload_n S.1 S.2.1 d_law_377 rfl (lv_at hl 0 rfl) ?_
  refine lv_iload_n S.1 S.2.1 d_law_378 rfl (lv_at hl 3 rfl) ?_
  refine lv_iconst (v := 1) S.1 S.2.1 d_law_379 (by decide) ?_
  refine lv_iadd S.1 S.2.1 d_law_380 ?_
  refine va_sld S.1 S.2.1 hX hbl hbA hS (h.ix ek hc 1 (by decide)) d_law_381 ?_
  refine lv_aload_n S.1 S.2.1 d_law_382 rfl (lv_at hl 0 rfl) ?_
  refine lv_iload_n S.1 S.2.1 d_law_383 rfl (lv_at hl 3 rfl) ?_
  refine lv_iconst (v := 2) S.1 S.2.1 d_law_384 (by decide) ?_
  refine lv_iadd S.1 S.2.1 d_law_385 ?_
  refine va_sld S.1 S.2.1 hX hbl hbA hS (h.ix ek hc 2 (by decide)) d_law_386 ?_
  refine lx_call (As := [.int (xs (x3 + 1).toNatClampNeg), .int (xs (x3 + 2).toNatClampNeg)]) (rest := []) h ci_L_59 (c_V_fetch l D adx n cI cS cQ h.hE V (xs (x3 + 1).toNatClampNeg) (xs (x3 + 2).toNatClampNeg)) hP hQ hS ⟨rfl, rfl, Nat.le_of_ble_eq_true rfl, Nat.le_of_ble_eq_true rfl⟩ rfl hl.1 rfl (Nat.le_of_ble_eq_true rfl) d_law_387 (fun H locs hP hQ hS => ?_)
  refine lv_aload_n S.1 S.2.1 d_law_390 rfl (lv_at hl 2 rfl) ?_
  refine lv_aload_n S.1 S.2.1 d_law_391 rfl (lv_at hl 0 rfl) ?_
  refine lv_iload_n S.1 S.2.1 d_law_392 rfl (lv_at hl 3 rfl) ?_
  refine lv_iconst (v := 1) S.1 S.2.1 d_law_393 (by decide) ?_
  refine lv_iadd S.1 S.2.1 d_law_394 ?_
  refine va_sld S.1 S.2.1 hX hbl hbA hS (h.ix ek hc 1 (by decide)) d_law_395 ?_
  refine lv_aload_n S.1 S.2.1 d_law_396 rfl (lv_at hl 0 rfl) ?_
  refine lv_iload_n S.1 S.2.1 d_law_397 rfl (lv_at hl 3 rfl) ?_
  refine lv_iconst (v := 2) S.1 S.2.1 d_law_398 (by decide) ?_
  refine lv_iadd S.1 S.2.1 d_law_399 ?_
  refine va_sld S.1 S.2.1 hX hbl hbA hS (h.ix ek hc 2 (by decide)) d_law_400 ?_
  refine lm_call (As := [.int (xs (x3 + 1).toNatClampNeg), .int (xs (x3 + 2).toNatClampNeg)]) (rest := [.int ((j_V_fetch n V (xs (x3 + 1).toNatClampNeg) (xs (x3 + 2).toNatClampNeg)).1)]) h ci_L_62 (c_M_fetch l D adm cI cZ h.hM M (xs (x3 + 1).toNatClampNeg) (xs (x3 + 2).toNatClampNeg) hp) hP hQ hS ⟨rfl, rfl, Nat.le_of_ble_eq_true rfl, Nat.le_of_ble_eq_true rfl⟩ rfl hl.1 rfl (Nat.le_of_ble_eq_true rfl) d_law_401 (fun H locs hP hQ hS => ?_)
  refine lv_icmp_eq (tgt := 739) S.1 S.2.1 d_law_404 (by decide) (fun _ => ?_) (fun q => absurd he q)
  exact hn _ _ _ _ _ hR hP hQ hS hl
set_option maxHeartbeats 4000000 in
set_option maxRecDepth 100000 in
theorem lc_store (l : Launch) (D : va_G) (adx adm : Nat → Nat) (n : Nat) (cI cS cQ cZ : ClassId) {p : Program} {e : Env} {s : State} {m : MethodId} {below : List Frame} {meth : Method} {c : Code} {b L : Nat} {xs : Nat → Int32} {Q : State → Prop} (h : LE D adx adm n cI cS cQ cZ p s m meth c b L xs) (k : Nat) (x3 : Int32) (V : VS) (M : MS) (H : Heap) (locs : List Loc) (ls : Array Slot) (ek : x3 = nI (1 + 5 * k)) (hc : 1 + 5 * k + 5 ≤ L) (hR : Rl n k V M) (hP : XP D adx n cI cS cQ V H) (hQ : MP D adm cI cZ M H) (hS : va_S (fun q : Nat => s.heap.size ≤ q) s.heap H locs) (hl : lv_has ls 4 [(0, .ref b), (1, .ref (adx 0)), (2, .ref (adm 0)), (3, .int x3)])
    (hn : ∀ (V : VS) (M : MS) (H : Heap) (locs : List Loc) (ls : Array Slot), Rl n (k + 1) V M → XP D adx n cI cS cQ V H → MP D adm cI cZ M H → va_S (fun q : Nat => s.heap.size ≤ q) s.heap H locs → lv_has ls 4 [(0, .ref b), (1, .ref (adx 0)), (2, .ref (adm 0)), (3, .int x3)] → W p l e room_1 s m #[Value.ref b] below meth c H locs 100 50000 Q (F0 m 739 ls [])) :
    W p l e room_1 s m #[Value.ref b] below meth c H locs 100 50000 Q (F0 m 409 ls []) := by
  have S := h.S
  obtain ⟨hX, hbl, hbA⟩ := h.X
  obtain ⟨hp, he, hR⟩ := rl_store hR (h.c512 hc) (xs (x3 + 1).toNatClampNeg) (xs (x3 + 2).toNatClampNeg) (xs (x3 + 3).toNatClampNeg) (xs (x3 + 4).toNatClampNeg)
  refine lv_aload_n S.1 S.2.1 d_law_409 rfl (lv_at hl 1 rfl) ?_
  refine lv_aload_n S.1 S.2.1 d_law_410 rfl (lv_at hl 0 rfl) ?_
  refine lv_iload_n S.1 S.2.1 d_law_411 rfl (lv_at hl 3 rfl) ?_
  refine lv_iconst (v := 1) S.1 S.2.1 d_law_412 (by decide) ?_
  refine lv_iadd S.1 S.2.1 d_law_413 ?_
  refine va_sld S.1 S.2.1 hX hbl hbA hS (h.ix ek hc 1 (by decide)) d_law_414 ?_
  refine lv_aload_n S.1 S.2.1 d_law_415 rfl (lv_at hl 0 rfl) ?_
  refine lv_iload_n S.1 S.2.1 d_law_416 rfl (lv_at hl 3 rfl) ?_
  refine lv_iconst (v := 2) S.1 S.2.1 d_law_417 (by decide) ?_
  refine lv_iadd S.1 S.2.1 d_law_418 ?_
  refine va_sld S.1 S.2.1 hX hbl hbA hS (h.ix ek hc 2 (by decide)) d_law_419 ?_
  refine lv_aload_n S.1 S.2.1 d_law_420 rfl (lv_at hl 0 rfl) ?_
  refine lv_iload_n S.1 S.2.1 d_law_421 rfl (lv_at hl 3 rfl) ?_
  refine lv_iconst (v := 3) S.1 S.2.1 d_law_422 (by decide) ?_
  refine lv_iadd S.1 S.2.1 d_law_423 ?_
  refine va_sld S.1 S.2.1 hX hbl hbA hS (h.ix ek hc 3 (by decide)) d_law_424 ?_
  refine lv_aload_n S.1 S.2.1 d_law_425 rfl (lv_at hl 0 rfl) ?_
  refine lv_iload_n S.1 S.2.1 d_law_426 rfl (lv_at hl 3 rfl) ?_
  refine lv_iconst (v := 4) S.1 S.2.1 d_law_427 (by decide) ?_
  refine lv_iadd S.1 S.2.1 d_law_428 ?_
  refine va_sld S.1 S.2.1 hX hbl hbA hS (h.ix ek hc 4 (by decide)) d_law_429 ?_
  refine lx_call (As := [.int (xs (x3 + 1).toNatClampNeg), .int (xs (x3 + 2).toNatClampNeg), .int (xs (x3 + 3).toNatClampNeg), .int (xs (x3 + 4).toNatClampNeg)]) (rest := []) h ci_L_63 (c_V_store l D adx n cI cS cQ h.hE V (xs (x3 + 1).toNatClampNeg) (xs (x3 + 2).toNatClampNeg) (xs (x3 + 3).toNatClampNeg) (xs (x3 + 4).toNatClampNeg)) hP hQ hS ⟨rfl, rfl, Nat.le_of_ble_eq_true rfl, Nat.le_of_ble_eq_true rfl⟩ rfl hl.1 rfl (Nat.le_of_ble_eq_true rfl) d_law_430 (fun H locs hP hQ hS => ?_)
  refine lv_aload_n S.1 S.2.1 d_law_433 rfl (lv_at hl 2 rfl) ?_
  refine lv_aload_n S.1 S.2.1 d_law_434 rfl (lv_at hl 0 rfl) ?_
  refine lv_iload_n S.1 S.2.1 d_law_435 rfl (lv_at hl 3 rfl) ?_
  refine lv_iconst (v := 1) S.1 S.2.1 d_law_436 (by decide) ?_
  refine lv_iadd S.1 S.2.1 d_law_437 ?_
  refine va_sld S.1 S.2.1 hX hbl hbA hS (h.ix ek hc 1 (by decide)) d_law_438 ?_
  refine lv_aload_n S.1 S.2.1 d_law_439 rfl (lv_at hl 0 rfl) ?_
  refine lv_iload_n S.1 S.2.1 d_law_440 rfl (lv_at hl 3 rfl) ?_
  refine lv_iconst (v := 2) S.1 S.2.1 d_law_441 (by decide) ?_
  refine lv_iadd S.1 S.2.1 d_law_442 ?_
  refine va_sld S.1 S.2.1 hX hbl hbA hS (h.ix ek hc 2 (by decide)) d_law_443 ?_
  refine lv_aload_n S.1 S.2.1 d_law_444 rfl (lv_at hl 0 rfl) ?_
  refine lv_iload_n S.1 S.2.1 d_law_445 rfl (lv_at hl 3 rfl) ?_
  refine lv_iconst (v := 3) S.1 S.2.1 d_law_446 (by decide) ?_
  refine lv_iadd S.1 S.2.1 d_law_447 ?_
  refine va_sld S.1 S.2.1 hX hbl hbA hS (h.ix ek hc 3 (by decide)) d_law_448 ?_
  refine lv_aload_n S.1 S.2.1 d_law_449 rfl (lv_at hl 0 rfl) ?_
  refine lv_iload_n S.1 S.2.1 d_law_450 rfl (lv_at hl 3 rfl) ?_
  refine lv_iconst (v := 4) S.1 S.2.1 d_law_451 (by decide) ?_
  refine lv_iadd S.1 S.2.1 d_law_452 ?_
  refine va_sld S.1 S.2.1 hX hbl hbA hS (h.ix ek hc 4 (by decide)) d_law_453 ?_
  refine lm_call (As := [.int (xs (x3 + 1).toNatClampNeg), .int (xs (x3 + 2).toNatClampNeg), .int (xs (x3 + 3).toNatClampNeg), .int (xs (x3 + 4).toNatClampNeg)]) (rest := [.int ((j_V_store n V (xs (x3 + 1).toNatClampNeg) (xs (x3 + 2).toNatClampNeg) (xs (x3 + 3).toNatClampNeg) (xs (x3 + 4).toNatClampNeg)).1)]) h ci_L_67 (c_M_store l D adm cI cZ h.hM M (xs (x3 + 1).toNatClampNeg) (xs (x3 + 2).toNatClampNeg) (xs (x3 + 3).toNatClampNeg) (xs (x3 + 4).toNatClampNeg) hp) hP hQ hS ⟨rfl, rfl, Nat.le_of_ble_eq_true rfl, Nat.le_of_ble_eq_true rfl⟩ rfl hl.1 rfl (Nat.le_of_ble_eq_true rfl) d_law_454 (fun H locs hP hQ hS => ?_)
  refine lv_icmp_eq (tgt := 739) S.1 S.2.1 d_law_457 (by decide) (fun _ => ?_) (fun q => absurd he q)
  exact hn _ _ _ _ _ hR hP hQ hS hl
set_option maxHeartbeats 4000000 in
set_option maxRecDepth 100000 in
theorem lc_trap (l : Launch) (D : va_G) (adx adm : Nat → Nat) (n : Nat) (cI cS cQ cZ : ClassId) {p : Program} {e : Env} {s : State} {m : MethodId} {below : List Frame} {meth : Method} {c : Code} {b L : Nat} {xs : Nat → Int32} {Q : State → Prop} (h : LE D adx adm n cI cS cQ cZ p s m meth c b L xs) (k : Nat) (x3 : Int32) (V : VS) (M : MS) (H : Heap) (locs : List Loc) (ls : Array Slot) (ek : x3 = nI (1 + 5 * k)) (hc : 1 + 5 * k + 5 ≤ L) (hR : Rl n k V M) (hP : XP D adx n cI cS cQ V H) (hQ : MP D adm cI cZ M H) (hS : va_S (fun q : Nat => s.heap.size ≤ q) s.heap H locs) (hl : lv_has ls 4 [(0, .ref b), (1, .ref (adx 0)), (2, .ref (adm 0)), (3, .int x3)])
    (hn : ∀ (V : VS) (M : MS) (H : Heap) (locs : List Loc) (ls : Array Slot), Rl n (k + 1) V M → XP D adx n cI cS cQ V H → MP D adm cI cZ M H → va_S (fun q : Nat => s.heap.size ≤ q) s.heap H locs → lv_has ls 4 [(0, .ref b), (1, .ref (adx 0)), (2, .ref (adm 0)), (3, .int x3)] → W p l e room_1 s m #[Value.ref b] below meth c H locs 100 50000 Q (F0 m 739 ls [])) :
    W p l e room_1 s m #[Value.ref b] below meth c H locs 100 50000 Q (F0 m 462 ls []) := by
  have S := h.S
  obtain ⟨hX, hbl, hbA⟩ := h.X
  obtain ⟨he, hR⟩ := rl_trap hR (h.c512 hc)
  refine lv_aload_n S.1 S.2.1 d_law_462 rfl (lv_at hl 1 rfl) ?_
  refine lx_call (As := []) (rest := []) h ci_L_68 (c_V_trap l D adx n cI cS cQ h.hE V) hP hQ hS ⟨rfl, rfl, Nat.le_of_ble_eq_true rfl, Nat.le_of_ble_eq_true rfl⟩ rfl hl.1 rfl (Nat.le_of_ble_eq_true rfl) d_law_463 (fun H locs hP hQ hS => ?_)
  refine lv_aload_n S.1 S.2.1 d_law_466 rfl (lv_at hl 2 rfl) ?_
  refine lm_call (As := []) (rest := [.int (j_V_trap V)]) h ci_L_71 (c_M_trap l D adm cI cZ h.hM M) hP hQ hS ⟨rfl, rfl, Nat.le_of_ble_eq_true rfl, Nat.le_of_ble_eq_true rfl⟩ rfl hl.1 rfl (Nat.le_of_ble_eq_true rfl) d_law_467 (fun H locs hP hQ hS => ?_)
  refine lv_icmp_eq (tgt := 739) S.1 S.2.1 d_law_470 (by decide) (fun _ => ?_) (fun q => absurd he q)
  exact hn _ _ _ _ _ hR hP hQ hS hl
set_option maxHeartbeats 4000000 in
set_option maxRecDepth 100000 in
theorem lc_out (l : Launch) (D : va_G) (adx adm : Nat → Nat) (n : Nat) (cI cS cQ cZ : ClassId) {p : Program} {e : Env} {s : State} {m : MethodId} {below : List Frame} {meth : Method} {c : Code} {b L : Nat} {xs : Nat → Int32} {Q : State → Prop} (h : LE D adx adm n cI cS cQ cZ p s m meth c b L xs) (k : Nat) (x3 : Int32) (V : VS) (M : MS) (H : Heap) (locs : List Loc) (ls : Array Slot) (ek : x3 = nI (1 + 5 * k)) (hc : 1 + 5 * k + 5 ≤ L) (hR : Rl n k V M) (hP : XP D adx n cI cS cQ V H) (hQ : MP D adm cI cZ M H) (hS : va_S (fun q : Nat => s.heap.size ≤ q) s.heap H locs) (hl : lv_has ls 4 [(0, .ref b), (1, .ref (adx 0)), (2, .ref (adm 0)), (3, .int x3)])
    (hn : ∀ (V : VS) (M : MS) (H : Heap) (locs : List Loc) (ls : Array Slot), Rl n (k + 1) V M → XP D adx n cI cS cQ V H → MP D adm cI cZ M H → va_S (fun q : Nat => s.heap.size ≤ q) s.heap H locs → lv_has ls 4 [(0, .ref b), (1, .ref (adx 0)), (2, .ref (adm 0)), (3, .int x3)] → W p l e room_1 s m #[Value.ref b] below meth c H locs 100 50000 Q (F0 m 739 ls [])) :
    W p l e room_1 s m #[Value.ref b] below meth c H locs 100 50000 Q (F0 m 475 ls []) := by
  have S := h.S
  obtain ⟨hX, hbl, hbA⟩ := h.X
  obtain ⟨hp, he, hR⟩ := rl_out hR (h.c512 hc) (xs (x3 + 1).toNatClampNeg) (xs (x3 + 2).toNatClampNeg) (xs (x3 + 3).toNatClampNeg)
  refine lv_aload_n S.1 S.2.1 d_law_475 rfl (lv_at hl 1 rfl) ?_
  refine lv_aload_n S.1 S.2.1 d_law_476 rfl (lv_at hl 0 rfl) ?_
  refine lv_iload_n S.1 S.2.1 d_law_477 rfl (lv_at hl 3 rfl) ?_
  refine lv_iconst (v := 1) S.1 S.2.1 d_law_478 (by decide) ?_
  refine lv_iadd S.1 S.2.1 d_law_479 ?_
  refine va_sld S.1 S.2.1 hX hbl hbA hS (h.ix ek hc 1 (by decide)) d_law_480 ?_
  refine lv_aload_n S.1 S.2.1 d_law_481 rfl (lv_at hl 0 rfl) ?_
  refine lv_iload_n S.1 S.2.1 d_law_482 rfl (lv_at hl 3 rfl) ?_
  refine lv_iconst (v := 2) S.1 S.2.1 d_law_483 (by decide) ?_
  refine lv_iadd S.1 S.2.1 d_law_484 ?_
  refine va_sld S.1 S.2.1 hX hbl hbA hS (h.ix ek hc 2 (by decide)) d_law_485 ?_
  refine lv_aload_n S.1 S.2.1 d_law_486 rfl (lv_at hl 0 rfl) ?_
  refine lv_iload_n S.1 S.2.1 d_law_487 rfl (lv_at hl 3 rfl) ?_
  refine lv_iconst (v := 3) S.1 S.2.1 d_law_488 (by decide) ?_
  refine lv_iadd S.1 S.2.1 d_law_489 ?_
  refine va_sld S.1 S.2.1 hX hbl hbA hS (h.ix ek hc 3 (by decide)) d_law_490 ?_
  refine lx_call (As := [.int (xs (x3 + 1).toNatClampNeg), .int (xs (x3 + 2).toNatClampNeg), .int (xs (x3 + 3).toNatClampNeg)]) (rest := []) h ci_L_72 (c_V_out l D adx n cI cS cQ h.hE V (xs (x3 + 1).toNatClampNeg) (xs (x3 + 2).toNatClampNeg) (xs (x3 + 3).toNatClampNeg)) hP hQ hS ⟨rfl, rfl, Nat.le_of_ble_eq_true rfl, Nat.le_of_ble_eq_true rfl⟩ rfl hl.1 rfl (Nat.le_of_ble_eq_true rfl) d_law_491 (fun H locs hP hQ hS => ?_)
  refine lv_aload_n S.1 S.2.1 d_law_494 rfl (lv_at hl 2 rfl) ?_
  refine lv_aload_n S.1 S.2.1 d_law_495 rfl (lv_at hl 0 rfl) ?_
  refine lv_iload_n S.1 S.2.1 d_law_496 rfl (lv_at hl 3 rfl) ?_
  refine lv_iconst (v := 1) S.1 S.2.1 d_law_497 (by decide) ?_
  refine lv_iadd S.1 S.2.1 d_law_498 ?_
  refine va_sld S.1 S.2.1 hX hbl hbA hS (h.ix ek hc 1 (by decide)) d_law_499 ?_
  refine lv_aload_n S.1 S.2.1 d_law_500 rfl (lv_at hl 0 rfl) ?_
  refine lv_iload_n S.1 S.2.1 d_law_501 rfl (lv_at hl 3 rfl) ?_
  refine lv_iconst (v := 2) S.1 S.2.1 d_law_502 (by decide) ?_
  refine lv_iadd S.1 S.2.1 d_law_503 ?_
  refine va_sld S.1 S.2.1 hX hbl hbA hS (h.ix ek hc 2 (by decide)) d_law_504 ?_
  refine lv_aload_n S.1 S.2.1 d_law_505 rfl (lv_at hl 0 rfl) ?_
  refine lv_iload_n S.1 S.2.1 d_law_506 rfl (lv_at hl 3 rfl) ?_
  refine lv_iconst (v := 3) S.1 S.2.1 d_law_507 (by decide) ?_
  refine lv_iadd S.1 S.2.1 d_law_508 ?_
  refine va_sld S.1 S.2.1 hX hbl hbA hS (h.ix ek hc 3 (by decide)) d_law_509 ?_
  refine lm_call (As := [.int (xs (x3 + 1).toNatClampNeg), .int (xs (x3 + 2).toNatClampNeg), .int (xs (x3 + 3).toNatClampNeg)]) (rest := [.int ((j_V_out n V (xs (x3 + 1).toNatClampNeg) (xs (x3 + 2).toNatClampNeg) (xs (x3 + 3).toNatClampNeg)).1)]) h ci_L_75 (c_M_out l D adm cI cZ h.hM M (xs (x3 + 1).toNatClampNeg) (xs (x3 + 2).toNatClampNeg) (xs (x3 + 3).toNatClampNeg) hp) hP hQ hS ⟨rfl, rfl, Nat.le_of_ble_eq_true rfl, Nat.le_of_ble_eq_true rfl⟩ rfl hl.1 rfl (Nat.le_of_ble_eq_true rfl) d_law_510 (fun H locs hP hQ hS => ?_)
  refine lv_icmp_eq (tgt := 739) S.1 S.2.1 d_law_513 (by decide) (fun _ => ?_) (fun q => absurd he q)
  exact hn _ _ _ _ _ hR hP hQ hS hl
set_option maxHeartbeats 4000000 in
set_option maxRecDepth 100000 in
theorem lc_in (l : Launch) (D : va_G) (adx adm : Nat → Nat) (n : Nat) (cI cS cQ cZ : ClassId) {p : Program} {e : Env} {s : State} {m : MethodId} {below : List Frame} {meth : Method} {c : Code} {b L : Nat} {xs : Nat → Int32} {Q : State → Prop} (h : LE D adx adm n cI cS cQ cZ p s m meth c b L xs) (k : Nat) (x3 : Int32) (V : VS) (M : MS) (H : Heap) (locs : List Loc) (ls : Array Slot) (ek : x3 = nI (1 + 5 * k)) (hc : 1 + 5 * k + 5 ≤ L) (hR : Rl n k V M) (hP : XP D adx n cI cS cQ V H) (hQ : MP D adm cI cZ M H) (hS : va_S (fun q : Nat => s.heap.size ≤ q) s.heap H locs) (hl : lv_has ls 4 [(0, .ref b), (1, .ref (adx 0)), (2, .ref (adm 0)), (3, .int x3)])
    (hn : ∀ (V : VS) (M : MS) (H : Heap) (locs : List Loc) (ls : Array Slot), Rl n (k + 1) V M → XP D adx n cI cS cQ V H → MP D adm cI cZ M H → va_S (fun q : Nat => s.heap.size ≤ q) s.heap H locs → lv_has ls 4 [(0, .ref b), (1, .ref (adx 0)), (2, .ref (adm 0)), (3, .int x3)] → W p l e room_1 s m #[Value.ref b] below meth c H locs 100 50000 Q (F0 m 739 ls [])) :
    W p l e room_1 s m #[Value.ref b] below meth c H locs 100 50000 Q (F0 m 518 ls []) := by
  have S := h.S
  obtain ⟨hX, hbl, hbA⟩ := h.X
  obtain ⟨hp, he, hR⟩ := rl_in hR (h.c512 hc) (xs (x3 + 1).toNatClampNeg) (xs (x3 + 2).toNatClampNeg) (xs (x3 + 3).toNatClampNeg)
  refine lv_aload_n S.1 S.2.1 d_law_518 rfl (lv_at hl 1 rfl) ?_
  refine lv_aload_n S.1 S.2.1 d_law_519 rfl (lv_at hl 0 rfl) ?_
  refine lv_iload_n S.1 S.2.1 d_law_520 rfl (lv_at hl 3 rfl) ?_
  refine lv_iconst (v := 1) S.1 S.2.1 d_law_521 (by decide) ?_
  refine lv_iadd S.1 S.2.1 d_law_522 ?_
  refine va_sld S.1 S.2.1 hX hbl hbA hS (h.ix ek hc 1 (by decide)) d_law_523 ?_
  refine lv_aload_n S.1 S.2.1 d_law_524 rfl (lv_at hl 0 rfl) ?_
  refine lv_iload_n S.1 S.2.1 d_law_525 rfl (lv_at hl 3 rfl) ?_
  refine lv_iconst (v := 2) S.1 S.2.1 d_law_526 (by decide) ?_
  refine lv_iadd S.1 S.2.1 d_law_527 ?_
  refine va_sld S.1 S.2.1 hX hbl hbA hS (h.ix ek hc 2 (by decide)) d_law_528 ?_
  refine lv_aload_n S.1 S.2.1 d_law_529 rfl (lv_at hl 0 rfl) ?_
  refine lv_iload_n S.1 S.2.1 d_law_530 rfl (lv_at hl 3 rfl) ?_
  refine lv_iconst (v := 3) S.1 S.2.1 d_law_531 (by decide) ?_
  refine lv_iadd S.1 S.2.1 d_law_532 ?_
  refine va_sld S.1 S.2.1 hX hbl hbA hS (h.ix ek hc 3 (by decide)) d_law_533 ?_
  refine lx_call (As := [.int (xs (x3 + 1).toNatClampNeg), .int (xs (x3 + 2).toNatClampNeg), .int (xs (x3 + 3).toNatClampNeg)]) (rest := []) h ci_L_76 (c_V_in l D adx n cI cS cQ h.hE V (xs (x3 + 1).toNatClampNeg) (xs (x3 + 2).toNatClampNeg) (xs (x3 + 3).toNatClampNeg)) hP hQ hS ⟨rfl, rfl, Nat.le_of_ble_eq_true rfl, Nat.le_of_ble_eq_true rfl⟩ rfl hl.1 rfl (Nat.le_of_ble_eq_true rfl) d_law_534 (fun H locs hP hQ hS => ?_)
  refine lv_aload_n S.1 S.2.1 d_law_537 rfl (lv_at hl 2 rfl) ?_
  refine lv_aload_n S.1 S.2.1 d_law_538 rfl (lv_at hl 0 rfl) ?_
  refine lv_iload_n S.1 S.2.1 d_law_539 rfl (lv_at hl 3 rfl) ?_
  refine lv_iconst (v := 1) S.1 S.2.1 d_law_540 (by decide) ?_
  refine lv_iadd S.1 S.2.1 d_law_541 ?_
  refine va_sld S.1 S.2.1 hX hbl hbA hS (h.ix ek hc 1 (by decide)) d_law_542 ?_
  refine lv_aload_n S.1 S.2.1 d_law_543 rfl (lv_at hl 0 rfl) ?_
  refine lv_iload_n S.1 S.2.1 d_law_544 rfl (lv_at hl 3 rfl) ?_
  refine lv_iconst (v := 2) S.1 S.2.1 d_law_545 (by decide) ?_
  refine lv_iadd S.1 S.2.1 d_law_546 ?_
  refine va_sld S.1 S.2.1 hX hbl hbA hS (h.ix ek hc 2 (by decide)) d_law_547 ?_
  refine lv_aload_n S.1 S.2.1 d_law_548 rfl (lv_at hl 0 rfl) ?_
  refine lv_iload_n S.1 S.2.1 d_law_549 rfl (lv_at hl 3 rfl) ?_
  refine lv_iconst (v := 3) S.1 S.2.1 d_law_550 (by decide) ?_
  refine lv_iadd S.1 S.2.1 d_law_551 ?_
  refine va_sld S.1 S.2.1 hX hbl hbA hS (h.ix ek hc 3 (by decide)) d_law_552 ?_
  refine lm_call (As := [.int (xs (x3 + 1).toNatClampNeg), .int (xs (x3 + 2).toNatClampNeg), .int (xs (x3 + 3).toNatClampNeg)]) (rest := [.int ((j_V_in n V (xs (x3 + 1).toNatClampNeg) (xs (x3 + 2).toNatClampNeg) (xs (x3 + 3).toNatClampNeg)).1)]) h ci_L_79 (c_M_in l D adm cI cZ h.hM M (xs (x3 + 1).toNatClampNeg) (xs (x3 + 2).toNatClampNeg) (xs (x3 + 3).toNatClampNeg) hp) hP hQ hS ⟨rfl, rfl, Nat.le_of_ble_eq_true rfl, Nat.le_of_ble_eq_true rfl⟩ rfl hl.1 rfl (Nat.le_of_ble_eq_true rfl) d_law_553 (fun H locs hP hQ hS => ?_)
  refine lv_icmp_eq (tgt := 739) S.1 S.2.1 d_law_556 (by decide) (fun _ => ?_) (fun q => absurd he q)
  exact hn _ _ _ _ _ hR hP hQ hS hl
set_option maxHeartbeats 4000000 in
set_option maxRecDepth 100000 in
theorem lc_text (l : Launch) (D : va_G) (adx adm : Nat → Nat) (n : Nat) (cI cS cQ cZ : ClassId) {p : Program} {e : Env} {s : State} {m : MethodId} {below : List Frame} {meth : Method} {c : Code} {b L : Nat} {xs : Nat → Int32} {Q : State → Prop} (h : LE D adx adm n cI cS cQ cZ p s m meth c b L xs) (k : Nat) (x3 : Int32) (V : VS) (M : MS) (H : Heap) (locs : List Loc) (ls : Array Slot) (ek : x3 = nI (1 + 5 * k)) (hc : 1 + 5 * k + 5 ≤ L) (hR : Rl n k V M) (hP : XP D adx n cI cS cQ V H) (hQ : MP D adm cI cZ M H) (hS : va_S (fun q : Nat => s.heap.size ≤ q) s.heap H locs) (hl : lv_has ls 4 [(0, .ref b), (1, .ref (adx 0)), (2, .ref (adm 0)), (3, .int x3)])
    (hn : ∀ (V : VS) (M : MS) (H : Heap) (locs : List Loc) (ls : Array Slot), Rl n (k + 1) V M → XP D adx n cI cS cQ V H → MP D adm cI cZ M H → va_S (fun q : Nat => s.heap.size ≤ q) s.heap H locs → lv_has ls 4 [(0, .ref b), (1, .ref (adx 0)), (2, .ref (adm 0)), (3, .int x3)] → W p l e room_1 s m #[Value.ref b] below meth c H locs 100 50000 Q (F0 m 739 ls [])) :
    W p l e room_1 s m #[Value.ref b] below meth c H locs 100 50000 Q (F0 m 561 ls []) := by
  have S := h.S
  obtain ⟨hX, hbl, hbA⟩ := h.X
  obtain ⟨hp, he, hR⟩ := rl_text hR (h.c512 hc) (xs (x3 + 1).toNatClampNeg) (xs (x3 + 2).toNatClampNeg) (xs (x3 + 3).toNatClampNeg)
  refine lv_aload_n S.1 S.2.1 d_law_561 rfl (lv_at hl 1 rfl) ?_
  refine lv_aload_n S.1 S.2.1 d_law_562 rfl (lv_at hl 0 rfl) ?_
  refine lv_iload_n S.1 S.2.1 d_law_563 rfl (lv_at hl 3 rfl) ?_
  refine lv_iconst (v := 1) S.1 S.2.1 d_law_564 (by decide) ?_
  refine lv_iadd S.1 S.2.1 d_law_565 ?_
  refine va_sld S.1 S.2.1 hX hbl hbA hS (h.ix ek hc 1 (by decide)) d_law_566 ?_
  refine lv_aload_n S.1 S.2.1 d_law_567 rfl (lv_at hl 0 rfl) ?_
  refine lv_iload_n S.1 S.2.1 d_law_568 rfl (lv_at hl 3 rfl) ?_
  refine lv_iconst (v := 2) S.1 S.2.1 d_law_569 (by decide) ?_
  refine lv_iadd S.1 S.2.1 d_law_570 ?_
  refine va_sld S.1 S.2.1 hX hbl hbA hS (h.ix ek hc 2 (by decide)) d_law_571 ?_
  refine lv_aload_n S.1 S.2.1 d_law_572 rfl (lv_at hl 0 rfl) ?_
  refine lv_iload_n S.1 S.2.1 d_law_573 rfl (lv_at hl 3 rfl) ?_
  refine lv_iconst (v := 3) S.1 S.2.1 d_law_574 (by decide) ?_
  refine lv_iadd S.1 S.2.1 d_law_575 ?_
  refine va_sld S.1 S.2.1 hX hbl hbA hS (h.ix ek hc 3 (by decide)) d_law_576 ?_
  refine lx_call (As := [.int (xs (x3 + 1).toNatClampNeg), .int (xs (x3 + 2).toNatClampNeg), .int (xs (x3 + 3).toNatClampNeg)]) (rest := []) h ci_L_80 (c_V_text l D adx n cI cS cQ h.hE V (xs (x3 + 1).toNatClampNeg) (xs (x3 + 2).toNatClampNeg) (xs (x3 + 3).toNatClampNeg)) hP hQ hS ⟨rfl, rfl, Nat.le_of_ble_eq_true rfl, Nat.le_of_ble_eq_true rfl⟩ rfl hl.1 rfl (Nat.le_of_ble_eq_true rfl) d_law_577 (fun H locs hP hQ hS => ?_)
  refine lv_aload_n S.1 S.2.1 d_law_580 rfl (lv_at hl 2 rfl) ?_
  refine lv_aload_n S.1 S.2.1 d_law_581 rfl (lv_at hl 0 rfl) ?_
  refine lv_iload_n S.1 S.2.1 d_law_582 rfl (lv_at hl 3 rfl) ?_
  refine lv_iconst (v := 1) S.1 S.2.1 d_law_583 (by decide) ?_
  refine lv_iadd S.1 S.2.1 d_law_584 ?_
  refine va_sld S.1 S.2.1 hX hbl hbA hS (h.ix ek hc 1 (by decide)) d_law_585 ?_
  refine lv_aload_n S.1 S.2.1 d_law_586 rfl (lv_at hl 0 rfl) ?_
  refine lv_iload_n S.1 S.2.1 d_law_587 rfl (lv_at hl 3 rfl) ?_
  refine lv_iconst (v := 2) S.1 S.2.1 d_law_588 (by decide) ?_
  refine lv_iadd S.1 S.2.1 d_law_589 ?_
  refine va_sld S.1 S.2.1 hX hbl hbA hS (h.ix ek hc 2 (by decide)) d_law_590 ?_
  refine lv_aload_n S.1 S.2.1 d_law_591 rfl (lv_at hl 0 rfl) ?_
  refine lv_iload_n S.1 S.2.1 d_law_592 rfl (lv_at hl 3 rfl) ?_
  refine lv_iconst (v := 3) S.1 S.2.1 d_law_593 (by decide) ?_
  refine lv_iadd S.1 S.2.1 d_law_594 ?_
  refine va_sld S.1 S.2.1 hX hbl hbA hS (h.ix ek hc 3 (by decide)) d_law_595 ?_
  refine lm_call (As := [.int (xs (x3 + 1).toNatClampNeg), .int (xs (x3 + 2).toNatClampNeg), .int (xs (x3 + 3).toNatClampNeg)]) (rest := [.int ((j_V_text n V (xs (x3 + 1).toNatClampNeg) (xs (x3 + 2).toNatClampNeg) (xs (x3 + 3).toNatClampNeg)).1)]) h ci_L_83 (c_M_text l D adm cI cZ h.hM M (xs (x3 + 1).toNatClampNeg) (xs (x3 + 2).toNatClampNeg) (xs (x3 + 3).toNatClampNeg) hp) hP hQ hS ⟨rfl, rfl, Nat.le_of_ble_eq_true rfl, Nat.le_of_ble_eq_true rfl⟩ rfl hl.1 rfl (Nat.le_of_ble_eq_true rfl) d_law_596 (fun H locs hP hQ hS => ?_)
  refine lv_icmp_eq (tgt := 739) S.1 S.2.1 d_law_599 (by decide) (fun _ => ?_) (fun q => absurd he q)
  exact hn _ _ _ _ _ hR hP hQ hS hl
set_option maxHeartbeats 4000000 in
set_option maxRecDepth 100000 in
theorem lc_put (l : Launch) (D : va_G) (adx adm : Nat → Nat) (n : Nat) (cI cS cQ cZ : ClassId) {p : Program} {e : Env} {s : State} {m : MethodId} {below : List Frame} {meth : Method} {c : Code} {b L : Nat} {xs : Nat → Int32} {Q : State → Prop} (h : LE D adx adm n cI cS cQ cZ p s m meth c b L xs) (k : Nat) (x3 : Int32) (V : VS) (M : MS) (H : Heap) (locs : List Loc) (ls : Array Slot) (ek : x3 = nI (1 + 5 * k)) (hc : 1 + 5 * k + 5 ≤ L) (hR : Rl n k V M) (hP : XP D adx n cI cS cQ V H) (hQ : MP D adm cI cZ M H) (hS : va_S (fun q : Nat => s.heap.size ≤ q) s.heap H locs) (hl : lv_has ls 4 [(0, .ref b), (1, .ref (adx 0)), (2, .ref (adm 0)), (3, .int x3)])
    (hn : ∀ (V : VS) (M : MS) (H : Heap) (locs : List Loc) (ls : Array Slot), Rl n (k + 1) V M → XP D adx n cI cS cQ V H → MP D adm cI cZ M H → va_S (fun q : Nat => s.heap.size ≤ q) s.heap H locs → lv_has ls 4 [(0, .ref b), (1, .ref (adx 0)), (2, .ref (adm 0)), (3, .int x3)] → W p l e room_1 s m #[Value.ref b] below meth c H locs 100 50000 Q (F0 m 739 ls [])) :
    W p l e room_1 s m #[Value.ref b] below meth c H locs 100 50000 Q (F0 m 604 ls []) := by
  have S := h.S
  obtain ⟨hX, hbl, hbA⟩ := h.X
  obtain ⟨hp, he, hR⟩ := rl_put hR (h.c512 hc) (xs (x3 + 1).toNatClampNeg) (xs (x3 + 2).toNatClampNeg)
  refine lv_aload_n S.1 S.2.1 d_law_604 rfl (lv_at hl 1 rfl) ?_
  refine lv_aload_n S.1 S.2.1 d_law_605 rfl (lv_at hl 0 rfl) ?_
  refine lv_iload_n S.1 S.2.1 d_law_606 rfl (lv_at hl 3 rfl) ?_
  refine lv_iconst (v := 1) S.1 S.2.1 d_law_607 (by decide) ?_
  refine lv_iadd S.1 S.2.1 d_law_608 ?_
  refine va_sld S.1 S.2.1 hX hbl hbA hS (h.ix ek hc 1 (by decide)) d_law_609 ?_
  refine lv_aload_n S.1 S.2.1 d_law_610 rfl (lv_at hl 0 rfl) ?_
  refine lv_iload_n S.1 S.2.1 d_law_611 rfl (lv_at hl 3 rfl) ?_
  refine lv_iconst (v := 2) S.1 S.2.1 d_law_612 (by decide) ?_
  refine lv_iadd S.1 S.2.1 d_law_613 ?_
  refine va_sld S.1 S.2.1 hX hbl hbA hS (h.ix ek hc 2 (by decide)) d_law_614 ?_
  refine lx_call (As := [.int (xs (x3 + 1).toNatClampNeg), .int (xs (x3 + 2).toNatClampNeg)]) (rest := []) h ci_L_84 (c_V_put l D adx n cI cS cQ h.hE V (xs (x3 + 1).toNatClampNeg) (xs (x3 + 2).toNatClampNeg)) hP hQ hS ⟨rfl, rfl, Nat.le_of_ble_eq_true rfl, Nat.le_of_ble_eq_true rfl⟩ rfl hl.1 rfl (Nat.le_of_ble_eq_true rfl) d_law_615 (fun H locs hP hQ hS => ?_)
  refine lv_aload_n S.1 S.2.1 d_law_618 rfl (lv_at hl 2 rfl) ?_
  refine lv_aload_n S.1 S.2.1 d_law_619 rfl (lv_at hl 0 rfl) ?_
  refine lv_iload_n S.1 S.2.1 d_law_620 rfl (lv_at hl 3 rfl) ?_
  refine lv_iconst (v := 1) S.1 S.2.1 d_law_621 (by decide) ?_
  refine lv_iadd S.1 S.2.1 d_law_622 ?_
  refine va_sld S.1 S.2.1 hX hbl hbA hS (h.ix ek hc 1 (by decide)) d_law_623 ?_
  refine lv_aload_n S.1 S.2.1 d_law_624 rfl (lv_at hl 0 rfl) ?_
  refine lv_iload_n S.1 S.2.1 d_law_625 rfl (lv_at hl 3 rfl) ?_
  refine lv_iconst (v := 2) S.1 S.2.1 d_law_626 (by decide) ?_
  refine lv_iadd S.1 S.2.1 d_law_627 ?_
  refine va_sld S.1 S.2.1 hX hbl hbA hS (h.ix ek hc 2 (by decide)) d_law_628 ?_
  refine lm_call (As := [.int (xs (x3 + 1).toNatClampNeg), .int (xs (x3 + 2).toNatClampNeg)]) (rest := [.int ((j_V_put V (xs (x3 + 1).toNatClampNeg) (xs (x3 + 2).toNatClampNeg)).1)]) h ci_L_88 (c_M_put l D adm cI cZ h.hM M (xs (x3 + 1).toNatClampNeg) (xs (x3 + 2).toNatClampNeg) hp) hP hQ hS ⟨rfl, rfl, Nat.le_of_ble_eq_true rfl, Nat.le_of_ble_eq_true rfl⟩ rfl hl.1 rfl (Nat.le_of_ble_eq_true rfl) d_law_629 (fun H locs hP hQ hS => ?_)
  refine lv_icmp_eq (tgt := 739) S.1 S.2.1 d_law_632 (by decide) (fun _ => ?_) (fun q => absurd he q)
  exact hn _ _ _ _ _ hR hP hQ hS hl
set_option maxHeartbeats 4000000 in
set_option maxRecDepth 100000 in
theorem lc_at (l : Launch) (D : va_G) (adx adm : Nat → Nat) (n : Nat) (cI cS cQ cZ : ClassId) {p : Program} {e : Env} {s : State} {m : MethodId} {below : List Frame} {meth : Method} {c : Code} {b L : Nat} {xs : Nat → Int32} {Q : State → Prop} (h : LE D adx adm n cI cS cQ cZ p s m meth c b L xs) (k : Nat) (x3 : Int32) (V : VS) (M : MS) (H : Heap) (locs : List Loc) (ls : Array Slot) (ek : x3 = nI (1 + 5 * k)) (hc : 1 + 5 * k + 5 ≤ L) (hR : Rl n k V M) (hP : XP D adx n cI cS cQ V H) (hQ : MP D adm cI cZ M H) (hS : va_S (fun q : Nat => s.heap.size ≤ q) s.heap H locs) (hl : lv_has ls 4 [(0, .ref b), (1, .ref (adx 0)), (2, .ref (adm 0)), (3, .int x3)])
    (hn : ∀ (V : VS) (M : MS) (H : Heap) (locs : List Loc) (ls : Array Slot), Rl n (k + 1) V M → XP D adx n cI cS cQ V H → MP D adm cI cZ M H → va_S (fun q : Nat => s.heap.size ≤ q) s.heap H locs → lv_has ls 4 [(0, .ref b), (1, .ref (adx 0)), (2, .ref (adm 0)), (3, .int x3)] → W p l e room_1 s m #[Value.ref b] below meth c H locs 100 50000 Q (F0 m 739 ls [])) :
    W p l e room_1 s m #[Value.ref b] below meth c H locs 100 50000 Q (F0 m 637 ls []) := by
  have S := h.S
  obtain ⟨hX, hbl, hbA⟩ := h.X
  obtain ⟨hp, he, hR⟩ := rl_at hR (h.c512 hc) (xs (x3 + 1).toNatClampNeg)
  refine lv_aload_n S.1 S.2.1 d_law_637 rfl (lv_at hl 1 rfl) ?_
  refine lv_aload_n S.1 S.2.1 d_law_638 rfl (lv_at hl 0 rfl) ?_
  refine lv_iload_n S.1 S.2.1 d_law_639 rfl (lv_at hl 3 rfl) ?_
  refine lv_iconst (v := 1) S.1 S.2.1 d_law_640 (by decide) ?_
  refine lv_iadd S.1 S.2.1 d_law_641 ?_
  refine va_sld S.1 S.2.1 hX hbl hbA hS (h.ix ek hc 1 (by decide)) d_law_642 ?_
  refine lx_call (As := [.int (xs (x3 + 1).toNatClampNeg)]) (rest := []) h ci_L_89 (c_V_at l D adx n cI cS cQ h.hE V (xs (x3 + 1).toNatClampNeg)) hP hQ hS ⟨rfl, rfl, Nat.le_of_ble_eq_true rfl, Nat.le_of_ble_eq_true rfl⟩ rfl hl.1 rfl (Nat.le_of_ble_eq_true rfl) d_law_643 (fun H locs hP hQ hS => ?_)
  refine lv_aload_n S.1 S.2.1 d_law_646 rfl (lv_at hl 2 rfl) ?_
  refine lv_aload_n S.1 S.2.1 d_law_647 rfl (lv_at hl 0 rfl) ?_
  refine lv_iload_n S.1 S.2.1 d_law_648 rfl (lv_at hl 3 rfl) ?_
  refine lv_iconst (v := 1) S.1 S.2.1 d_law_649 (by decide) ?_
  refine lv_iadd S.1 S.2.1 d_law_650 ?_
  refine va_sld S.1 S.2.1 hX hbl hbA hS (h.ix ek hc 1 (by decide)) d_law_651 ?_
  refine lm_call (As := [.int (xs (x3 + 1).toNatClampNeg)]) (rest := [.int (j_V_at V (xs (x3 + 1).toNatClampNeg))]) h ci_L_92 (c_M_at l D adm cI cZ h.hM M (xs (x3 + 1).toNatClampNeg) hp) hP hQ hS ⟨rfl, rfl, Nat.le_of_ble_eq_true rfl, Nat.le_of_ble_eq_true rfl⟩ rfl hl.1 rfl (Nat.le_of_ble_eq_true rfl) d_law_652 (fun H locs hP hQ hS => ?_)
  refine lv_icmp_eq (tgt := 739) S.1 S.2.1 d_law_655 (by decide) (fun _ => ?_) (fun q => absurd he q)
  exact hn _ _ _ _ _ hR hP hQ hS hl
set_option maxHeartbeats 4000000 in
set_option maxRecDepth 100000 in
theorem lc_free (l : Launch) (D : va_G) (adx adm : Nat → Nat) (n : Nat) (cI cS cQ cZ : ClassId) {p : Program} {e : Env} {s : State} {m : MethodId} {below : List Frame} {meth : Method} {c : Code} {b L : Nat} {xs : Nat → Int32} {Q : State → Prop} (h : LE D adx adm n cI cS cQ cZ p s m meth c b L xs) (k : Nat) (x3 : Int32) (V : VS) (M : MS) (H : Heap) (locs : List Loc) (ls : Array Slot) (ek : x3 = nI (1 + 5 * k)) (hc : 1 + 5 * k + 5 ≤ L) (hR : Rl n k V M) (hP : XP D adx n cI cS cQ V H) (hQ : MP D adm cI cZ M H) (hS : va_S (fun q : Nat => s.heap.size ≤ q) s.heap H locs) (hl : lv_has ls 4 [(0, .ref b), (1, .ref (adx 0)), (2, .ref (adm 0)), (3, .int x3)])
    (hn : ∀ (V : VS) (M : MS) (H : Heap) (locs : List Loc) (ls : Array Slot), Rl n (k + 1) V M → XP D adx n cI cS cQ V H → MP D adm cI cZ M H → va_S (fun q : Nat => s.heap.size ≤ q) s.heap H locs → lv_has ls 4 [(0, .ref b), (1, .ref (adx 0)), (2, .ref (adm 0)), (3, .int x3)] → W p l e room_1 s m #[Value.ref b] below meth c H locs 100 50000 Q (F0 m 739 ls [])) :
    W p l e room_1 s m #[Value.ref b] below meth c H locs 100 50000 Q (F0 m 660 ls []) := by
  have S := h.S
  obtain ⟨hX, hbl, hbA⟩ := h.X
  obtain ⟨hp, he, hR⟩ := rl_free hR (h.c512 hc)
  refine lv_aload_n S.1 S.2.1 d_law_660 rfl (lv_at hl 1 rfl) ?_
  refine lx_call (As := []) (rest := []) h ci_L_93 (c_V_free l D adx n cI cS cQ h.hE V) hP hQ hS ⟨rfl, rfl, Nat.le_of_ble_eq_true rfl, Nat.le_of_ble_eq_true rfl⟩ rfl hl.1 rfl (Nat.le_of_ble_eq_true rfl) d_law_661 (fun H locs hP hQ hS => ?_)
  refine lv_aload_n S.1 S.2.1 d_law_664 rfl (lv_at hl 2 rfl) ?_
  refine lm_call (As := []) (rest := [.int (j_V_free V)]) h ci_L_96 (c_M_free l D adm cI cZ h.hM M hp) hP hQ hS ⟨rfl, rfl, Nat.le_of_ble_eq_true rfl, Nat.le_of_ble_eq_true rfl⟩ rfl hl.1 rfl (Nat.le_of_ble_eq_true rfl) d_law_665 (fun H locs hP hQ hS => ?_)
  refine lv_icmp_eq (tgt := 739) S.1 S.2.1 d_law_668 (by decide) (fun _ => ?_) (fun q => absurd he q)
  exact hn _ _ _ _ _ hR hP hQ hS hl
set_option maxHeartbeats 4000000 in
set_option maxRecDepth 100000 in
theorem lc_flags (l : Launch) (D : va_G) (adx adm : Nat → Nat) (n : Nat) (cI cS cQ cZ : ClassId) {p : Program} {e : Env} {s : State} {m : MethodId} {below : List Frame} {meth : Method} {c : Code} {b L : Nat} {xs : Nat → Int32} {Q : State → Prop} (h : LE D adx adm n cI cS cQ cZ p s m meth c b L xs) (k : Nat) (x3 : Int32) (V : VS) (M : MS) (H : Heap) (locs : List Loc) (ls : Array Slot) (ek : x3 = nI (1 + 5 * k)) (hc : 1 + 5 * k + 5 ≤ L) (hR : Rl n k V M) (hP : XP D adx n cI cS cQ V H) (hQ : MP D adm cI cZ M H) (hS : va_S (fun q : Nat => s.heap.size ≤ q) s.heap H locs) (hl : lv_has ls 4 [(0, .ref b), (1, .ref (adx 0)), (2, .ref (adm 0)), (3, .int x3)])
    (hn : ∀ (V : VS) (M : MS) (H : Heap) (locs : List Loc) (ls : Array Slot), Rl n (k + 1) V M → XP D adx n cI cS cQ V H → MP D adm cI cZ M H → va_S (fun q : Nat => s.heap.size ≤ q) s.heap H locs → lv_has ls 4 [(0, .ref b), (1, .ref (adx 0)), (2, .ref (adm 0)), (3, .int x3)] → W p l e room_1 s m #[Value.ref b] below meth c H locs 100 50000 Q (F0 m 739 ls [])) :
    W p l e room_1 s m #[Value.ref b] below meth c H locs 100 50000 Q (F0 m 673 ls []) := by
  have S := h.S
  obtain ⟨hX, hbl, hbA⟩ := h.X
  obtain ⟨hp, he, hR⟩ := rl_flags hR (h.c512 hc) (xs (x3 + 1).toNatClampNeg) (xs (x3 + 2).toNatClampNeg)
  refine lv_aload_n S.1 S.2.1 d_law_673 rfl (lv_at hl 1 rfl) ?_
  refine lv_aload_n S.1 S.2.1 d_law_674 rfl (lv_at hl 0 rfl) ?_
  refine lv_iload_n S.1 S.2.1 d_law_675 rfl (lv_at hl 3 rfl) ?_
  refine lv_iconst (v := 1) S.1 S.2.1 d_law_676 (by decide) ?_
  refine lv_iadd S.1 S.2.1 d_law_677 ?_
  refine va_sld S.1 S.2.1 hX hbl hbA hS (h.ix ek hc 1 (by decide)) d_law_678 ?_
  refine lv_aload_n S.1 S.2.1 d_law_679 rfl (lv_at hl 0 rfl) ?_
  refine lv_iload_n S.1 S.2.1 d_law_680 rfl (lv_at hl 3 rfl) ?_
  refine lv_iconst (v := 2) S.1 S.2.1 d_law_681 (by decide) ?_
  refine lv_iadd S.1 S.2.1 d_law_682 ?_
  refine va_sld S.1 S.2.1 hX hbl hbA hS (h.ix ek hc 2 (by decide)) d_law_683 ?_
  refine lx_call (As := [.int (xs (x3 + 1).toNatClampNeg), .int (xs (x3 + 2).toNatClampNeg)]) (rest := []) h ci_L_97 (c_V_flags l D adx n cI cS cQ h.hE V (xs (x3 + 1).toNatClampNeg) (xs (x3 + 2).toNatClampNeg)) hP hQ hS ⟨rfl, rfl, Nat.le_of_ble_eq_true rfl, Nat.le_of_ble_eq_true rfl⟩ rfl hl.1 rfl (Nat.le_of_ble_eq_true rfl) d_law_684 (fun H locs hP hQ hS => ?_)
  refine lv_aload_n S.1 S.2.1 d_law_687 rfl (lv_at hl 2 rfl) ?_
  refine lv_aload_n S.1 S.2.1 d_law_688 rfl (lv_at hl 0 rfl) ?_
  refine lv_iload_n S.1 S.2.1 d_law_689 rfl (lv_at hl 3 rfl) ?_
  refine lv_iconst (v := 1) S.1 S.2.1 d_law_690 (by decide) ?_
  refine lv_iadd S.1 S.2.1 d_law_691 ?_
  refine va_sld S.1 S.2.1 hX hbl hbA hS (h.ix ek hc 1 (by decide)) d_law_692 ?_
  refine lv_aload_n S.1 S.2.1 d_law_693 rfl (lv_at hl 0 rfl) ?_
  refine lv_iload_n S.1 S.2.1 d_law_694 rfl (lv_at hl 3 rfl) ?_
  refine lv_iconst (v := 2) S.1 S.2.1 d_law_695 (by decide) ?_
  refine lv_iadd S.1 S.2.1 d_law_696 ?_
  refine va_sld S.1 S.2.1 hX hbl hbA hS (h.ix ek hc 2 (by decide)) d_law_697 ?_
  refine lm_call (As := [.int (xs (x3 + 1).toNatClampNeg), .int (xs (x3 + 2).toNatClampNeg)]) (rest := [.int (j_V_flags n V (xs (x3 + 1).toNatClampNeg) (xs (x3 + 2).toNatClampNeg))]) h ci_L_100 (c_M_flags l D adm cI cZ h.hM M (xs (x3 + 1).toNatClampNeg) (xs (x3 + 2).toNatClampNeg) hp) hP hQ hS ⟨rfl, rfl, Nat.le_of_ble_eq_true rfl, Nat.le_of_ble_eq_true rfl⟩ rfl hl.1 rfl (Nat.le_of_ble_eq_true rfl) d_law_698 (fun H locs hP hQ hS => ?_)
  refine lv_icmp_eq (tgt := 739) S.1 S.2.1 d_law_701 (by decide) (fun _ => ?_) (fun q => absurd he q)
  exact hn _ _ _ _ _ hR hP hQ hS hl
set_option maxHeartbeats 4000000 in
set_option maxRecDepth 100000 in
theorem lc_owners (l : Launch) (D : va_G) (adx adm : Nat → Nat) (n : Nat) (cI cS cQ cZ : ClassId) {p : Program} {e : Env} {s : State} {m : MethodId} {below : List Frame} {meth : Method} {c : Code} {b L : Nat} {xs : Nat → Int32} {Q : State → Prop} (h : LE D adx adm n cI cS cQ cZ p s m meth c b L xs) (k : Nat) (x3 : Int32) (V : VS) (M : MS) (H : Heap) (locs : List Loc) (ls : Array Slot) (ek : x3 = nI (1 + 5 * k)) (hc : 1 + 5 * k + 5 ≤ L) (hR : Rl n k V M) (hP : XP D adx n cI cS cQ V H) (hQ : MP D adm cI cZ M H) (hS : va_S (fun q : Nat => s.heap.size ≤ q) s.heap H locs) (hl : lv_has ls 4 [(0, .ref b), (1, .ref (adx 0)), (2, .ref (adm 0)), (3, .int x3)])
    (hn : ∀ (V : VS) (M : MS) (H : Heap) (locs : List Loc) (ls : Array Slot), Rl n (k + 1) V M → XP D adx n cI cS cQ V H → MP D adm cI cZ M H → va_S (fun q : Nat => s.heap.size ≤ q) s.heap H locs → lv_has ls 4 [(0, .ref b), (1, .ref (adx 0)), (2, .ref (adm 0)), (3, .int x3)] → W p l e room_1 s m #[Value.ref b] below meth c H locs 100 50000 Q (F0 m 739 ls [])) :
    W p l e room_1 s m #[Value.ref b] below meth c H locs 100 50000 Q (F0 m 706 ls []) := by
  have S := h.S
  obtain ⟨hX, hbl, hbA⟩ := h.X
  obtain ⟨hp, he, hR⟩ := rl_owners hR (h.c512 hc) (xs (x3 + 1).toNatClampNeg) (xs (x3 + 2).toNatClampNeg)
  refine lv_aload_n S.1 S.2.1 d_law_706 rfl (lv_at hl 1 rfl) ?_
  refine lv_aload_n S.1 S.2.1 d_law_707 rfl (lv_at hl 0 rfl) ?_
  refine lv_iload_n S.1 S.2.1 d_law_708 rfl (lv_at hl 3 rfl) ?_
  refine lv_iconst (v := 1) S.1 S.2.1 d_law_709 (by decide) ?_
  refine lv_iadd S.1 S.2.1 d_law_710 ?_
  refine va_sld S.1 S.2.1 hX hbl hbA hS (h.ix ek hc 1 (by decide)) d_law_711 ?_
  refine lv_aload_n S.1 S.2.1 d_law_712 rfl (lv_at hl 0 rfl) ?_
  refine lv_iload_n S.1 S.2.1 d_law_713 rfl (lv_at hl 3 rfl) ?_
  refine lv_iconst (v := 2) S.1 S.2.1 d_law_714 (by decide) ?_
  refine lv_iadd S.1 S.2.1 d_law_715 ?_
  refine va_sld S.1 S.2.1 hX hbl hbA hS (h.ix ek hc 2 (by decide)) d_law_716 ?_
  refine lx_call (As := [.int (xs (x3 + 1).toNatClampNeg), .int (xs (x3 + 2).toNatClampNeg)]) (rest := []) h ci_L_101 (c_V_owners l D adx n cI cS cQ h.hE V (xs (x3 + 1).toNatClampNeg) (xs (x3 + 2).toNatClampNeg)) hP hQ hS ⟨rfl, rfl, Nat.le_of_ble_eq_true rfl, Nat.le_of_ble_eq_true rfl⟩ rfl hl.1 rfl (Nat.le_of_ble_eq_true rfl) d_law_717 (fun H locs hP hQ hS => ?_)
  refine lv_aload_n S.1 S.2.1 d_law_720 rfl (lv_at hl 2 rfl) ?_
  refine lv_aload_n S.1 S.2.1 d_law_721 rfl (lv_at hl 0 rfl) ?_
  refine lv_iload_n S.1 S.2.1 d_law_722 rfl (lv_at hl 3 rfl) ?_
  refine lv_iconst (v := 1) S.1 S.2.1 d_law_723 (by decide) ?_
  refine lv_iadd S.1 S.2.1 d_law_724 ?_
  refine va_sld S.1 S.2.1 hX hbl hbA hS (h.ix ek hc 1 (by decide)) d_law_725 ?_
  refine lv_aload_n S.1 S.2.1 d_law_726 rfl (lv_at hl 0 rfl) ?_
  refine lv_iload_n S.1 S.2.1 d_law_727 rfl (lv_at hl 3 rfl) ?_
  refine lv_iconst (v := 2) S.1 S.2.1 d_law_728 (by decide) ?_
  refine lv_iadd S.1 S.2.1 d_law_729 ?_
  refine va_sld S.1 S.2.1 hX hbl hbA hS (h.ix ek hc 2 (by decide)) d_law_730 ?_
  refine lm_call (As := [.int (xs (x3 + 1).toNatClampNeg), .int (xs (x3 + 2).toNatClampNeg)]) (rest := [.int (j_V_owners n V (xs (x3 + 1).toNatClampNeg) (xs (x3 + 2).toNatClampNeg))]) h ci_L_104 (c_M_owners l D adm cI cZ h.hM M (xs (x3 + 1).toNatClampNeg) (xs (x3 + 2).toNatClampNeg) hp) hP hQ hS ⟨rfl, rfl, Nat.le_of_ble_eq_true rfl, Nat.le_of_ble_eq_true rfl⟩ rfl hl.1 rfl (Nat.le_of_ble_eq_true rfl) d_law_731 (fun H locs hP hQ hS => ?_)
  refine lv_icmp_eq (tgt := 739) S.1 S.2.1 d_law_734 (by decide) (fun _ => ?_) (fun q => absurd he q)
  exact hn _ _ _ _ _ hR hP hQ hS hl
